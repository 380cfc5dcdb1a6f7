/-! a small world in a large one: idx, the large world's cells -/
/-- where k stands in idx -/
noncomputable def zf_p (idx : List Nat) (k : Nat) : Nat → (Nat → Bool) → Bool := List.rec (motive := fun _ => Nat → (Nat → Bool) → Bool) (fun _ _ => false) (fun a _ ih n f => zcd (Nat.beq a k) (f n) (ih (Nat.succ n) f)) idx
theorem zf_p_ok {k : Nat} {f : Nat → Bool} : ∀ (idx : List Nat) (n : Nat), zf_p idx k n f = true → ∃ i, idx[i]? = some k ∧ f (n + i) = true := by
  intro idx
  induction idx with
  | nil => intro n h; cases h
  | cons a t ih =>
    intro n h
    rcases ze_cond (show zcd (Nat.beq a k) (f n) (zf_p t k (Nat.succ n) f) = true from h) with ⟨h1, h2⟩ | ⟨-, h2⟩
    · have e := ze_beq h1
      subst e
      exact ⟨0, rfl, h2⟩
    · obtain ⟨i, q1, q2⟩ := ih _ h2
      exact ⟨i + 1, q1, by rw [show n + (i + 1) = Nat.succ n + i by omega]; exact q2⟩
/-- u of the small world against v of the large one -/
noncomputable def zf_v0 (N : Nat) (σ : List EV) (idx : List Nat) (u v : EV) : Bool := zv_ v (fun _ => zh_v N σ u v) (fun k => zf_p idx k 0 (fun n => zh_eq u (eR n))) (fun _ => zh_v N σ u v) (fun _ => zh_v N σ u v)
/-- a reference that the small world does not look into: eX 42 is the first of κ .. -/
noncomputable def zf_o (κ : List EV) (m : Nat) (v : EV) (d : Bool) : Bool := zcd (Nat.ble 42 m) (ze_n κ (Nat.sub m 42) (fun a => zh_eq a v)) d
noncomputable def zf_v (N : Nat) (σ : List EV) (idx : List Nat) (κ : List EV) (u v : EV) : Bool := zv_ u (fun _ => zf_v0 N σ idx u v) (fun _ => zf_v0 N σ idx u v) (fun _ => zf_v0 N σ idx u v) (fun m => zf_o κ m v (zf_v0 N σ idx u v))
/-- the small world's addresses: the large one's, and what κ stands for -/
def zf_sp (sp sp' : Nat → Nat) (ρ : List Int32) (ad : List Nat) (κ : List EV) : Prop := (∀ s, s < 40 → sp' s = sp s) ∧ (∀ s, 40 + κ.length ≤ s → sp' s = sp s) ∧ ∀ (t : Nat) (v : EV), κ[t]? = some v → ze_V sp ρ ad v (.ref (sp' (40 + t)))
theorem zf_spc {sp sp' : Nat → Nat} {ρ : List Int32} {ad : List Nat} {u : EV} {x : Value} (h1 : ∀ s, s < 40 → sp' s = sp s) (hu : ∀ m, u = eX m → m < 42) (h : ze_V sp ρ ad u x) : ze_V sp' ρ ad u x := by
  match u, hu, h with
  | .inl (.inl n), _, h => exact h
  | .inl (.inr i), _, h => exact h
  | .inr (.inl (.inl k)), _, h => exact h
  | .inr (.inl (.inr (.inl n))), _, h => exact h
  | .inr (.inl (.inr (.inr i))), _, h => exact h
  | .inr (.inr 0), _, h => exact h
  | .inr (.inr 1), _, h => exact h
  | .inr (.inr (k + 2)), hu, h =>
    have h9 := hu (k + 2) rfl
    exact (show x = .ref (sp k) from h).trans (by rw [h1 k (by omega)])
theorem zf_int {sp sp' : Nat → Nat} {ρ : List Int32} {ad ad' : List Nat} {u : EV} {x : Int32} (h : ze_V sp ρ ad u (.int x)) : ze_V sp' ρ ad' u (.int x) := by
  match u, h with
  | .inl (.inl n), h => exact h
  | .inl (.inr i), h => exact h
  | .inr (.inl (.inl k)), ⟨z, _, b⟩ => cases b
  | .inr (.inl (.inr (.inl n))), h => cases (show Value.int x = .long (lN n) from h)
  | .inr (.inl (.inr (.inr i))), ⟨z, _, b⟩ => cases b
  | .inr (.inr 0), h => cases (show Value.int x = .null from h)
  | .inr (.inr (k + 2)), h => cases (show Value.int x = .ref (sp k) from h)
theorem zf_ref {sp : Nat → Nat} {ρ : List Int32} {ad : List Nat} {u : EV} {x : Value} {a : Nat} (h : ze_V sp ρ ad u (.ref a)) (hx : ze_V sp ρ ad u x) : x = .ref a := by
  match u, h, hx with
  | .inl (.inl n), h, _ => cases (show Value.ref a = .int (nI n) from h)
  | .inl (.inr i), ⟨z, _, b⟩, _ => cases b
  | .inr (.inl (.inl k)), ⟨z, e, b⟩, ⟨z2, e2, b2⟩ =>
    rw [e] at e2
    cases e2
    cases b
    exact b2
  | .inr (.inl (.inr (.inl n))), h, _ => cases (show Value.ref a = .long (lN n) from h)
  | .inr (.inl (.inr (.inr i))), ⟨z, _, b⟩, _ => cases b
  | .inr (.inr 0), h, _ => cases (show Value.ref a = .null from h)
  | .inr (.inr (k + 2)), h, hx => exact (show x = .ref (sp k) from hx).trans (show Value.ref a = .ref (sp k) from h).symm
theorem zf_Cp_sp {dA : Nat → ClassId} {sp sp' : Nat → Nat} {ρ : List Int32} {ad ad' : List Nat} {c : EC} {e : va_E} (h : ze_Cp dA sp ρ ad c e) : ze_Cp dA sp' ρ ad' c e := by
  obtain ⟨a, a2, zs, f, b, he, q⟩ := h
  refine ⟨a, a2, zs, f, ⟨b.1, fun t v ht => ?_⟩, he, q⟩
  obtain ⟨x, k1, k2⟩ := b.2 t v ht
  exact ⟨x, k1, zf_int k2⟩
/-- what is no reference does not hang on the addresses -/
theorem zf_ad {sp : Nat → Nat} {ρ : List Int32} {ad ad' : List Nat} {u : EV} {x : Value} (hu : ∀ q, u ≠ eR q) (h : ze_V sp ρ ad u x) : ze_V sp ρ ad' u x := by
  match u, h with
  | .inl (.inl n), h => exact h
  | .inl (.inr i), h => exact h
  | .inr (.inl (.inl k)), _ => exact absurd rfl (hu k)
  | .inr (.inl (.inr (.inl n))), h => exact h
  | .inr (.inl (.inr (.inr i))), h => exact h
  | .inr (.inr 0), h => exact h
  | .inr (.inr (k + 2)), h => exact h
theorem zf_nr {N : Nat} {σ : List EV} {u v : EV} (h : zh_v N σ u v = true) (hv : ∀ q, v ≠ eR q) : ∀ q, u ≠ eR q := by
  intro q e
  subst e
  exact hv q (zh_eq_ok (show zh_eq (eR q) v = true from h)).symm
section ZFV
variable {sp : Nat → Nat} {ρ : List Int32} {ad ad' : List Nat} {σ : List EV} {vals : List Int32} {N : Nat} {idx : List Nat} {dA : Nat → ClassId}
theorem zf_v0_ok {u v : EV} {x : Value} (h : zf_v0 N σ idx u v = true) (hσ : zh_σ sp ρ ad σ vals) (hN : N ≤ ρ.length) (hid : ∀ (n k : Nat), idx[n]? = some k → ad'[n]? = ad[k]?) (hv : ze_V sp ρ ad v x) : ze_V sp (ρ.take N ++ vals) ad' u x := by
  rcases v with a | ((k | a) | a)
  · have h : zh_v N σ u (.inl a) = true := h
    exact zf_ad (zf_nr h (fun q e => by cases e)) (zh_v_ok h hσ hN hv)
  · obtain ⟨n, h1, h2⟩ := zf_p_ok idx 0 (show zf_p idx k 0 (fun n => zh_eq u (eR n)) = true from h)
    have e := zh_eq_ok h2
    rw [Nat.zero_add] at e
    subst e
    obtain ⟨b, hb, hx⟩ := id hv
    exact ⟨b, by rw [hid n k h1]; exact hb, hx⟩
  · have h : zh_v N σ u (.inr (.inl (.inr a))) = true := h
    exact zf_ad (zf_nr h (fun q e => by cases e)) (zh_v_ok h hσ hN hv)
  · have h : zh_v N σ u (.inr (.inr a)) = true := h
    exact zf_ad (zf_nr h (fun q e => by cases e)) (zh_v_ok h hσ hN hv)
theorem zf_v_ok {sp' : Nat → Nat} {κ : List EV} (hsp : zf_sp sp sp' ρ ad κ) {u v : EV} {x : Value} (h : zf_v N σ idx κ u v = true) (hσ : zh_σ sp ρ ad σ vals) (hN : N ≤ ρ.length) (hid : ∀ (n k : Nat), idx[n]? = some k → ad'[n]? = ad[k]?) (hv : ze_V sp ρ ad v x) : ze_V sp' (ρ.take N ++ vals) ad' u x := by
  rcases u with a | ((n | a) | m)
  · exact zf_spc hsp.1 (fun m e => by cases e) (zf_v0_ok (show zf_v0 N σ idx (.inl a) v = true from h) hσ hN hid hv)
  · exact zf_spc hsp.1 (fun m e => by cases e) (zf_v0_ok (show zf_v0 N σ idx (.inr (.inl (.inl n))) v = true from h) hσ hN hid hv)
  · exact zf_spc hsp.1 (fun m e => by cases e) (zf_v0_ok (show zf_v0 N σ idx (.inr (.inl (.inr a))) v = true from h) hσ hN hid hv)
  · rcases ze_cond (show zcd (Nat.ble 42 m) (ze_n κ (Nat.sub m 42) (fun a => zh_eq a v)) (zf_v0 N σ idx (.inr (.inr m)) v) = true from h) with ⟨h1, h2⟩ | ⟨h1, h2⟩
    · have h1 : 42 ≤ m := ze_ble' h1
      obtain ⟨a, e1, e2⟩ := ze_n_spec _ _ _ h2
      have e2 := zh_eq_ok e2
      subst e2
      have h3 := hsp.2.2 (m - 42) a e1
      have h4 := zf_ref h3 hv
      obtain ⟨k, rfl⟩ : ∃ k, m = k + 2 := ⟨m - 2, by omega⟩
      show x = .ref (sp' k)
      rw [h4, show 40 + (k + 2 - 42) = k by omega]
    · have h1 : ¬ 42 ≤ m := fun q => by rw [ze_ble q] at h1; cases h1
      exact zf_spc hsp.1 (fun m9 e => by cases e; omega) (zf_v0_ok h2 hσ hN hid hv)
theorem zf_L {sp' : Nat → Nat} {κ : List EV} (hsp : zf_sp sp sp' ρ ad κ) (hσ : zh_σ sp ρ ad σ vals) (hN : N ≤ ρ.length) (hid : ∀ (n k : Nat), idx[n]? = some k → ad'[n]? = ad[k]?) : ∀ (us vs : List EV) (xs : List Value), zh_all (zf_v N σ idx κ) us vs = true → ze_L sp ρ ad vs xs → ze_L sp' (ρ.take N ++ vals) ad' us xs := by
  intro us
  induction us with
  | nil =>
    intro vs xs h hL
    cases vs with
    | nil => rw [hL.nil]; trivial
    | cons v r => cases h
  | cons a t ih =>
    intro vs xs h hL
    cases vs with
    | nil => cases h
    | cons v r =>
      obtain ⟨h1, h2⟩ := ze_condf (show zcd (zf_v N σ idx κ a v) (zh_all (zf_v N σ idx κ) t r) false = true from h)
      obtain ⟨y, ys, rfl, hv, hr⟩ := hL.cons
      exact ⟨zf_v_ok hsp h1 hσ hN hid hv, ih r ys h2 hr⟩
theorem zf_C {sp' : Nat → Nat} {κ : List EV} (hsp : zf_sp sp sp' ρ ad κ) (hσ : zh_σ sp ρ ad σ vals) (hN : N ≤ ρ.length) (hid : ∀ (n k : Nat), idx[n]? = some k → ad'[n]? = ad[k]?) {c' c : EC} {e : va_E} (h1 : c'.1 = c.1) (h2 : zh_cc (zf_v N σ idx κ) c' c = true) (h : ze_C dA sp ρ ad c e) : ze_C dA sp' (ρ.take N ++ vals) ad' c' e := by
  rcases zh_cc_ok h1 h2 h with ⟨e9, hs⟩ | ⟨h2, h9⟩
  · rw [e9]
    exact Or.inr (Or.inr (Or.inr (Or.inr (Or.inl hs))))
  obtain ⟨h3, h4⟩ := zh_all_ok _ _ h2
  rcases h with ⟨a, fs, b, q⟩ | ⟨a, a2, f, b, q⟩ | ⟨a, a2, f, b, q⟩ | ⟨a, a2, f, b, q⟩ | (⟨a, a2, -⟩ | ⟨a, a2, -⟩) | ⟨a, a2, zs, f, b, he, q⟩
  · exact Or.inl ⟨by rw [h1]; exact a, fs, by rw [h1]; exact b, zf_L hsp hσ hN hid _ _ _ h2 q⟩
  · exact Or.inr (Or.inl ⟨by rw [h1]; exact a, by rw [h1]; exact a2, f, by rw [h1, h3]; exact b, fun j u hu => by obtain ⟨v, e1, e2⟩ := h4 j u hu; exact zf_v_ok hsp e2 hσ hN hid (q j v e1)⟩)
  · exact Or.inr (Or.inr (Or.inl ⟨by rw [h1]; exact a, by rw [h1]; exact a2, f, by rw [h1, h3]; exact b, fun j u hu => by obtain ⟨v, e1, e2⟩ := h4 j u hu; exact zf_v_ok hsp e2 hσ hN hid (q j v e1)⟩))
  · exact Or.inr (Or.inr (Or.inr (Or.inl ⟨by rw [h1]; exact a, by rw [h1]; exact a2, f, by rw [h1, h3]; exact b, fun j u hu => by obtain ⟨v, e1, e2⟩ := h4 j u hu; exact zf_v_ok hsp e2 hσ hN hid (q j v e1)⟩)))
  · omega
  · omega
  · refine Or.inr (Or.inr (Or.inr (Or.inr (Or.inr ⟨by rw [h1]; exact a, by rw [h1]; exact a2, zs, f, ⟨by rw [h3]; exact b.1, fun j u hu => ?_⟩, by rw [h1]; exact he, by rw [h1]; exact q⟩))))
    obtain ⟨v, e1, e2⟩ := h4 j u hu
    obtain ⟨x, x1, x2⟩ := b.2 j v e1
    exact ⟨x, x1, zf_v_ok hsp e2 hσ hN hid x2⟩
end ZFV
/-- the small world's cells of the machine -/
noncomputable def zf_sub (ws : va_W) : List Nat → va_W
  | [] => []
  | k :: r => match ws[k]? with
    | some q => q :: zf_sub ws r
    | none => zf_sub ws r
theorem zf_sub_get {ws : va_W} : ∀ (idx : List Nat), (∀ k ∈ idx, k < ws.length) → (zf_sub ws idx).length = idx.length ∧ ∀ (n k : Nat), idx[n]? = some k → (zf_sub ws idx)[n]? = ws[k]? := by
  intro idx
  induction idx with
  | nil => intro _; exact ⟨rfl, fun n k h => by cases h⟩
  | cons a t ih =>
    intro h
    obtain ⟨h1, h2⟩ := ih (fun k hk => h k (List.mem_cons_of_mem _ hk))
    have ha := h a List.mem_cons_self
    have e1 : ws[a]? = some ws[a] := List.getElem?_eq_getElem ha
    have e2 : zf_sub ws (a :: t) = ws[a] :: zf_sub ws t := by
      show (match ws[a]? with | some q => q :: zf_sub ws t | none => zf_sub ws t) = _
      rw [e1]
    rw [e2]
    refine ⟨by simp [h1], fun n k hk => ?_⟩
    cases n with
    | zero => cases (Option.some.inj hk); exact e1.symm
    | succ n => exact h2 n k hk
/-- no cell of w from n on -/
noncomputable def zf_sh (n : Nat) (ch : List (List EC)) : Nat → Bool := List.rec (motive := fun _ => Nat → Bool) (fun _ => true) (fun c _ ih j => zcd (Nat.ble (Nat.add (Nat.mul 16 j) c.length) n) (ih (Nat.succ j)) false) ch
theorem zf_sh_ok {n : Nat} : ∀ (ch : List (List EC)) (j : Nat), zf_sh n ch j = true → ∀ (i : Nat) (c : List EC), ch[i]? = some c → 16 * (j + i) + c.length ≤ n := by
  intro ch
  induction ch with
  | nil => intro j _ i c h; cases h
  | cons a t ih =>
    intro j h i c hc
    obtain ⟨h1, h2⟩ := ze_condf (show zcd (Nat.ble (Nat.add (Nat.mul 16 j) a.length) n) (zf_sh n t (Nat.succ j)) false = true from h)
    cases i with
    | zero => cases (Option.some.inj hc); exact ze_ble' h1
    | succ i =>
      have := ih (Nat.succ j) h2 i c hc
      rw [show j + (i + 1) = Nat.succ j + i by omega]
      exact this
/-- the cells one by one -/
noncomputable def zf_cs (N : Nat) (σ : List EV) (g : EG) (idx0 : List Nat) (κ : List EV) (wg w : EW) (idx : List Nat) : Nat → Bool := List.rec (motive := fun _ => Nat → Bool) (fun _ => true) (fun k _ ih n => ze_g wg n (fun c' => ze_g w k (fun c => zcd (zcd (zcd (Nat.beq c'.1 c.1) (zh_cc (zf_v N σ idx0 κ) c' c) false) true (zcd (zh_pm N σ g c' c) true (zh_sm g c' c))) (ih (Nat.succ n)) false))) idx
theorem zf_cs_ok {N : Nat} {σ : List EV} {g : EG} {idx0 : List Nat} {κ : List EV} {wg w : EW} : ∀ (idx : List Nat) (n : Nat), zf_cs N σ g idx0 κ wg w idx n = true → ∀ (i k : Nat), idx[i]? = some k → ∃ c' c, ze_gw wg (n + i) = some c' ∧ ze_gw w k = some c ∧ ((c'.1 = c.1 ∧ zh_cc (zf_v N σ idx0 κ) c' c = true) ∨ zh_pm N σ g c' c = true ∨ zh_sm g c' c = true) := by
  intro idx
  induction idx with
  | nil => intro n _ i k h; cases h
  | cons a t ih =>
    intro n h i k hk
    obtain ⟨c', e1, h⟩ := ze_g_spec (show ze_g wg n _ = true from h)
    obtain ⟨c, e2, h⟩ := ze_g_spec h
    obtain ⟨h1, h3⟩ := ze_condf h
    have h9 : (c'.1 = c.1 ∧ zh_cc (zf_v N σ idx0 κ) c' c = true) ∨ zh_pm N σ g c' c = true ∨ zh_sm g c' c = true := by
      rcases ze_cond h1 with ⟨h1, -⟩ | ⟨-, h1⟩
      · obtain ⟨h4, h5⟩ := ze_condf h1
        exact Or.inl ⟨ze_beq h4, h5⟩
      · rcases ze_cond h1 with ⟨h1, -⟩ | ⟨-, h1⟩
        · exact Or.inr (Or.inl h1)
        · exact Or.inr (Or.inr h1)
    cases i with
    | zero => cases (Option.some.inj hk); exact ⟨c', c, e1, e2, h9⟩
    | succ i =>
      obtain ⟨d', d, q⟩ := ih (Nat.succ n) h3 i k hk
      rw [show Nat.succ n + i = n + (i + 1) by omega] at q
      exact ⟨d', d, q⟩
noncomputable def zf_w (N : Nat) (σ : List EV) (g : EG) (idx : List Nat) (κ : List EV) (wg w : EW) : Bool := zcd (Nat.beq wg.1 idx.length) (zcd (zf_sh idx.length wg.2 0) (zf_cs N σ g idx κ wg w idx 0) false) false
/-- the small world holds of its cells -/
theorem zf_W {dA : Nat → ClassId} {sp sp' : Nat → Nat} {κ : List EV} {ρ : List Int32} {σ : List EV} {vals : List Int32} {N : Nat} {idx : List Nat} {wg w : EW} {g : EG} {ws : va_W} (hG : ze_G g ρ) (hσ : zh_σ sp ρ (ws.map (·.1)) σ vals) (hN : N ≤ ρ.length) (hsp : zf_sp sp sp' ρ (ws.map (·.1)) κ) (h : zf_w N σ g idx κ wg w = true) (hW : ze_W dA sp ρ w ws) : (∀ k ∈ idx, k < ws.length) ∧ ze_W dA sp' (ρ.take N ++ vals) wg (zf_sub ws idx) := by
  obtain ⟨h1, h⟩ := ze_condf h
  obtain ⟨h2, h3⟩ := ze_condf h
  have hcs := zf_cs_ok idx 0 h3
  have hlt : ∀ k ∈ idx, k < ws.length := by
    intro k hk
    obtain ⟨i, hi⟩ := List.getElem?_of_mem hk
    obtain ⟨c', c, -, e2, -⟩ := hcs i k hi
    obtain ⟨a, e, q1, -⟩ := hW.2 k c e2
    exact (List.getElem?_eq_some_iff.mp q1).1
  obtain ⟨g1, g2⟩ := zf_sub_get idx hlt
  have hid : ∀ (n k : Nat), idx[n]? = some k → ((zf_sub ws idx).map (·.1))[n]? = (ws.map (·.1))[k]? := by
    intro n k hk
    rw [List.getElem?_map, List.getElem?_map, g2 n k hk]
  refine ⟨hlt, by rw [g1]; exact ze_beq h1, fun k c' hk => ?_⟩
  have hkl : k < idx.length := by
    have hk2 := hk
    unfold ze_gw at hk2
    obtain ⟨ch, e1, e2⟩ := Option.bind_eq_some_iff.mp hk2
    have a1 := zf_sh_ok wg.2 0 h2 (k / 16) ch e1
    have a2 := (List.getElem?_eq_some_iff.mp e2).1
    omega
  obtain ⟨d', d, e1, e2, e3⟩ := hcs k idx[k] (List.getElem?_eq_getElem hkl)
  rw [Nat.zero_add, hk] at e1
  cases e1
  obtain ⟨a, e, q1, q2⟩ := hW.2 _ _ e2
  refine ⟨a, e, by rw [g2 k _ (List.getElem?_eq_getElem hkl)]; exact q1, ?_⟩
  rcases e3 with ⟨e3, e4⟩ | e3 | e3
  · exact zf_C hsp hσ hN hid e3 e4 q2
  · exact Or.inr (Or.inr (Or.inr (Or.inr (Or.inr (zf_Cp_sp (ad := ws.map (·.1)) (zh_pm_ok e3 hσ hN hG q2))))))
  · exact Or.inr (Or.inr (Or.inr (Or.inr (Or.inl (zh_sm_ok e3 hG q2)))))

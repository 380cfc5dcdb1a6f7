/-! THE ENGINE: a state seen as a more general one. Unknowns below N stay; those from N on stand for the values σ, read at places of the world. -/
noncomputable def zh_s (a b : Nat ⊕ Nat) : Bool := Sum.rec (motive := fun _ => Bool) (fun n => Sum.rec (motive := fun _ => Bool) (fun m => Nat.beq n m) (fun _ => false) b) (fun i => Sum.rec (motive := fun _ => Bool) (fun _ => false) (fun j => Nat.beq i j) b) a
theorem zh_s_ok {a b : Nat ⊕ Nat} (h : zh_s a b = true) : a = b := by
  rcases a with a | a <;> rcases b with b | b
  · exact congrArg Sum.inl (ze_beq h)
  · cases h
  · cases h
  · exact congrArg Sum.inr (ze_beq h)
noncomputable def zh_eq (u v : EV) : Bool := zv_ u (fun a => zv_ v (fun b => zh_s a b) (fun _ => false) (fun _ => false) (fun _ => false)) (fun a => zv_ v (fun _ => false) (fun b => Nat.beq a b) (fun _ => false) (fun _ => false))
  (fun a => zv_ v (fun _ => false) (fun _ => false) (fun b => zh_s a b) (fun _ => false)) (fun a => zv_ v (fun _ => false) (fun _ => false) (fun _ => false) (fun b => Nat.beq a b))
theorem zh_eq_ok {u v : EV} (h : zh_eq u v = true) : u = v := by
  rcases u with a | ((a | a) | a) <;> rcases v with b | ((b | b) | b)
  · exact congrArg Sum.inl (zh_s_ok h)
  · cases h
  · cases h
  · cases h
  · cases h
  · exact congrArg (fun n => (eR n : EV)) (ze_beq h)
  · cases h
  · cases h
  · cases h
  · cases h
  · exact congrArg (fun n => (.inr (.inl (.inr n)) : EV)) (zh_s_ok h)
  · cases h
  · cases h
  · cases h
  · cases h
  · exact congrArg (fun n => (eX n : EV)) (ze_beq h)
/-- an int of the engine against a long that is that int -/
noncomputable def zh_lq (s v : EV) : Bool := zv_l v (fun a => ze_li ze_lr ze_l32 a (fun t => zh_eq s t) false)
noncomputable def zh_v (N : Nat) (σ : List EV) (u v : EV) : Bool := zv_ u (fun a => zv_s a (fun _ => zh_eq u v) (fun i => cond (Nat.ble (Nat.succ i) N) (zh_eq u v) (ze_n σ (Nat.sub i N) (fun s => zh_eq s v)))) (fun _ => zh_eq u v)
  (fun a => zv_s a (fun _ => zh_eq u v) (fun i => cond (Nat.ble (Nat.succ i) N) (zh_eq u v) (ze_n σ (Nat.sub i N) (fun s => zh_lq s v)))) (fun _ => zh_eq u v)
/-- the values that the new unknowns stand for -/
def zh_σ (sp : Nat → Nat) (ρ : List Int32) (ad : List Nat) (σ : List EV) (vals : List Int32) : Prop := σ.length = vals.length ∧ ∀ (t : Nat) (v : EV), σ[t]? = some v → ∃ x, vals[t]? = some x ∧ ze_V sp ρ ad v (.int x)
theorem ze_V_int {sp : Nat → Nat} {ρ : List Int32} {ad : List Nat} {v : EV} {x : Value} {y : Int32} (h1 : ze_V sp ρ ad v x) (h2 : ze_V sp ρ ad v (.int y)) : x = .int y := by
  match v, h1, h2 with
  | .inl (.inl n), h1, h2 => exact (show x = .int (nI n) from h1).trans (show Value.int y = .int (nI n) from h2).symm
  | .inl (.inr i), ⟨z, a, b⟩, ⟨z2, a2, b2⟩ =>
    rw [a] at a2
    cases a2
    exact b.trans b2.symm
  | .inr (.inl (.inl k)), _, ⟨z, _, b⟩ => cases b
  | .inr (.inl (.inr (.inl n))), _, h2 => cases (show Value.int y = .long (lN n) from h2)
  | .inr (.inl (.inr (.inr i))), _, ⟨z, _, b⟩ => cases b
  | .inr (.inr 0), _, h2 => cases (show Value.int y = .null from h2)
  | .inr (.inr (k + 2)), _, h2 => cases (show Value.int y = .ref (sp k) from h2)
section ZGV
variable {sp : Nat → Nat} {ρ : List Int32} {ad : List Nat} {σ : List EV} {vals : List Int32} {N : Nat}
theorem zh_lo (hN : N ≤ ρ.length) {i : Nat} (hi : i < N) : (ρ.take N ++ vals)[i]? = ρ[i]? := by
  rw [List.getElem?_append_left (by rw [List.length_take]; omega), List.getElem?_take_of_lt hi]
theorem zh_hi (hN : N ≤ ρ.length) {i : Nat} (hi : N ≤ i) : (ρ.take N ++ vals)[i]? = vals[i - N]? := by
  rw [List.getElem?_append_right (by rw [List.length_take]; omega), List.length_take, Nat.min_eq_left hN]
theorem zh_v_ok {u v : EV} {x : Value} (h : zh_v N σ u v = true) (hσ : zh_σ sp ρ ad σ vals) (hN : N ≤ ρ.length) (hv : ze_V sp ρ ad v x) : ze_V sp (ρ.take N ++ vals) ad u x := by
  rcases u with (n | i) | ((q | (n | i)) | k)
  · have e := zh_eq_ok (show zh_eq (.inl (.inl n)) v = true from h)
    subst e
    exact hv
  · rcases ze_cond (show cond (Nat.ble (Nat.succ i) N) (zh_eq (eU i) v) (ze_n σ (Nat.sub i N) (fun s => zh_eq s v)) = true from h) with ⟨h1, h2⟩ | ⟨h1, h2⟩
    · have e := zh_eq_ok h2
      subst e
      obtain ⟨z, a, b⟩ := id hv
      exact ⟨z, by rw [zh_lo hN (Nat.le_of_ble_eq_true h1)]; exact a, b⟩
    · obtain ⟨s, h3, h4⟩ := ze_n_spec _ _ _ h2
      have e := zh_eq_ok h4
      subst e
      obtain ⟨y, h5, h6⟩ := hσ.2 _ _ h3
      have h7 : ¬ (i + 1 ≤ N) := fun q => by rw [Nat.ble_eq_true_of_le q] at h1; cases h1
      exact ⟨y, by rw [zh_hi hN (by omega)]; exact h5, ze_V_int hv h6⟩
  · have e := zh_eq_ok (show zh_eq (.inr (.inl (.inl q))) v = true from h)
    subst e
    exact hv
  · have e := zh_eq_ok (show zh_eq (.inr (.inl (.inr (.inl n)))) v = true from h)
    subst e
    exact hv
  · rcases ze_cond (show cond (Nat.ble (Nat.succ i) N) (zh_eq (eLU i) v) (ze_n σ (Nat.sub i N) (fun s => zh_lq s v)) = true from h) with ⟨h1, h2⟩ | ⟨h1, h2⟩
    · have e := zh_eq_ok h2
      subst e
      obtain ⟨z, a, b⟩ := id hv
      exact ⟨z, by rw [zh_lo hN (Nat.le_of_ble_eq_true h1)]; exact a, b⟩
    · obtain ⟨s, h3, h4⟩ := ze_n_spec _ _ _ h2
      have h7 : ¬ (i + 1 ≤ N) := fun q => by rw [Nat.ble_eq_true_of_le q] at h1; cases h1
      rcases v with a | ((k | a) | a)
      · cases h4
      · cases h4
      · rcases zi_li zi_lr (show ze_li ze_lr ze_l32 a (fun t => zh_eq s t) false = true from h4) hv with ⟨x9, vx, ex, hvx, hf⟩ | hd
        · have e := zh_eq_ok hf
          subst e
          obtain ⟨y, h5, h6⟩ := hσ.2 _ _ h3
          have e9 : Value.int x9 = .int y := ze_V_int hvx h6
          cases e9
          exact ⟨x9, by rw [zh_hi hN (by omega)]; exact h5, ex⟩
        · cases hd
      · cases h4
  · have e := zh_eq_ok (show zh_eq (.inr (.inr k)) v = true from h)
    subst e
    match k, hv with
    | 0, hv => exact hv
    | k + 2, hv => exact hv
theorem zh_v_x1 {u : EV} (h : zh_v N σ u (eX 1) = true) (hσ : zh_σ sp ρ ad σ vals) : u = eX 1 := by
  rcases u with (n | i) | ((q | (n | i)) | k)
  · exact zh_eq_ok (show zh_eq _ _ = true from h)
  · rcases ze_cond (show cond (Nat.ble (Nat.succ i) N) (zh_eq (eU i) (eX 1)) (ze_n σ (Nat.sub i N) (fun s => zh_eq s (eX 1))) = true from h) with ⟨h1, h2⟩ | ⟨h1, h2⟩
    · exact zh_eq_ok h2
    · obtain ⟨s, h3, h4⟩ := ze_n_spec _ _ _ h2
      have e := zh_eq_ok h4
      subst e
      obtain ⟨y, h5, h6⟩ := hσ.2 _ _ h3
      exact absurd h6 (fun q => q)
  · exact zh_eq_ok (show zh_eq _ _ = true from h)
  · exact zh_eq_ok (show zh_eq _ _ = true from h)
  · rcases ze_cond (show cond (Nat.ble (Nat.succ i) N) (zh_eq (eLU i) (eX 1)) (ze_n σ (Nat.sub i N) (fun s => zh_lq s (eX 1))) = true from h) with ⟨h1, h2⟩ | ⟨h1, h2⟩
    · exact zh_eq_ok h2
    · obtain ⟨s, h3, h4⟩ := ze_n_spec _ _ _ h2
      cases h4
  · exact zh_eq_ok (show zh_eq _ _ = true from h)
end ZGV
/-- one by one -/
noncomputable def zh_all {α : Type} (f : α → α → Bool) (us : List α) : List α → Bool := List.rec (motive := fun _ => List α → Bool) (fun vs => List.rec (motive := fun _ => Bool) true (fun _ _ _ => false) vs) (fun u _ ih vs => List.rec (motive := fun _ => Bool) false (fun v r _ => cond (f u v) (ih r) false) vs) us
theorem zh_all_ok {α : Type} {f : α → α → Bool} : ∀ (us vs : List α), zh_all f us vs = true → us.length = vs.length ∧ ∀ (i : Nat) (u : α), us[i]? = some u → ∃ v, vs[i]? = some v ∧ f u v = true := by
  intro us
  induction us with
  | nil =>
    intro vs h
    cases vs with
    | nil => exact ⟨rfl, fun i u q => by cases q⟩
    | cons v r => cases h
  | cons a t ih =>
    intro vs h
    cases vs with
    | nil => cases h
    | cons v r =>
      obtain ⟨h1, h2⟩ := ze_condf (show cond (f a v) (zh_all f t r) false = true from h)
      obtain ⟨h3, h4⟩ := ih r h2
      refine ⟨by simp [h3], fun i u q => ?_⟩
      cases i with
      | zero => cases (Option.some.inj q); exact ⟨v, rfl, h1⟩
      | succ i => exact h4 i u q
/-- two cells, their values by f; those known by their interval are the same -/
noncomputable def zh_cc (f : EV → EV → Bool) (c' c : EC) : Bool := cond (Nat.ble 1000 c'.1) (zh_all zh_eq c'.2 c.2) (zh_all f c'.2 c.2)
theorem zh_same : ∀ (us vs : List EV), zh_all zh_eq us vs = true → us = vs := by
  intro us
  induction us with
  | nil =>
    intro vs h
    cases vs with
    | nil => rfl
    | cons v r => cases h
  | cons a t ih =>
    intro vs h
    cases vs with
    | nil => cases h
    | cons v r =>
      obtain ⟨h1, h2⟩ := ze_condf (show cond (zh_eq a v) (zh_all zh_eq t r) false = true from h)
      rw [zh_eq_ok h1, ih r h2]
theorem zh_cc_ok {f : EV → EV → Bool} {c' c : EC} {dA : Nat → ClassId} {sp : Nat → Nat} {ρ : List Int32} {ad : List Nat} {e : va_E} (h1 : c'.1 = c.1) (h : zh_cc f c' c = true) (hC : ze_C dA sp ρ ad c e) : (c' = c ∧ ze_Cs dA c e) ∨ (zh_all f c'.2 c.2 = true ∧ c.1 < 1000) := by
  rcases ze_cond h with ⟨h2, h3⟩ | ⟨h2, h3⟩
  · have h2 := ze_ble' h2
    refine Or.inl ⟨Prod.ext h1 (zh_same _ _ h3), ?_⟩
    rcases hC with ⟨a, q⟩ | ⟨a, a2, q⟩ | ⟨a, a2, q⟩ | ⟨a, a2, q⟩ | hs
    · omega
    · omega
    · omega
    · omega
    · exact hs
  · have h2 := ze_nble h2
    exact Or.inr ⟨h3, by omega⟩
/-- an array, seen by its interval -/
noncomputable def zh_sv (g : EG) (lo hi : Nat) (l : List EV) : Bool := List.rec (motive := fun _ => Bool) true (fun v _ ih => cond (zo_wi g v lo hi) ih false) l
noncomputable def zh_sl (g : EG) (lo hi : Nat) (l : List EV) : Bool := List.rec (motive := fun _ => Bool) true (fun v _ ih => cond (zv_l v (fun u => ze_li ze_lr ze_l32 u (fun t => zo_wi g t lo hi) false)) ih false) l
noncomputable def zh_sm (g : EG) (c' c : EC) : Bool := cond (Nat.beq c'.1 (Nat.add 1000 c.1)) (cond (Nat.ble 100 c.1) (zo_s3 c'.2 (fun n lo hi => cond (Nat.beq c.2.length n) (cond (Nat.ble c.1 149) (zh_sv g lo hi c.2) (cond (Nat.beq c.1 150) (zh_sl g lo hi c.2) false)) false)) false) false
theorem zh_sv_ok {g : EG} {lo hi : Nat} : ∀ (l : List EV), zh_sv g lo hi l = true → ∀ (j : Nat) (v : EV), l[j]? = some v → zo_wi g v lo hi = true := by
  intro l
  induction l with
  | nil => intro _ j v h; cases h
  | cons a t ih =>
    intro h j v hj
    obtain ⟨h1, h2⟩ := ze_condf (show cond (zo_wi g a lo hi) (zh_sv g lo hi t) false = true from h)
    cases j with
    | zero => cases (Option.some.inj hj); exact h1
    | succ j => exact ih h2 j v hj
theorem zh_sl_ok {g : EG} {lo hi : Nat} : ∀ (l : List EV), zh_sl g lo hi l = true → ∀ (j : Nat) (v : EV), l[j]? = some v → zv_l v (fun u => ze_li ze_lr ze_l32 u (fun t => zo_wi g t lo hi) false) = true := by
  intro l
  induction l with
  | nil => intro _ j v h; cases h
  | cons a t ih =>
    intro h j v hj
    obtain ⟨h1, h2⟩ := ze_condf (show cond (zv_l a (fun u => ze_li ze_lr ze_l32 u (fun t => zo_wi g t lo hi) false)) (zh_sl g lo hi t) false = true from h)
    cases j with
    | zero => cases (Option.some.inj hj); exact h1
    | succ j => exact ih h2 j v hj
theorem zh_sm_ok {g : EG} {ρ : List Int32} {c' c : EC} {dA : Nat → ClassId} {sp : Nat → Nat} {ad : List Nat} {e : va_E} (h : zh_sm g c' c = true) (hG : ze_G g ρ) (hC : ze_C dA sp ρ ad c e) : ze_Cs dA c' e := by
  obtain ⟨h1, h⟩ := ze_condf h
  obtain ⟨h2, h⟩ := ze_condf h
  obtain ⟨n, lo, hi, e2, h⟩ := zo_s3_spec h
  obtain ⟨h3, h⟩ := ze_condf h
  have h1 : c'.1 = 1000 + c.1 := ze_beq h1
  have h2 := ze_ble' h2
  have h3 := ze_beq h3
  have e6 : c'.1 - 1000 = c.1 := by omega
  rcases ze_cond h with ⟨h4, h5⟩ | ⟨-, h⟩
  · have h4 := ze_ble' h4
    obtain ⟨f, ef, hf⟩ := hC.ints h2 (by omega)
    refine Or.inl ⟨by omega, by omega, n, lo, hi, f, e2, by rw [e6, ef, h3], fun j hj => ?_⟩
    have hl : j < c.2.length := by omega
    exact zo_wi_spec (zh_sv_ok _ h5 j _ (List.getElem?_eq_getElem hl)) hG (hf j _ (List.getElem?_eq_getElem hl))
  · obtain ⟨h4, h5⟩ := ze_condf h
    have h4 := ze_beq h4
    obtain ⟨f, ef, hf⟩ := hC.longs (by omega) (by omega)
    refine Or.inr ⟨by omega, by omega, n, lo, hi, f, e2, by rw [e6, ef, h3], fun j hj => ?_⟩
    have hl : j < c.2.length := by omega
    have hv := hf j _ (List.getElem?_eq_getElem hl)
    have h6 := zh_sl_ok _ h5 j _ (List.getElem?_eq_getElem hl)
    generalize c.2[j] = v at hv h6
    rcases v with a | ((k | a) | a)
    · cases h6
    · cases h6
    · rcases zi_li zi_lr (show ze_li ze_lr ze_l32 a (fun t => zo_wi g t lo hi) false = true from h6) hv with ⟨x9, vx, ex, hvx, hf9⟩ | hd
      · exact ⟨x9, Value.long.inj ex, zo_wi_spec hf9 hG hvx⟩
      · cases hd
    · cases h6
noncomputable def zh_c (N : Nat) (σ : List EV) (g : EG) (c' c : EC) : Bool := cond (Nat.beq c'.1 c.1) (zh_cc (zh_v N σ) c' c) (zh_sm g c' c)
noncomputable def zh_w (N : Nat) (σ : List EV) (g : EG) (w' w : EW) : Bool := cond (Nat.beq w'.1 w.1) (zh_all (zh_all (zh_c N σ g)) w'.2 w.2) false
theorem zh_w_get {N : Nat} {σ : List EV} {g : EG} {w' w : EW} (h : zh_w N σ g w' w = true) : w'.1 = w.1 ∧ ∀ (k : Nat) (c' : EC), ze_gw w' k = some c' → ∃ c, ze_gw w k = some c ∧ ((c'.1 = c.1 ∧ zh_cc (zh_v N σ) c' c = true) ∨ zh_sm g c' c = true) := by
  obtain ⟨h1, h2⟩ := ze_condf h
  obtain ⟨-, h3⟩ := zh_all_ok _ _ h2
  refine ⟨ze_beq h1, fun k c' hk => ?_⟩
  unfold ze_gw at hk
  obtain ⟨ch, e1, e2⟩ := Option.bind_eq_some_iff.mp hk
  obtain ⟨ch2, e3, e4⟩ := h3 _ _ e1
  obtain ⟨-, h5⟩ := zh_all_ok _ _ e4
  obtain ⟨c, e5, e6⟩ := h5 _ _ e2
  refine ⟨c, ?_, ?_⟩
  · unfold ze_gw
    rw [e3]
    exact e5
  · rcases ze_cond e6 with ⟨e7, e8⟩ | ⟨-, e8⟩
    · exact Or.inl ⟨ze_beq e7, e8⟩
    · exact Or.inr e8
section ZGW
variable {sp : Nat → Nat} {ρ : List Int32} {ad : List Nat} {σ : List EV} {vals : List Int32} {N : Nat} {dA : Nat → ClassId}
theorem zh_L (hσ : zh_σ sp ρ ad σ vals) (hN : N ≤ ρ.length) : ∀ (us vs : List EV) (xs : List Value), zh_all (zh_v N σ) us vs = true → ze_L sp ρ ad vs xs → ze_L sp (ρ.take N ++ vals) ad us xs := by
  intro us
  induction us with
  | nil =>
    intro vs xs h hL
    cases vs with
    | nil => rw [hL.nil]; trivial
    | cons v r => cases h
  | cons a t ih =>
    intro vs xs h hL
    cases vs with
    | nil => cases h
    | cons v r =>
      obtain ⟨h1, h2⟩ := ze_condf (show cond (zh_v N σ a v) (zh_all (zh_v N σ) t r) false = true from h)
      obtain ⟨y, ys, rfl, hv, hr⟩ := hL.cons
      exact ⟨zh_v_ok h1 hσ hN hv, ih r ys h2 hr⟩
theorem zh_C (hσ : zh_σ sp ρ ad σ vals) (hN : N ≤ ρ.length) {c' c : EC} {e : va_E} (h1 : c'.1 = c.1) (h2 : zh_cc (zh_v N σ) c' c = true) (h : ze_C dA sp ρ ad c e) : ze_C dA sp (ρ.take N ++ vals) ad c' e := by
  rcases zh_cc_ok h1 h2 h with ⟨e9, hs⟩ | ⟨h2, h9⟩
  · rw [e9]
    exact Or.inr (Or.inr (Or.inr (Or.inr hs)))
  obtain ⟨h3, h4⟩ := zh_all_ok _ _ h2
  rcases h with ⟨a, fs, b, q⟩ | ⟨a, a2, f, b, q⟩ | ⟨a, a2, f, b, q⟩ | ⟨a, a2, f, b, q⟩ | ⟨a, -⟩ | ⟨a, -⟩
  · exact Or.inl ⟨by rw [h1]; exact a, fs, by rw [h1]; exact b, zh_L hσ hN _ _ _ h2 q⟩
  · exact Or.inr (Or.inl ⟨by rw [h1]; exact a, by rw [h1]; exact a2, f, by rw [h1, h3]; exact b, fun j u hu => by obtain ⟨v, e1, e2⟩ := h4 j u hu; exact zh_v_ok e2 hσ hN (q j v e1)⟩)
  · exact Or.inr (Or.inr (Or.inl ⟨by rw [h1]; exact a, by rw [h1]; exact a2, f, by rw [h1, h3]; exact b, fun j u hu => by obtain ⟨v, e1, e2⟩ := h4 j u hu; exact zh_v_ok e2 hσ hN (q j v e1)⟩))
  · exact Or.inr (Or.inr (Or.inr (Or.inl ⟨by rw [h1]; exact a, by rw [h1]; exact a2, f, by rw [h1, h3]; exact b, fun j u hu => by obtain ⟨v, e1, e2⟩ := h4 j u hu; exact zh_v_ok e2 hσ hN (q j v e1)⟩)))
  · omega
  · omega
theorem zh_W {w' w : EW} {g : EG} {ws : va_W} (hG : ze_G g ρ) (hσ : zh_σ sp ρ (ws.map (·.1)) σ vals) (hN : N ≤ ρ.length) (h : zh_w N σ g w' w = true) (hW : ze_W dA sp ρ w ws) : ze_W dA sp (ρ.take N ++ vals) w' ws := by
  obtain ⟨h1, h2⟩ := zh_w_get h
  refine ⟨h1.trans hW.1, fun k c' hk => ?_⟩
  obtain ⟨c, e1, e2⟩ := h2 k c' hk
  obtain ⟨a, e, q1, q2⟩ := hW.2 k c e1
  rcases e2 with ⟨e2, e3⟩ | e2
  · exact ⟨a, e, q1, zh_C hσ hN e2 e3 q2⟩
  · exact ⟨a, e, q1, Or.inr (Or.inr (Or.inr (Or.inr (zh_sm_ok e2 hG q2))))⟩
end ZGW
/-- intervals: the first N wider, the others without bounds -/
noncomputable def zh_top (g : EG) : Bool := List.rec (motive := fun _ => Bool) true (fun p _ ih => cond (Nat.beq p.1 0) (cond (Nat.ble 4294967295 p.2) ih false) false) g
noncomputable def zh_g (N : Nat) : EG → EG → Bool := Nat.rec (motive := fun _ => EG → EG → Bool) (fun g' _ => zh_top g') (fun _ ih g' g => List.rec (motive := fun _ => Bool) false (fun p' r' _ => List.rec (motive := fun _ => Bool) false (fun p r _ => cond (Nat.ble p'.1 p.1) (cond (Nat.ble p.2 p'.2) (ih r' r) false) false) g) g') N
theorem zh_top_ok : ∀ (g : EG), zh_top g = true → ∀ (i : Nat) (p : Nat × Nat), g[i]? = some p → p.1 = 0 ∧ 4294967295 ≤ p.2 := by
  intro g
  induction g with
  | nil => intro _ i p q; cases q
  | cons a t ih =>
    intro h i p q
    obtain ⟨h1, h⟩ := ze_condf (show cond (Nat.beq a.1 0) (cond (Nat.ble 4294967295 a.2) (zh_top t) false) false = true from h)
    obtain ⟨h2, h⟩ := ze_condf h
    cases i with
    | zero => cases (Option.some.inj q); exact ⟨ze_beq h1, Nat.le_of_ble_eq_true h2⟩
    | succ i => exact ih h i p q
theorem zh_g_ok : ∀ (N : Nat) (g' g : EG), zh_g N g' g = true → (∀ (i : Nat) (p' : Nat × Nat), i < N → g'[i]? = some p' → ∃ p, g[i]? = some p ∧ p'.1 ≤ p.1 ∧ p.2 ≤ p'.2) ∧ ∀ (i : Nat) (p' : Nat × Nat), N ≤ i → g'[i]? = some p' → p'.1 = 0 ∧ 4294967295 ≤ p'.2 := by
  intro N
  induction N with
  | zero => intro g' g h; exact ⟨fun i p' hi => by omega, fun i p' _ q => zh_top_ok g' h i p' q⟩
  | succ N ih =>
    intro g' g h
    cases g' with
    | nil => cases h
    | cons a' t' =>
      cases g with
      | nil => cases h
      | cons a t =>
        obtain ⟨h1, h⟩ := ze_condf (show cond (Nat.ble a'.1 a.1) (cond (Nat.ble a.2 a'.2) (zh_g N t' t) false) false = true from h)
        obtain ⟨h2, h⟩ := ze_condf h
        obtain ⟨k1, k2⟩ := ih t' t h
        refine ⟨fun i p' hi q => ?_, fun i p' hi q => ?_⟩
        · cases i with
          | zero => cases (Option.some.inj q); exact ⟨a, rfl, Nat.le_of_ble_eq_true h1, Nat.le_of_ble_eq_true h2⟩
          | succ i => exact k1 i p' (by omega) q
        · cases i with
          | zero => omega
          | succ i => exact k2 i p' (by omega) q
theorem zh_G {sp : Nat → Nat} {ρ : List Int32} {ad : List Nat} {σ : List EV} {vals : List Int32} {N : Nat} {g' g : EG} (hσ : zh_σ sp ρ ad σ vals) (hN : N ≤ ρ.length) (hl : g'.length = N + σ.length) (h : zh_g N g' g = true) (hG : ze_G g ρ) : ze_G g' (ρ.take N ++ vals) := by
  obtain ⟨h1, h2⟩ := zh_g_ok N g' g h
  refine ⟨by rw [hl, List.length_append, List.length_take, Nat.min_eq_left hN, hσ.1], fun i p' x e1 e2 => ?_⟩
  by_cases hi : i < N
  · obtain ⟨p, q1, q2, q3⟩ := h1 i p' hi e1
    rw [zh_lo hN hi] at e2
    have := hG.2 i p x q1 e2
    omega
  · obtain ⟨q1, q2⟩ := h2 i p' (by omega) e1
    have := ze_b_top x
    omega
/-- the values at places of a world: ints -/
noncomputable def zh_rd (w : EW) (pl : List (Nat × Nat)) : List EV → (List EV → Bool) → Bool := List.rec (motive := fun _ => List EV → (List EV → Bool) → Bool) (fun acc f => f acc) (fun p _ ih acc f => ze_g w p.1 (fun c => ze_n c.2 p.2 (fun v => zv_i v (fun _ => ih (acc ++ [v]) f)))) pl
theorem zh_s3v {sp : Nat → Nat} {ρ : List Int32} {ad : List Nat} {l : List EV} {n lo hi : Nat} {j : Nat} {u : EV} (h : l = [eC n, eC lo, eC hi]) (hj : l[j]? = some u) : ∃ X : Value, ze_V sp ρ ad u X := by
  subst h
  match j, hj with
  | 0, hj => cases hj; exact ⟨_, rfl⟩
  | 1, hj => cases hj; exact ⟨_, rfl⟩
  | 2, hj => cases hj; exact ⟨_, rfl⟩
  | j + 3, hj => cases hj
theorem zh_rd_ok {dA : Nat → ClassId} {sp : Nat → Nat} {ρ : List Int32} {w : EW} {ws : va_W} (hW : ze_W dA sp ρ w ws) : ∀ (pl : List (Nat × Nat)) (acc : List EV) (vals : List Int32) (f : List EV → Bool), zh_σ sp ρ (ws.map (·.1)) acc vals → zh_rd w pl acc f = true → ∃ σ vals', f σ = true ∧ zh_σ sp ρ (ws.map (·.1)) σ vals' := by
  intro pl
  induction pl with
  | nil => intro acc vals f h1 h2; exact ⟨acc, vals, h2, h1⟩
  | cons p t ih =>
    intro acc vals f h1 h2
    obtain ⟨c, e1, h2⟩ := ze_g_spec (show ze_g w p.1 _ = true from h2)
    obtain ⟨v, e2, h2⟩ := ze_n_spec _ _ _ h2
    rcases v with u | ((q | q) | q)
    · obtain ⟨a, e, q1, q2⟩ := hW.2 _ _ e1
      have hx : ∃ x : Int32, ze_V sp ρ (ws.map (·.1)) (.inl u) (.int x) := by
        have hany : ∃ X : Value, ze_V sp ρ (ws.map (·.1)) (.inl u) X := by
          rcases q2 with ⟨_, fs, _, z⟩ | ⟨_, _, f9, _, z⟩ | ⟨_, _, f9, _, z⟩ | ⟨_, _, f9, _, z⟩ | ⟨_, _, n9, lo9, hi9, f9, e9, _⟩ | ⟨_, _, n9, lo9, hi9, f9, e9, _⟩
          · obtain ⟨x, _, hx⟩ := z.get e2
            exact ⟨x, hx⟩
          · exact ⟨_, z _ _ e2⟩
          · exact ⟨_, z _ _ e2⟩
          · exact ⟨_, z _ _ e2⟩
          · exact zh_s3v e9 e2
          · exact zh_s3v e9 e2
        obtain ⟨X, hX⟩ := hany
        rcases u with n | i
        · exact ⟨nI n, rfl⟩
        · obtain ⟨z, z1, z2⟩ := id hX
          exact ⟨z, z, z1, rfl⟩
      obtain ⟨x, hx⟩ := hx
      refine ih (acc ++ [.inl u]) (vals ++ [x]) f ⟨by simp [h1.1], fun t9 v9 h9 => ?_⟩ (show zh_rd w t (acc ++ [.inl u]) f = true from h2)
      by_cases hlt : t9 < acc.length
      · rw [List.getElem?_append_left hlt] at h9
        obtain ⟨x9, k1, k2⟩ := h1.2 t9 v9 h9
        exact ⟨x9, by rw [List.getElem?_append_left (by rw [← h1.1]; exact hlt)]; exact k1, k2⟩
      · rw [List.getElem?_append_right (by omega)] at h9
        cases hz : t9 - acc.length with
        | zero =>
          rw [hz] at h9
          cases (Option.some.inj h9)
          refine ⟨x, ?_, hx⟩
          rw [List.getElem?_append_right (by rw [← h1.1]; omega), ← h1.1, hz]
          rfl
        | succ z => rw [hz] at h9; cases h9
    · cases h2
    · cases h2
    · cases h2
/-- intervals: the first N wider; the new ones hold of the values that they stand for -/
noncomputable def zh_in (g : EG) (p' : Nat × Nat) (v : EV) : Bool := cond (Nat.ble p'.1 (zo_iv g v).1) (Nat.ble (zo_iv g v).2 p'.2) false
noncomputable def zh_is (g : EG) (g' : EG) : List EV → Bool := List.rec (motive := fun _ => List EV → Bool) (fun _ => true) (fun p' _ ih σ => List.rec (motive := fun _ => Bool) false (fun v r _ => cond (zh_in g p' v) (ih r) false) σ) g'
noncomputable def zh_gi (N : Nat) (σ : List EV) (g' g0 : EG) : Bool := Nat.rec (motive := fun _ => EG → EG → Bool) (fun g' _ => zh_is g0 g' σ) (fun _ ih g' g => List.rec (motive := fun _ => Bool) false (fun p' r' _ => List.rec (motive := fun _ => Bool) false (fun p r _ => cond (Nat.ble p'.1 p.1) (cond (Nat.ble p.2 p'.2) (ih r' r) false) false) g) g') N g' g0
theorem zh_is_ok {g : EG} : ∀ (g' : EG) (σ : List EV), zh_is g g' σ = true → ∀ (i : Nat) (p' : Nat × Nat), g'[i]? = some p' → ∃ v, σ[i]? = some v ∧ p'.1 ≤ (zo_iv g v).1 ∧ (zo_iv g v).2 ≤ p'.2 := by
  intro g'
  induction g' with
  | nil => intro σ _ i p q; cases q
  | cons a t ih =>
    intro σ h i p q
    cases σ with
    | nil => cases h
    | cons v r =>
      obtain ⟨h1, h2⟩ := ze_condf (show cond (zh_in g a v) (zh_is g t r) false = true from h)
      obtain ⟨k1, k2⟩ := ze_condf (show cond (Nat.ble a.1 (zo_iv g v).1) (Nat.ble (zo_iv g v).2 a.2) false = true from h1)
      cases i with
      | zero => cases (Option.some.inj q); exact ⟨v, rfl, ze_ble' k1, ze_ble' k2⟩
      | succ i => exact ih r h2 i p q
theorem zh_gi_ok {σ : List EV} {g0 : EG} : ∀ (N : Nat) (g' g : EG), Nat.rec (motive := fun _ => EG → EG → Bool) (fun g' _ => zh_is g0 g' σ) (fun _ ih g' g => List.rec (motive := fun _ => Bool) false (fun p' r' _ => List.rec (motive := fun _ => Bool) false (fun p r _ => cond (Nat.ble p'.1 p.1) (cond (Nat.ble p.2 p'.2) (ih r' r) false) false) g) g') N g' g = true → (∀ (i : Nat) (p' : Nat × Nat), i < N → g'[i]? = some p' → ∃ p, g[i]? = some p ∧ p'.1 ≤ p.1 ∧ p.2 ≤ p'.2) ∧ ∀ (i : Nat) (p' : Nat × Nat), N ≤ i → g'[i]? = some p' → ∃ v, σ[i - N]? = some v ∧ p'.1 ≤ (zo_iv g0 v).1 ∧ (zo_iv g0 v).2 ≤ p'.2 := by
  intro N
  induction N with
  | zero => intro g' g h; exact ⟨fun i p' hi => by omega, fun i p' _ q => zh_is_ok g' σ h i p' q⟩
  | succ N ih =>
    intro g' g h
    cases g' with
    | nil => cases h
    | cons a' t' =>
      cases g with
      | nil => cases h
      | cons a t =>
        obtain ⟨h1, h⟩ := ze_condf h
        obtain ⟨h2, h⟩ := ze_condf h
        obtain ⟨k1, k2⟩ := ih t' t h
        refine ⟨fun i p' hi q => ?_, fun i p' hi q => ?_⟩
        · cases i with
          | zero => cases (Option.some.inj q); exact ⟨a, rfl, ze_ble' h1, ze_ble' h2⟩
          | succ i => exact k1 i p' (by omega) q
        · cases i with
          | zero => omega
          | succ i =>
            obtain ⟨v, e1, e2⟩ := k2 i p' (by omega) q
            exact ⟨v, by rw [show i + 1 - (N + 1) = i - N by omega]; exact e1, e2⟩
theorem zh_Gi {sp : Nat → Nat} {ρ : List Int32} {ad : List Nat} {σ : List EV} {vals : List Int32} {N : Nat} {g' g : EG} (hσ : zh_σ sp ρ ad σ vals) (hN : N ≤ ρ.length) (hl : g'.length = N + σ.length) (h : zh_gi N σ g' g = true) (hG : ze_G g ρ) : ze_G g' (ρ.take N ++ vals) := by
  obtain ⟨h1, h2⟩ := zh_gi_ok N g' g h
  refine ⟨by rw [hl, List.length_append, List.length_take, Nat.min_eq_left hN, hσ.1], fun i p' x e1 e2 => ?_⟩
  by_cases hi : i < N
  · obtain ⟨p, q1, q2, q3⟩ := h1 i p' hi e1
    rw [zh_lo hN hi] at e2
    have := hG.2 i p x q1 e2
    omega
  · obtain ⟨v, q1, q2, q3⟩ := h2 i p' (by omega) e1
    rw [zh_hi hN (by omega)] at e2
    obtain ⟨y, k1, k2⟩ := hσ.2 _ _ q1
    rw [e2] at k1
    cases k1
    have := zi_iv hG k2
    omega
noncomputable def zh_rl (ls : List EV) (pll : List Nat) : List EV → (List EV → Bool) → Bool := List.rec (motive := fun _ => List EV → (List EV → Bool) → Bool) (fun acc f => f acc) (fun i _ ih acc f => ze_n ls i (fun v => zv_ v (fun _ => ih (acc ++ [v]) f) (fun _ => false) (fun a => ze_li ze_lr ze_l32 a (fun t => ih (acc ++ [t]) f) false) (fun _ => false))) pll
theorem zh_snoc {sp : Nat → Nat} {ρ : List Int32} {ad : List Nat} {acc : List EV} {vals : List Int32} {v : EV} {x : Int32} (h1 : zh_σ sp ρ ad acc vals) (hx : ze_V sp ρ ad v (.int x)) : zh_σ sp ρ ad (acc ++ [v]) (vals ++ [x]) := by
  refine ⟨by simp [h1.1], fun t9 v9 h9 => ?_⟩
  by_cases hlt : t9 < acc.length
  · rw [List.getElem?_append_left hlt] at h9
    obtain ⟨x9, k1, k2⟩ := h1.2 t9 v9 h9
    exact ⟨x9, by rw [List.getElem?_append_left (by rw [← h1.1]; exact hlt)]; exact k1, k2⟩
  · rw [List.getElem?_append_right (by omega)] at h9
    cases hz : t9 - acc.length with
    | zero =>
      rw [hz] at h9
      cases (Option.some.inj h9)
      refine ⟨x, ?_, hx⟩
      rw [List.getElem?_append_right (by rw [← h1.1]; omega), ← h1.1, hz]
      rfl
    | succ z => rw [hz] at h9; cases h9
theorem zh_rl_ok {sp : Nat → Nat} {ρ : List Int32} {ad : List Nat} {ls : List EV} {lv : List (Nat × Value)} (hL : ze_LL sp ρ ad ls lv) : ∀ (pll : List Nat) (acc : List EV) (vals : List Int32) (f : List EV → Bool), zh_σ sp ρ ad acc vals → zh_rl ls pll acc f = true → ∃ σ vals', f σ = true ∧ zh_σ sp ρ ad σ vals' := by
  intro pll
  induction pll with
  | nil => intro acc vals f h1 h2; exact ⟨acc, vals, h2, h1⟩
  | cons i t ih =>
    intro acc vals f h1 h2
    obtain ⟨v, e2, h2⟩ := ze_n_spec _ _ _ (show ze_n ls i _ = true from h2)
    rcases v with u | ((q | q) | q)
    · obtain ⟨X, -, hX⟩ := hL i _ e2 (fun q => by cases q)
      have hx : ∃ x : Int32, ze_V sp ρ ad (.inl u) (.int x) := by
        rcases u with n | j
        · exact ⟨nI n, rfl⟩
        · obtain ⟨z, z1, z2⟩ := id hX
          exact ⟨z, z, z1, rfl⟩
      obtain ⟨x, hx⟩ := hx
      exact ih (acc ++ [.inl u]) (vals ++ [x]) f (zh_snoc h1 hx) (show zh_rl ls t (acc ++ [.inl u]) f = true from h2)
    · cases h2
    · obtain ⟨X, -, hX⟩ := hL i _ e2 (fun q => by cases q)
      rcases zi_li zi_lr (show ze_li ze_lr ze_l32 q (fun t9 => zh_rl ls t (acc ++ [t9]) f) false = true from h2) hX with ⟨x9, vx, ex, hvx, hf⟩ | hd
      · exact ih (acc ++ [vx]) (vals ++ [x9]) f (zh_snoc h1 hvx) hf
      · cases hd
    · cases h2
noncomputable def zh_lv (N : Nat) (σ : List EV) (u v : EV) : Bool := cond (zh_eq u (eX 1)) true (zh_v N σ u v)
/-- unknowns from N on: ints of the locals pll, then of the places pl -/
noncomputable def zh_chk (N : Nat) (pll : List Nat) (pl : List (Nat × Nat)) (ls' : List EV) (w' : EW) (g' : EG) (ls : List EV) (w : EW) (g : EG) : Bool := zh_rl ls pll [] (fun s0 => zh_rd w pl s0 (fun σ => cond (Nat.beq g'.length (Nat.add N σ.length)) (cond (zh_gi N σ g' g) (cond (zh_w N σ g w' w) (zh_all (zh_lv N σ) ls' ls) false) false) false))
section ZGH
variable {z0 : List Int32 × List Nat} {dC : Nat → ClassId} {dI : Nat → Nat → Nat} {dA : Nat → ClassId} {sp : Nat → Nat} {xs : Nat → Int32} {A : Nat → Prop} {s : State} {nL : Nat} {ls ls' : List EV} {w w' : EW} {g g' : EG} {ρ : List Int32} {ws : va_W} {H : Heap} {locs : List Loc} {la : Array Slot} {N : Nat} {pll : List Nat} {pl : List (Nat × Nat)}
theorem zh_chk_ok {lv : List (Nat × Value)} (h : zh_chk N pll pl ls' w' g' ls w g = true) (hN : N ≤ ρ.length) (hG : ze_G g ρ) (hW : ze_W dA sp ρ w ws) (hL : ze_LL sp ρ (ws.map (·.1)) ls lv) : ∃ vals : List Int32, ze_G g' (ρ.take N ++ vals) ∧ ze_W dA sp (ρ.take N ++ vals) w' ws ∧ ze_LL sp (ρ.take N ++ vals) (ws.map (·.1)) ls' lv := by
  unfold zh_chk at h
  obtain ⟨s0, v0, h, hσ0⟩ := zh_rl_ok hL pll [] [] _ ⟨rfl, fun t v q => by cases q⟩ h
  obtain ⟨σ, vals, h, hσ⟩ := zh_rd_ok hW pl s0 v0 _ hσ0 h
  obtain ⟨h1, h⟩ := ze_condf h
  obtain ⟨h2, h⟩ := ze_condf h
  obtain ⟨h3, h4⟩ := ze_condf h
  refine ⟨vals, zh_Gi hσ hN (ze_beq h1) h2 hG, zh_W hG hσ hN h3 hW, fun i u hu hn => ?_⟩
  obtain ⟨-, h5⟩ := zh_all_ok _ _ h4
  obtain ⟨v, e1, e2⟩ := h5 i u hu
  rcases ze_cond (show cond (zh_eq u (eX 1)) true (zh_v N σ u v) = true from e2) with ⟨h6, -⟩ | ⟨-, h6⟩
  · exact absurd (zh_eq_ok h6) hn
  · obtain ⟨x, k1, k2⟩ := hL i v e1 (fun q => hn (by subst q; exact zh_v_x1 h6 hσ))
    exact ⟨x, k1, zh_v_ok h6 hσ hN k2⟩
theorem zh_pre {l : List Int32} {ρ : List Int32} {vals : List Int32} (h : l <+: ρ) (hl : l.length = N) : l <+: ρ.take N ++ vals ∧ N ≤ ρ.length := by
  obtain ⟨t, rfl⟩ := h
  subst hl
  refine ⟨?_, by simp⟩
  rw [List.take_left]
  exact List.prefix_append _ _
theorem zh_H (h : zh_chk N pll pl ls' w' g' ls w g = true) (hz : z0.1.length = N) (hz6 : 10 ≤ N) (hH : ze_H z0 dC dI dA sp xs A s nL ls [] w g ρ ws H locs la []) : ∃ ρ', ze_H z0 dC dI dA sp xs A s nL ls' [] w' g' ρ' ws H locs la [] := by
  obtain ⟨hG, hY, hW, hP, hD, hS, ⟨lv, hl, hL⟩, hV⟩ := hH
  have hN : N ≤ ρ.length := (zh_pre (vals := []) hY.2.1 hz).2
  obtain ⟨vals, k1, k2, k3⟩ := zh_chk_ok h hN hG hW hL
  exact ⟨_, k1, ⟨fun j hj => by rw [zh_lo hN (by omega)]; exact hY.1 j hj, (zh_pre hY.2.1 hz).1, hY.2.2⟩, k2, hP, hD, hS, ⟨lv, hl, k3⟩, trivial⟩
end ZGH

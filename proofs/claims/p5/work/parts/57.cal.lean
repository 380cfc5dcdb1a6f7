/-! calls by contracts on small worlds: the cells are found from the arguments on -/
/-- an argument, or a field of a cell found before -/
noncomputable def zf_ix (av : List EV) (w : EW) (ps : List (Nat ⊕ (Nat × Nat))) : List Nat → (List Nat → Bool) → Bool := List.rec (motive := fun _ => List Nat → (List Nat → Bool) → Bool) (fun acc F => F acc) (fun p _ ih acc F => Sum.rec (motive := fun _ => Bool) (fun j => ze_n av j (fun v => zv_r v (fun k => ih (acc ++ [k]) F))) (fun q => ze_n acc q.1 (fun k => ze_g w k (fun c => ze_n c.2 q.2 (fun v => zv_r v (fun k2 => ih (acc ++ [k2]) F))))) p) ps
theorem zf_r_ {v : EV} {f : Nat → Bool} (h : zv_r v f = true) : ∃ k, f k = true := by
  rcases v with a | ((k | a) | a)
  · cases h
  · exact ⟨k, h⟩
  · cases h
  · cases h
theorem zf_ix_ok {av : List EV} {w : EW} {F : List Nat → Bool} : ∀ (ps : List (Nat ⊕ (Nat × Nat))) (acc : List Nat), zf_ix av w ps acc F = true → ∃ idx, F idx = true := by
  intro ps
  induction ps with
  | nil => intro acc h; exact ⟨acc, h⟩
  | cons p t ih =>
    intro acc h
    rcases p with j | q
    · obtain ⟨v, -, h⟩ := ze_n_spec _ _ _ (show ze_n av j (fun v => zv_r v (fun k => zf_ix av w t (acc ++ [k]) F)) = true from h)
      obtain ⟨k, h⟩ := zf_r_ h
      exact ih _ h
    · obtain ⟨k, -, h⟩ := ze_n_spec _ _ _ (show ze_n acc q.1 (fun k => ze_g w k (fun c => ze_n c.2 q.2 (fun v => zv_r v (fun k2 => zf_ix av w t (acc ++ [k2]) F)))) = true from h)
      obtain ⟨c, -, h⟩ := ze_g_spec h
      obtain ⟨v, -, h⟩ := ze_n_spec _ _ _ h
      obtain ⟨k2, h⟩ := zf_r_ h
      exact ih _ h
noncomputable def zf_cal0 (y0 N : Nat) (ps : List (Nat ⊕ (Nat × Nat))) (pa : List Nat) (pl pk : List (Nat × Nat)) (av0 : List EV) (wg : EW) (g0 : EG) (es : List ZN) : ECal := fun y av w g k => zcd (Nat.beq y y0) (zf_ix av w ps [] (fun idx => zf_at1 N idx pa pl pk av0 wg g0 es av w g k)) false
section ZFK
variable {l : Launch} {dC : Nat → ClassId} {dI : Nat → Nat → Nat} {dA : Nat → ClassId} {sp : Nat → Nat} {xs : ZXs} {A : Nat → Prop}
theorem zf_cal0_ok {y0 : Nat} {q : ZMt} (hq0 : q.2.2.2.2.2.1 = 0 ∧ q.2.2.2.2.2.2 = 0) {D N : Nat} {ps : List (Nat ⊕ (Nat × Nat))} {pa : List Nat} {pl pk : List (Nat × Nat)} {av0 : List EV} {wg : EW} {g0 : EG} {es : List ZN} (hN6 : 10 ≤ N) (hrr : ∀ e ∈ es, e.1 ≠ some (eX 1))
    (hloc : ∀ (sp : Nat → Nat) (A : Nat → Prop) (ρ : List Int32) (ws : va_W) (avs : List Value), g0.length ≤ ρ.length → ze_G g0 ρ → ze_Z (ze_x0 xs) ρ → ze_W dA sp ρ wg ws → ze_L sp ρ (ws.map (·.1)) av0 avs → Met l q.1 (.code q.1 q.2.1 q.2.2.1 q.2.2.2.1 :: zb_T) (ze_rm D q.2.2.2.2.2.1 q.2.2.2.2.2.2) (va_Pc avs (ze_Pc dC dI dA sp (ze_x0 xs) A ws)) (ze_Qc dC dI dA sp A (zy_ends g0.length es) (ρ.take g0.length) (ws.map (·.1))) q.2.2.2.2.2.1 q.2.2.2.2.2.2 A) :
    ze_Cal l dC dI dA sp xs A (zf_cal0 y0 N ps pa pl pk av0 wg g0 es) y0 D q.1 q.2.1 q.2.2.1 q.2.2.2.1 q.2.2.2.2.2.1 q.2.2.2.2.2.2 := by
  intro av w g k' h ρ ws avs hG hX hW hL
  obtain ⟨-, h⟩ := ze_condf h
  obtain ⟨idx, h⟩ := zf_ix_ok ps [] h
  rw [hq0.1, hq0.2] at hloc ⊢
  exact zf_met hN6 hrr hloc h hG hX hW hL
end ZFK
/-! the same, its lists made without appending, its data worked out once -/
noncomputable def zq_rv (acc : List Nat) : List Nat → (List Nat → Bool) → Bool := List.rec (motive := fun _ => List Nat → (List Nat → Bool) → Bool) (fun out F => F out) (fun k _ ih out F => ih (k :: out) F) acc
theorem zq_rv_eq : ∀ (acc out : List Nat) (F : List Nat → Bool), zq_rv acc out F = F (acc.reverse ++ out) := by
  intro acc
  induction acc with
  | nil => intro out F; rfl
  | cons k t ih =>
    intro out F
    show zq_rv t (k :: out) F = _
    rw [ih, List.reverse_cons, List.append_assoc]
    rfl
theorem ze_n_el {α : Type} : ∀ (l : List α) (i : Nat) (f : α → Bool), ze_n l i f = (match l[i]? with | some a => f a | none => false) := by
  intro l i f
  unfold ze_n
  cases hd : ze_dp l i with
  | nil => rw [ze_dp_nil hd]
  | cons a t => rw [ze_dp_cons hd]
noncomputable def zq_ix (av : List EV) (w : EW) (ps : List (Nat ⊕ (Nat × Nat))) : Nat → List Nat → (List Nat → Bool) → Bool := List.rec (motive := fun _ => Nat → List Nat → (List Nat → Bool) → Bool) (fun _ acc F => zq_rv acc [] F) (fun p _ ih m acc F => Sum.rec (motive := fun _ => Bool) (fun j => ze_n av j (fun v => zv_r v (fun k => ih (Nat.succ m) (k :: acc) F))) (fun q => zcd (Nat.ble (Nat.succ q.1) m) (ze_n acc (Nat.sub m (Nat.succ q.1)) (fun k => ze_g w k (fun c => ze_n c.2 q.2 (fun v => zv_r v (fun k2 => ih (Nat.succ m) (k2 :: acc) F))))) false) p) ps
theorem zq_ix_eq {av : List EV} {w : EW} : ∀ (ps : List (Nat ⊕ (Nat × Nat))) (acc : List Nat) (F : List Nat → Bool), zq_ix av w ps acc.length acc F = zf_ix av w ps acc.reverse F := by
  intro ps
  induction ps with
  | nil =>
    intro acc F
    show zq_rv acc [] F = F acc.reverse
    rw [zq_rv_eq, List.append_nil]
  | cons p t ih =>
    intro acc F
    have h : ∀ k : Nat, zq_ix av w t (Nat.succ acc.length) (k :: acc) F = zf_ix av w t (acc.reverse ++ [k]) F := fun k => by
      have h9 := ih (k :: acc) F
      rw [List.reverse_cons] at h9
      exact h9
    rcases p with j | q
    · show ze_n av j (fun v => zv_r v (fun k => zq_ix av w t (Nat.succ acc.length) (k :: acc) F)) = ze_n av j (fun v => zv_r v (fun k => zf_ix av w t (acc.reverse ++ [k]) F))
      simp only [h]
    · show zcd (Nat.ble (Nat.succ q.1) acc.length) (ze_n acc (Nat.sub acc.length (Nat.succ q.1)) (fun k => ze_g w k (fun c => ze_n c.2 q.2 (fun v => zv_r v (fun k2 => zq_ix av w t (Nat.succ acc.length) (k2 :: acc) F))))) false = ze_n acc.reverse q.1 (fun k => ze_g w k (fun c => ze_n c.2 q.2 (fun v => zv_r v (fun k2 => zf_ix av w t (acc.reverse ++ [k2]) F))))
      simp only [h]
      rw [ze_n_el acc.reverse, ze_n_el acc]
      by_cases hq : q.1 < acc.length
      · rw [ze_ble (show Nat.succ q.1 ≤ acc.length from hq), List.getElem?_reverse hq, show acc.length - 1 - q.1 = Nat.sub acc.length (Nat.succ q.1) by show acc.length - 1 - q.1 = acc.length - (q.1 + 1); omega]
        rfl
      · have e1 : Nat.ble (Nat.succ q.1) acc.length = false := by
          cases hb : Nat.ble (Nat.succ q.1) acc.length with
          | false => rfl
          | true => exact absurd (ze_ble' hb) hq
        rw [e1, show acc.reverse[q.1]? = none from List.getElem?_eq_none (by rw [List.length_reverse]; omega)]
        rfl
noncomputable def zq_nd {α : Type} (l : List α) (d : α) (f : α → Bool) (i : Nat) : Bool := List.rec (motive := fun _ => Bool) (f d) (fun a _ _ => f a) (ze_dp l i)
theorem zq_nd_eq {α : Type} {d : α} {f : α → Bool} : ∀ (l : List α) (i : Nat), zq_nd l d f i = f (l.getD i d) := by
  intro l i
  rw [List.getD_eq_getElem?_getD]
  unfold zq_nd
  cases hd : ze_dp l i with
  | nil => rw [ze_dp_nil hd]; rfl
  | cons a t => rw [ze_dp_cons hd]; rfl
noncomputable def zq_rdi (w : EW) (idx : List Nat) (pl : List (Nat × Nat)) : (List EV → Bool) → Bool := List.rec (motive := fun _ => (List EV → Bool) → Bool) (fun f => f []) (fun p _ ih f => zq_nd idx 0 (fun k => ze_g w k (fun c => ze_n c.2 p.2 (fun v => zv_i v (fun _ => ih (fun r => f (v :: r)))))) p.1) pl
theorem zq_rdi_eq {w : EW} {idx : List Nat} : ∀ (pl : List (Nat × Nat)) (f : List EV → Bool), zq_rdi w idx pl f = zq_rd w (pl.map (fun p => (idx.getD p.1 0, p.2))) f := by
  intro pl
  induction pl with
  | nil => intro f; rfl
  | cons p t ih =>
    intro f
    show zq_nd idx 0 (fun k => ze_g w k (fun c => ze_n c.2 p.2 (fun v => zv_i v (fun _ => zq_rdi w idx t (fun r => f (v :: r)))))) p.1 = ze_g w (idx.getD p.1 0) (fun c => ze_n c.2 p.2 (fun v => zv_i v (fun _ => zq_rd w (t.map (fun p => (idx.getD p.1 0, p.2))) (fun r => f (v :: r)))))
    rw [zq_nd_eq]
    simp only [ih]
/-- a name back, worked out -/
noncomputable def zq_r2 (N N2 M : Nat) (σ : List EV) (idx : List Nat) (κ : List EV) (u : EV) (f : EV → Bool) : Bool := Sum.rec (motive := fun _ => Bool) (fun a => Sum.rec (motive := fun _ => Bool) (fun n => f (eC n)) (fun i => zcd (Nat.ble (Nat.succ i) N) (f (eU i)) (zcd (Nat.ble (Nat.succ i) N2) (zq_nd σ (eC 0) f (Nat.sub i N)) (ze_f (Nat.add M (Nat.sub i N2)) (fun j => f (eU j))))) a) (fun b => Sum.rec (motive := fun _ => Bool) (fun z => Sum.rec (motive := fun _ => Bool) (fun n => zq_nd idx 0 (fun k => f (eR k)) n) (fun y => Sum.rec (motive := fun _ => Bool) (fun n => f (eL n)) (fun i => zcd (Nat.ble (Nat.succ i) N) (f (eLU i)) (zcd (Nat.ble (Nat.succ i) N2) (zq_nd σ (eC 0) (fun s => zN_v (zf_lo s) f) (Nat.sub i N)) (ze_f (Nat.add M (Nat.sub i N2)) (fun j => f (eLU j))))) y) z) (fun k => zcd (Nat.ble 42 k) (zq_nd κ (eX k) f (Nat.sub k 42)) (f (eX k))) b) u
theorem zq_cnd {b : Bool} {f : EV → Bool} {x y : EV} : zcd b (f x) (f y) = f (zcd b x y) := by cases b <;> rfl
theorem zq_r2_eq {N N2 M : Nat} {σ : List EV} {idx : List Nat} {κ : List EV} (u : EV) (f : EV → Bool) : zq_r2 N N2 M σ idx κ u f = f (zf_r2 N N2 M σ idx κ u) := by
  rcases u with (n | i) | ((k | (n | i)) | k)
  · rfl
  · show zcd (Nat.ble (Nat.succ i) N) (f (eU i)) (zcd (Nat.ble (Nat.succ i) N2) (zq_nd σ (eC 0) f (Nat.sub i N)) (ze_f (Nat.add M (Nat.sub i N2)) (fun j => f (eU j)))) = f (zf_ri N N2 M σ i)
    rw [zq_nd_eq, ze_f_eq, zq_cnd, zq_cnd]
    rfl
  · show zq_nd idx 0 (fun k => f (eR k)) k = f (eR (idx.getD k 0))
    rw [zq_nd_eq]
  · rfl
  · show zcd (Nat.ble (Nat.succ i) N) (f (eLU i)) (zcd (Nat.ble (Nat.succ i) N2) (zq_nd σ (eC 0) (fun s => zN_v (zf_lo s) f) (Nat.sub i N)) (ze_f (Nat.add M (Nat.sub i N2)) (fun j => f (eLU j)))) = f (zf_rl N N2 M σ i)
    rw [zq_nd_eq, zN_v_eq, ze_f_eq, zq_cnd, zq_cnd]
    rfl
  · show zcd (Nat.ble 42 k) (zq_nd κ (eX k) f (Nat.sub k 42)) (f (eX k)) = f (zf_xk κ k)
    rw [zq_nd_eq, zq_cnd]
    rfl
noncomputable def zq_ml (N N2 M : Nat) (σ : List EV) (idx : List Nat) (κ : List EV) (l : List EV) : (List EV → Bool) → Bool := List.rec (motive := fun _ => (List EV → Bool) → Bool) (fun f => f []) (fun u _ ih f => zq_r2 N N2 M σ idx κ u (fun v => ih (fun r => f (v :: r)))) l
theorem zq_ml_eq {N N2 M : Nat} {σ : List EV} {idx : List Nat} {κ : List EV} : ∀ (l : List EV) (f : List EV → Bool), zq_ml N N2 M σ idx κ l f = f (l.map (zf_r2 N N2 M σ idx κ)) := by
  intro l
  induction l with
  | nil => intro f; rfl
  | cons u t ih =>
    intro f
    show zq_r2 N N2 M σ idx κ u (fun v => zq_ml N N2 M σ idx κ t (fun r => f (v :: r))) = _
    rw [zq_r2_eq, ih]
    rfl
noncomputable def zq_up (N N2 M : Nat) (σ : List EV) (idx0 : List Nat) (κ : List EV) (we : EW) (idx : List Nat) : Nat → EW → (EW → Bool) → Bool := List.rec (motive := fun _ => Nat → EW → (EW → Bool) → Bool) (fun _ w f => f w) (fun k _ ih n w f => ze_g we n (fun c => zq_ml N N2 M σ idx0 κ c.2 (fun l => ih (Nat.succ n) (ze_ws w k (c.1, l)) f))) idx
theorem zq_up_eq {N N2 M : Nat} {σ : List EV} {idx0 : List Nat} {κ : List EV} {we : EW} : ∀ (idx : List Nat) (n : Nat) (w : EW) (f : EW → Bool), zq_up N N2 M σ idx0 κ we idx n w f = zf_up (zf_r2 N N2 M σ idx0 κ) we idx n w f := by
  intro idx
  induction idx with
  | nil => intro n w f; rfl
  | cons k t ih =>
    intro n w f
    show ze_g we n (fun c => zq_ml N N2 M σ idx0 κ c.2 (fun l => zq_up N N2 M σ idx0 κ we t (Nat.succ n) (ze_ws w k (c.1, l)) f)) = ze_g we n (fun c => zf_up (zf_r2 N N2 M σ idx0 κ) we t (Nat.succ n) (ze_ws w k (c.1, c.2.map (zf_r2 N N2 M σ idx0 κ))) f)
    simp only [zq_ml_eq, ih]
noncomputable def zq_o (N N2 M : Nat) (σ : List EV) (idx : List Nat) (κ : List EV) (r : Option EV) (f : Option EV → Bool) : Bool := Option.rec (motive := fun _ => Bool) (f none) (fun u => zq_r2 N N2 M σ idx κ u (fun v => f (some v))) r
theorem zq_o_eq {N N2 M : Nat} {σ : List EV} {idx : List Nat} {κ : List EV} (r : Option EV) (f : Option EV → Bool) : zq_o N N2 M σ idx κ r f = f (r.map (zf_r2 N N2 M σ idx κ)) := by
  cases r with
  | none => rfl
  | some u =>
    show zq_r2 N N2 M σ idx κ u (fun v => f (some v)) = _
    rw [zq_r2_eq]
    rfl
noncomputable def zq_fin (N N2 M : Nat) (σ : List EV) (idx : List Nat) (κ : List EV) (w : EW) (g : EG) (k : ERt) (es : List ZN) : Bool := List.rec (motive := fun _ => Bool) true (fun e _ ih => zcd (zcd (Nat.beq e.2.2.2.1.1 (zq_len idx)) (zq_up N N2 M σ idx κ e.2.2.2.1 idx 0 w (fun w' => zq_ap g (zq_dr N2 e.2.2.2.2) (fun g1 => zf_nw σ (zq_dr N e.2.2.2.2) g1 (fun g' => zq_o N N2 M σ idx κ e.1 (fun r => k r w' g'))))) false) ih false) es
theorem zq_fin_eq {N N2 : Nat} {σ : List EV} {idx : List Nat} {κ : List EV} {w : EW} {g : EG} {k : ERt} : ∀ (es : List ZN), zq_fin N N2 g.length σ idx κ w g k es = zf_fin N N2 σ idx κ w g k es := by
  intro es
  induction es with
  | nil => rfl
  | cons e t ih =>
    show zcd (zcd (Nat.beq e.2.2.2.1.1 (zq_len idx)) (zq_up N N2 g.length σ idx κ e.2.2.2.1 idx 0 w (fun w' => zq_ap g (zq_dr N2 e.2.2.2.2) (fun g1 => zf_nw σ (zq_dr N e.2.2.2.2) g1 (fun g' => zq_o N N2 g.length σ idx κ e.1 (fun r => k r w' g'))))) false) (zq_fin N N2 g.length σ idx κ w g k t) false = zcd (zcd (Nat.beq e.2.2.2.1.1 idx.length) (zf_up (zf_r2 N N2 g.length σ idx κ) e.2.2.2.1 idx 0 w (fun w' => zf_nw σ (e.2.2.2.2.drop N) (g ++ e.2.2.2.2.drop N2) (fun g' => k (e.1.map (zf_r2 N N2 g.length σ idx κ)) w' g'))) false) (zf_fin N N2 σ idx κ w g k t) false
    rw [ih]
    simp only [zq_len_eq, zq_up_eq, zq_ap_eq, zq_dr_eq, zq_o_eq]
noncomputable def zf_i2 (t : List Nat) : Nat → Bool := List.rec (motive := fun _ => Nat → Bool) (fun _ => true) (fun a _ ih p => zcd (Nat.ble (Nat.succ p) a) (ih a) false) t
noncomputable def zf_ic (l : List Nat) : Bool := List.rec (motive := fun _ => Bool) true (fun a t _ => zf_i2 t a) l
theorem zf_i2_ok : ∀ (t : List Nat) (p : Nat), zf_i2 t p = true → (∀ x ∈ t, p < x) ∧ zf_nd t = true := by
  intro t
  induction t with
  | nil => intro p _; exact ⟨fun x hx => (by cases hx), rfl⟩
  | cons a t ih =>
    intro p h
    obtain ⟨h1, h2⟩ := ze_condf (show zcd (Nat.ble (Nat.succ p) a) (zf_i2 t a) false = true from h)
    obtain ⟨h3, h4⟩ := ih a h2
    have h1 : p < a := ze_ble' h1
    refine ⟨fun x hx => ?_, ?_⟩
    · rcases List.mem_cons.mp hx with e | hx
      · rw [e]; exact h1
      · exact Nat.lt_trans h1 (h3 x hx)
    · show zcd (ze_mem a t) false (zf_nd t) = true
      cases hm : ze_mem a t with
      | true => exact absurd (h3 a (ze_mem_in _ _ hm)) (Nat.lt_irrefl a)
      | false => exact h4
noncomputable def zf_nx (l : List Nat) : Bool := zcd (zf_ic l) true (zf_nd l)
theorem zf_nx_eq (l : List Nat) : zf_nx l = zf_nd l := by
  unfold zf_nx
  cases h : zf_ic l with
  | false => rfl
  | true =>
    cases l with
    | nil => rfl
    | cons a t =>
      obtain ⟨h3, h4⟩ := zf_i2_ok t a h
      show true = zcd (ze_mem a t) false (zf_nd t)
      cases hm : ze_mem a t with
      | true => exact absurd (h3 a (ze_mem_in _ _ hm)) (Nat.lt_irrefl a)
      | false => exact h4.symm
noncomputable def zq_at1 (N : Nat) (idx pa : List Nat) (pl pk : List (Nat × Nat)) (av0 : List EV) (wg : EW) (g0 : EG) (es : List ZN) (av : List EV) (w : EW) (g : EG) (k : ERt) : Bool :=
  zcd (zf_nx idx) (ze_f (zq_len g) (fun M => ze_f (zq_len g0) (fun N2 => zcd (Nat.ble N M) (zf_rk w (pk.map (fun p => (idx.getD p.1 0, p.2))) [] (fun κ => zq_rl av pa (fun s0 => zq_rdi w idx pl (fun s1 => zq_ap s0 s1 (fun σ => zcd (Nat.beq N2 (Nat.add N (zq_len σ))) (zcd (zh_gi N σ g0 g) (zcd (zh_all (zf_v N σ idx κ) av0 av) (zcd (zf_w N σ g idx κ wg w) (zq_fin N N2 M σ idx κ w g k es) false) false) false) false))))) false))) false
theorem zq_at1_eq {N : Nat} {idx pa : List Nat} {pl pk : List (Nat × Nat)} {av0 : List EV} {wg : EW} {g0 : EG} {es : List ZN} {av : List EV} {w : EW} {g : EG} {k : ERt} : zq_at1 N idx pa pl pk av0 wg g0 es av w g k = zf_at1 N idx pa pl pk av0 wg g0 es av w g k := by
  unfold zq_at1 zf_at1
  simp only [zf_nx_eq, ze_f_eq, zq_rl_eq]
  simp only [zq_ap_eq, zq_rd_eq, zq_rdi_eq, zq_len_eq, zq_fin_eq, List.nil_append]
/-! unchanged cells are not put back; references by their place -/
theorem ze_g_el (w : EW) (k : Nat) (f : EC → Bool) : ze_g w k f = (match ze_gw w k with | some c => f c | none => false) := by
  show ze_n w.2 (k / 16) (fun ch => ze_n ch (k % 16) f) = _
  unfold ze_gw
  rw [ze_n_el]
  cases w.2[k / 16]? with
  | none => rfl
  | some ch =>
    show ze_n ch (k % 16) f = (match ch[k % 16]? with | some c => f c | none => false)
    have h := ze_n_el ch (k % 16) f
    cases h9 : ch[k % 16]? with
    | none => rw [h9] at h; exact h
    | some c => rw [h9] at h; exact h
theorem ze_g_some {w : EW} {k : Nat} {c : EC} (h : ze_gw w k = some c) (f : EC → Bool) : ze_g w k f = f c := by
  have h9 := ze_g_el w k f
  rw [h] at h9
  exact h9
theorem ze_g_none {w : EW} {k : Nat} (h : ze_gw w k = none) (f : EC → Bool) : ze_g w k f = false := by
  have h9 := ze_g_el w k f
  rw [h] at h9
  exact h9
theorem ze_ws_same {w : EW} {k : Nat} {c : EC} (h : ze_gw w k = some c) : ze_ws w k c = w := by
  obtain ⟨ch, h1, h2⟩ := Option.bind_eq_some_iff.mp (show (w.2[k / 16]?).bind (fun ch => ch[k % 16]?) = some c from h)
  have e2 : ch.set (k % 16) c = ch := by
    apply List.ext_getElem?
    intro j
    rw [List.getElem?_set]
    by_cases h9 : k % 16 = j
    · have hlt := (List.getElem?_eq_some_iff.mp h2).1
      rw [if_pos h9, if_pos hlt, ← h9, h2]
    · rw [if_neg h9]
  have e : ze_m (fun ch => ze_s c ch (k % 16)) w.2 (k / 16) = w.2 := by
    apply List.ext_getElem?
    intro j
    rw [ze_m_get]
    by_cases hj : j = k / 16
    · rw [if_pos hj, hj, h1]
      show some (ze_s c ch (k % 16)) = some ch
      rw [ze_s_eq, e2]
    · rw [if_neg hj]
  show (w.1, ze_m (fun ch => ze_s c ch (k % 16)) w.2 (k / 16)) = w
  rw [e]
noncomputable def zq_v0 (N : Nat) (σ : List EV) (idx : List Nat) (u v : EV) : Bool := zv_ v (fun _ => zh_v N σ u v) (fun k => zv_r u (fun n => ze_n idx n (fun a => Nat.beq a k))) (fun _ => zh_v N σ u v) (fun _ => zh_v N σ u v)
noncomputable def zq_v (N : Nat) (σ : List EV) (idx : List Nat) (κ : List EV) (u v : EV) : Bool := zv_ u (fun _ => zq_v0 N σ idx u v) (fun _ => zq_v0 N σ idx u v) (fun _ => zq_v0 N σ idx u v) (fun m => zf_o κ m v (zq_v0 N σ idx u v))
theorem zf_p_at {k : Nat} {f : Nat → Bool} : ∀ (idx : List Nat) (n m : Nat), (∀ (i j a : Nat), idx[i]? = some a → idx[j]? = some a → i = j) → idx[n]? = some k → zf_p idx k m f = f (m + n) := by
  intro idx
  induction idx with
  | nil => intro n m _ h; cases h
  | cons a t ih =>
    intro n m hnd h
    cases n with
    | zero =>
      have e : a = k := Option.some.inj h
      subst e
      show zcd (Nat.beq a a) (f m) _ = _
      rw [Nat.beq_refl a]
      all_goals rfl
    | succ n =>
      have hne : Nat.beq a k = false := by
        cases hb : Nat.beq a k with
        | false => rfl
        | true =>
          have e := ze_beq hb
          subst e
          have := hnd 0 (n + 1) a rfl h
          omega
      show zcd (Nat.beq a k) (f m) (zf_p t k (Nat.succ m) f) = _
      rw [hne]
      show zf_p t k (Nat.succ m) f = _
      rw [ih n (Nat.succ m) (fun i j b h1 h2 => by have := hnd (i + 1) (j + 1) b h1 h2; omega) h, show Nat.succ m + n = m + (n + 1) by omega]
theorem zq_v0_eq {N : Nat} {σ : List EV} {idx : List Nat} (hnd : ∀ (i j a : Nat), idx[i]? = some a → idx[j]? = some a → i = j) : zq_v0 N σ idx = zf_v0 N σ idx := by
  funext u v
  rcases v with a | ((k | a) | a)
  · rfl
  · show zv_r u (fun n => ze_n idx n (fun a => Nat.beq a k)) = zf_p idx k 0 (fun n => zh_eq u (eR n))
    rw [Bool.eq_iff_iff]
    constructor
    · intro h
      rcases u with u | ((n | u) | u)
      · cases h
      · obtain ⟨a, h1, h2⟩ := ze_n_spec _ _ _ (show ze_n idx n (fun a => Nat.beq a k) = true from h)
        have e := ze_beq h2
        subst e
        rw [zf_p_at idx n 0 hnd h1, Nat.zero_add]
        exact Nat.beq_refl n
      · cases h
      · cases h
    · intro h
      obtain ⟨i, h1, h2⟩ := zf_p_ok idx 0 h
      have e := zh_eq_ok h2
      subst e
      show ze_n idx (0 + i) (fun a => Nat.beq a k) = true
      rw [Nat.zero_add, ze_n_el, h1]
      exact Nat.beq_refl k
  · rfl
  · rfl
theorem zq_v_eq {N : Nat} {σ : List EV} {idx : List Nat} {κ : List EV} (hnd : ∀ (i j a : Nat), idx[i]? = some a → idx[j]? = some a → i = j) : zq_v N σ idx κ = zf_v N σ idx κ := by
  funext u v
  unfold zq_v zf_v
  rw [zq_v0_eq hnd]
noncomputable def zq_ci (c' c : EC) : Bool := zcd (Nat.beq c'.1 c.1) (zcd (zcd (Nat.ble 1000 c'.1) (Nat.ble c'.1 1299) false) (zh_all zh_eq c'.2 c.2) false) false
noncomputable def zq_ck (fv : EV → EV → Bool) (c' c : EC) : Bool := zcd (zq_ci c' c) true (zcd (Nat.beq c'.1 c.1) (zh_cc fv c' c) false)
theorem zq_ck_eq {fv : EV → EV → Bool} {c' c : EC} : zq_ck fv c' c = zcd (Nat.beq c'.1 c.1) (zh_cc fv c' c) false := by
  refine zq_ct fun h => ?_
  obtain ⟨h1, h2⟩ := ze_condf h
  obtain ⟨h3, h4⟩ := ze_condf h2
  unfold zh_cc
  rw [h1, h3, h4]
  all_goals rfl
noncomputable def zq_cs (fv : EV → EV → Bool) (N : Nat) (σ : List EV) (g : EG) (wg w : EW) (idx : List Nat) : Nat → (List Bool → Bool) → Bool := List.rec (motive := fun _ => Nat → (List Bool → Bool) → Bool) (fun _ F => F []) (fun k _ ih n F => ze_g wg n (fun c' => ze_g w k (fun c => zcd (zq_ck fv c' c) (ih (Nat.succ n) (fun fl => F (true :: fl))) (zcd (zcd (zh_pm N σ g c' c) true (zh_sm g c' c)) (ih (Nat.succ n) (fun fl => F (false :: fl))) false)))) idx
theorem zq_cs_ok (N : Nat) (σ : List EV) (g : EG) (idx0 : List Nat) (κ : List EV) (wg w : EW) : ∀ (idx : List Nat) (n : Nat), ∃ fl : List Bool, fl.length = idx.length ∧ (∀ (i k : Nat), idx[i]? = some k → fl[i]? = some true → ∃ c' c, ze_gw wg (n + i) = some c' ∧ ze_gw w k = some c ∧ c'.1 = c.1 ∧ zh_cc (zf_v N σ idx0 κ) c' c = true) ∧ ∀ F, zq_cs (zf_v N σ idx0 κ) N σ g wg w idx n F = zcd (zf_cs N σ g idx0 κ wg w idx n) (F fl) false := by
  intro idx
  induction idx with
  | nil => intro n; exact ⟨[], rfl, fun i k h => (by cases h), fun F => rfl⟩
  | cons k t ih =>
    intro n
    obtain ⟨fl, hl, hs, he⟩ := ih (Nat.succ n)
    have hs2 : ∀ (i k2 : Nat), (k :: t)[i + 1]? = some k2 → fl[i]? = some true → ∃ c' c, ze_gw wg (n + (i + 1)) = some c' ∧ ze_gw w k2 = some c ∧ c'.1 = c.1 ∧ zh_cc (zf_v N σ idx0 κ) c' c = true := by
      intro i k2 h1 h2
      obtain ⟨c', c, q1, q2⟩ := hs i k2 h1 h2
      rw [show Nat.succ n + i = n + (i + 1) by omega] at q1
      exact ⟨c', c, q1, q2⟩
    have hf : ∀ (i k2 : Nat), (k :: t)[i]? = some k2 → (false :: fl)[i]? = some true → ∃ c' c, ze_gw wg (n + i) = some c' ∧ ze_gw w k2 = some c ∧ c'.1 = c.1 ∧ zh_cc (zf_v N σ idx0 κ) c' c = true := by
      intro i k2 h1 h2
      cases i with
      | zero => cases h2
      | succ i => exact hs2 i k2 h1 h2
    have e1 : ∀ F, zq_cs (zf_v N σ idx0 κ) N σ g wg w (k :: t) n F = ze_g wg n (fun c' => ze_g w k (fun c => zcd (zcd (Nat.beq c'.1 c.1) (zh_cc (zf_v N σ idx0 κ) c' c) false) (zq_cs (zf_v N σ idx0 κ) N σ g wg w t (Nat.succ n) (fun fl => F (true :: fl))) (zcd (zcd (zh_pm N σ g c' c) true (zh_sm g c' c)) (zq_cs (zf_v N σ idx0 κ) N σ g wg w t (Nat.succ n) (fun fl => F (false :: fl))) false))) := fun F => by
      show ze_g wg n (fun c' => ze_g w k (fun c => zcd (zq_ck (zf_v N σ idx0 κ) c' c) (zq_cs (zf_v N σ idx0 κ) N σ g wg w t (Nat.succ n) (fun fl => F (true :: fl))) (zcd (zcd (zh_pm N σ g c' c) true (zh_sm g c' c)) (zq_cs (zf_v N σ idx0 κ) N σ g wg w t (Nat.succ n) (fun fl => F (false :: fl))) false))) = _
      simp only [zq_ck_eq]
    have e2 : zf_cs N σ g idx0 κ wg w (k :: t) n = ze_g wg n (fun c' => ze_g w k (fun c => zcd (zcd (zcd (Nat.beq c'.1 c.1) (zh_cc (zf_v N σ idx0 κ) c' c) false) true (zcd (zh_pm N σ g c' c) true (zh_sm g c' c))) (zf_cs N σ g idx0 κ wg w t (Nat.succ n)) false)) := rfl
    cases h1 : ze_gw wg n with
    | none =>
      refine ⟨false :: fl, by simp [hl], hf, fun F => ?_⟩
      rw [e1, e2, ze_g_none h1, ze_g_none h1]
      all_goals rfl
    | some c' =>
      cases h2 : ze_gw w k with
      | none =>
        refine ⟨false :: fl, by simp [hl], hf, fun F => ?_⟩
        rw [e1, e2, ze_g_some h1, ze_g_some h1, ze_g_none h2, ze_g_none h2]
        all_goals rfl
      | some c =>
        cases hb : zcd (Nat.beq c'.1 c.1) (zh_cc (zf_v N σ idx0 κ) c' c) false with
        | true =>
          refine ⟨true :: fl, by simp [hl], ?_, fun F => ?_⟩
          · intro i k2 q1 q2
            cases i with
            | zero =>
              have e : k = k2 := Option.some.inj q1
              subst e
              obtain ⟨b1, b2⟩ := ze_condf hb
              exact ⟨c', c, h1, h2, ze_beq b1, b2⟩
            | succ i => exact hs2 i k2 q1 q2
          · rw [e1, e2, ze_g_some h1, ze_g_some h1, ze_g_some h2, ze_g_some h2]
            show zcd (zcd (Nat.beq c'.1 c.1) (zh_cc (zf_v N σ idx0 κ) c' c) false) _ _ = zcd (zcd (zcd (zcd (Nat.beq c'.1 c.1) (zh_cc (zf_v N σ idx0 κ) c' c) false) true _) _ false) _ false
            rw [hb]
            exact he (fun fl => F (true :: fl))
        | false =>
          refine ⟨false :: fl, by simp [hl], hf, fun F => ?_⟩
          rw [e1, e2, ze_g_some h1, ze_g_some h1, ze_g_some h2, ze_g_some h2]
          show zcd (zcd (Nat.beq c'.1 c.1) (zh_cc (zf_v N σ idx0 κ) c' c) false) _ _ = zcd (zcd (zcd (zcd (Nat.beq c'.1 c.1) (zh_cc (zf_v N σ idx0 κ) c' c) false) true _) _ false) _ false
          rw [hb]
          show zcd (zcd (zh_pm N σ g c' c) true (zh_sm g c' c)) (zq_cs (zf_v N σ idx0 κ) N σ g wg w t (Nat.succ n) (fun fl => F (false :: fl))) false = zcd (zcd (zcd (zh_pm N σ g c' c) true (zh_sm g c' c)) (zf_cs N σ g idx0 κ wg w t (Nat.succ n)) false) (F (false :: fl)) false
          rw [he]
          cases zcd (zh_pm N σ g c' c) true (zh_sm g c' c) <;> rfl
/-- values that are the same behind the call, if they were ahead of it -/
noncomputable def zq_sv (N2 : Nat) (v : EV) : Bool := zv_ v (fun a => zv_s a (fun _ => true) (fun i => Nat.ble (Nat.succ i) N2)) (fun _ => true) (fun _ => false) (fun _ => true)
noncomputable def zq_sq (N2 : Nat) (u v : EV) : Bool := zcd (zq_sv N2 u) (zh_eq u v) false
noncomputable def zq_sc (u v : EV) : Bool := zv_c u (fun _ => zh_eq u v)
noncomputable def zq_sk (N2 : Nat) (wg we : EW) (n : Nat) : Bool := ze_g wg n (fun c' => ze_g we n (fun c => zcd (Nat.beq c'.1 c.1) (zcd (zcd (Nat.ble 1000 c'.1) (Nat.ble c'.1 1299) false) (zh_all zq_sc c'.2 c.2) (zh_all (zq_sq N2) c'.2 c.2)) false))
theorem zq_id0 {N N2 M : Nat} {σ : List EV} {idx : List Nat} {κ : List EV} {u v : EV} (hs : zq_sv N2 u = true) (hu : ∀ m, u = eX m → m < 42) (h : zf_v0 N σ idx u v = true) : zf_r2 N N2 M σ idx κ u = v := by
  have hr : ∀ k, v = eR k → ∃ n, u = eR n ∧ idx[n]? = some k := by
    intro k e
    subst e
    obtain ⟨i, h1, h2⟩ := zf_p_ok idx 0 (show zf_p idx k 0 (fun n => zh_eq u (eR n)) = true from h)
    exact ⟨0 + i, zh_eq_ok h2, by rw [Nat.zero_add]; exact h1⟩
  have hv : (∀ k, v ≠ eR k) → zh_v N σ u v = true := by
    intro hn
    rcases v with a | ((k | a) | a)
    · exact h
    · exact absurd rfl (hn k)
    · exact h
    · exact h
  by_cases hR : ∃ k, v = eR k
  · obtain ⟨k, e⟩ := hR
    obtain ⟨n, e1, e2⟩ := hr k e
    subst e; subst e1
    show eR (idx.getD n 0) = eR k
    rw [List.getD_eq_getElem?_getD, e2]
    rfl
  · have hn : ∀ k, v ≠ eR k := fun k e => hR ⟨k, e⟩
    have h2 := hv hn
    rcases u with (n | i) | ((q | (n | i)) | k)
    · exact zh_eq_ok (show zh_eq (eC n) v = true from h2)
    · rcases ze_cond (show zcd (Nat.ble (Nat.succ i) N) (zh_eq (eU i) v) (ze_n σ (Nat.sub i N) (fun s => zh_eq s v)) = true from h2) with ⟨h3, h4⟩ | ⟨h3, h4⟩
      · have e := zh_eq_ok h4
        show zcd (Nat.ble (Nat.succ i) N) (eU i) _ = v
        rw [h3]
        exact e
      · obtain ⟨s, h5, h6⟩ := ze_n_spec _ _ _ h4
        have e := zh_eq_ok h6
        have hs2 : Nat.ble (Nat.succ i) N2 = true := hs
        show zcd (Nat.ble (Nat.succ i) N) (eU i) (zcd (Nat.ble (Nat.succ i) N2) (σ.getD (Nat.sub i N) (eC 0)) _) = v
        rw [h3, hs2]
        show σ.getD (Nat.sub i N) (eC 0) = v
        rw [List.getD_eq_getElem?_getD, h5]
        exact e
    · exact absurd (zh_eq_ok (show zh_eq (eR q) v = true from h2)).symm (hn q)
    · cases hs
    · cases hs
    · have e := zh_eq_ok (show zh_eq (eX k) v = true from h2)
      have hk := hu k rfl
      have hb : Nat.ble 42 k = false := by
        cases hb : Nat.ble 42 k with
        | false => rfl
        | true => have := ze_ble' hb; omega
      show zf_xk κ k = v
      unfold zf_xk
      rw [hb]
      exact e
theorem zq_id {N N2 M : Nat} {σ : List EV} {idx : List Nat} {κ : List EV} {u v : EV} (hs : zq_sv N2 u = true) (h : zf_v N σ idx κ u v = true) : zf_r2 N N2 M σ idx κ u = v := by
  rcases u with a | ((n | a) | m)
  · exact zq_id0 hs (fun m e => by cases e) h
  · exact zq_id0 hs (fun m e => by cases e) h
  · exact zq_id0 hs (fun m e => by cases e) h
  · rcases ze_cond (show zcd (Nat.ble 42 m) (ze_n κ (Nat.sub m 42) (fun a => zh_eq a v)) (zf_v0 N σ idx (.inr (.inr m)) v) = true from h) with ⟨h1, h2⟩ | ⟨h1, h2⟩
    · obtain ⟨a, e1, e2⟩ := ze_n_spec _ _ _ h2
      have e2 := zh_eq_ok e2
      subst e2
      have e1 : κ[m - 42]? = some a := e1
      show zf_xk κ m = a
      unfold zf_xk
      rw [h1]
      show κ.getD (m - 42) (eX m) = a
      rw [List.getD_eq_getElem?_getD, e1]
      rfl
    · exact zq_id0 hs (fun m9 e => by cases e; exact Nat.lt_of_not_le (fun q => by rw [ze_ble q] at h1; cases h1)) h2
theorem zq_l1 {N N2 M : Nat} {σ : List EV} {idx : List Nat} {κ : List EV} : ∀ (us vs xs : List EV), zh_all (zq_sq N2) us vs = true → zh_all (zf_v N σ idx κ) us xs = true → xs = vs.map (zf_r2 N N2 M σ idx κ) := by
  intro us
  induction us with
  | nil =>
    intro vs xs h1 h2
    cases vs with
    | cons v r => cases h1
    | nil =>
      cases xs with
      | cons x r => cases h2
      | nil => rfl
  | cons a t ih =>
    intro vs xs h1 h2
    cases vs with
    | nil => cases h1
    | cons v r =>
      cases xs with
      | nil => cases h2
      | cons x r2 =>
        obtain ⟨a1, a2⟩ := ze_condf (show zcd (zq_sq N2 a v) (zh_all (zq_sq N2) t r) false = true from h1)
        obtain ⟨b1, b2⟩ := ze_condf (show zcd (zf_v N σ idx κ a x) (zh_all (zf_v N σ idx κ) t r2) false = true from h2)
        obtain ⟨a3, a4⟩ := ze_condf (show zcd (zq_sv N2 a) (zh_eq a v) false = true from a1)
        have e := zh_eq_ok a4
        subst e
        rw [ih r r2 a2 b2, List.map_cons, zq_id a3 b1]
theorem zq_l2 {N N2 M : Nat} {σ : List EV} {idx : List Nat} {κ : List EV} : ∀ (us vs xs : List EV), zh_all zq_sc us vs = true → zh_all zh_eq us xs = true → xs = vs.map (zf_r2 N N2 M σ idx κ) := by
  intro us
  induction us with
  | nil =>
    intro vs xs h1 h2
    cases vs with
    | cons v r => cases h1
    | nil =>
      cases xs with
      | cons x r => cases h2
      | nil => rfl
  | cons a t ih =>
    intro vs xs h1 h2
    cases vs with
    | nil => cases h1
    | cons v r =>
      cases xs with
      | nil => cases h2
      | cons x r2 =>
        obtain ⟨a1, a2⟩ := ze_condf (show zcd (zq_sc a v) (zh_all zq_sc t r) false = true from h1)
        obtain ⟨b1, b2⟩ := ze_condf (show zcd (zh_eq a x) (zh_all zh_eq t r2) false = true from h2)
        have e2 := zh_eq_ok b1
        subst e2
        rcases a with (n | i) | ((q | (n | i)) | k)
        · have e := zh_eq_ok (show zh_eq (eC n) v = true from a1)
          subst e
          rw [ih r r2 a2 b2]
          rfl
        · cases a1
        · cases a1
        · cases a1
        · cases a1
        · cases a1
theorem zq_same {N N2 M : Nat} {σ : List EV} {idx : List Nat} {κ : List EV} {wg we : EW} {n : Nat} {c' c : EC} (h1 : ze_gw wg n = some c') (hc : c'.1 = c.1) (hcc : zh_cc (zf_v N σ idx κ) c' c = true) (h : zq_sk N2 wg we n = true) : ∃ ce, ze_gw we n = some ce ∧ c = (ce.1, ce.2.map (zf_r2 N N2 M σ idx κ)) := by
  obtain ⟨d, k1, h⟩ := ze_g_spec (show ze_g wg n _ = true from h)
  rw [h1] at k1
  have e := Option.some.inj k1
  subst e
  obtain ⟨ce, k2, h⟩ := ze_g_spec h
  obtain ⟨h3, h4⟩ := ze_condf h
  have e3 := ze_beq h3
  refine ⟨ce, k2, Prod.ext (hc.symm.trans e3) ?_⟩
  have hcc : zcd (zcd (Nat.ble 1000 c'.1) (Nat.ble c'.1 1299) false) (zh_all zh_eq c'.2 c.2) (zh_all (zf_v N σ idx κ) c'.2 c.2) = true := hcc
  rcases ze_cond h4 with ⟨h5, h6⟩ | ⟨h5, h6⟩
  · rw [h5] at hcc
    exact zq_l2 _ _ _ h6 hcc
  · rw [h5] at hcc
    exact zq_l1 _ _ _ h6 hcc
noncomputable def zq_ups (N N2 M : Nat) (σ : List EV) (idx0 : List Nat) (κ : List EV) (wg we : EW) (idx : List Nat) : List Bool → Nat → EW → (EW → Bool) → Bool := List.rec (motive := fun _ => List Bool → Nat → EW → (EW → Bool) → Bool) (fun _ _ w f => f w) (fun k _ ih fl n w f => List.rec (motive := fun _ => Bool) false (fun b fr _ => zcd (zcd b (zq_sk N2 wg we n) false) (ih fr (Nat.succ n) w f) (ze_g we n (fun c => zq_ml N N2 M σ idx0 κ c.2 (fun l => ih fr (Nat.succ n) (ze_ws w k (c.1, l)) f)))) fl) idx
theorem zq_ups_eq {N N2 M : Nat} {σ : List EV} {idx0 : List Nat} {κ : List EV} {wg we : EW} : ∀ (idx : List Nat) (fl : List Bool) (n : Nat) (w : EW) (f : EW → Bool), fl.length = idx.length → (∀ (i j a : Nat), idx[i]? = some a → idx[j]? = some a → i = j) → (∀ (i k : Nat), idx[i]? = some k → fl[i]? = some true → zq_sk N2 wg we (n + i) = true → ∃ ce, ze_gw we (n + i) = some ce ∧ ze_gw w k = some (ce.1, ce.2.map (zf_r2 N N2 M σ idx0 κ))) → zq_ups N N2 M σ idx0 κ wg we idx fl n w f = zf_up (zf_r2 N N2 M σ idx0 κ) we idx n w f := by
  intro idx
  induction idx with
  | nil => intro fl n w f _ _ _; rfl
  | cons k t ih =>
    intro fl n w f hl hnd hs
    cases fl with
    | nil => cases hl
    | cons b fr =>
      have hl2 : fr.length = t.length := Nat.succ.inj hl
      have hnd2 : ∀ (i j a : Nat), t[i]? = some a → t[j]? = some a → i = j := fun i j a h1 h2 => by have := hnd (i + 1) (j + 1) a h1 h2; omega
      have hs2 : ∀ (i k2 : Nat), t[i]? = some k2 → fr[i]? = some true → zq_sk N2 wg we (Nat.succ n + i) = true → ∃ ce, ze_gw we (Nat.succ n + i) = some ce ∧ ze_gw w k2 = some (ce.1, ce.2.map (zf_r2 N N2 M σ idx0 κ)) := by
        intro i k2 h1 h2 h3
        rw [show Nat.succ n + i = n + (i + 1) by omega] at h3 ⊢
        exact hs (i + 1) k2 h1 h2 h3
      have hset : ∀ c, zq_ups N N2 M σ idx0 κ wg we t fr (Nat.succ n) (ze_ws w k c) f = zf_up (zf_r2 N N2 M σ idx0 κ) we t (Nat.succ n) (ze_ws w k c) f := fun c => ih fr (Nat.succ n) _ f hl2 hnd2 (fun i k2 h1 h2 h3 => by
        obtain ⟨ce, q1, q2⟩ := hs2 i k2 h1 h2 h3
        refine ⟨ce, q1, ?_⟩
        rw [ze_ws_get, if_neg]
        · exact q2
        · intro q
          subst q
          have := hnd 0 (i + 1) k2 rfl h1
          omega)
      show zcd (zcd b (zq_sk N2 wg we n) false) (zq_ups N N2 M σ idx0 κ wg we t fr (Nat.succ n) w f) (ze_g we n (fun c => zq_ml N N2 M σ idx0 κ c.2 (fun l => zq_ups N N2 M σ idx0 κ wg we t fr (Nat.succ n) (ze_ws w k (c.1, l)) f))) = ze_g we n (fun c => zf_up (zf_r2 N N2 M σ idx0 κ) we t (Nat.succ n) (ze_ws w k (c.1, c.2.map (zf_r2 N N2 M σ idx0 κ))) f)
      cases hb : zcd b (zq_sk N2 wg we n) false with
      | false =>
        show ze_g we n (fun c => zq_ml N N2 M σ idx0 κ c.2 (fun l => zq_ups N N2 M σ idx0 κ wg we t fr (Nat.succ n) (ze_ws w k (c.1, l)) f)) = _
        simp only [zq_ml_eq, hset]
      | true =>
        obtain ⟨hb1, hb2⟩ := ze_condf hb
        subst hb1
        obtain ⟨ce, q1, q2⟩ := hs 0 k rfl rfl hb2
        have q1 : ze_gw we n = some ce := q1
        show zq_ups N N2 M σ idx0 κ wg we t fr (Nat.succ n) w f = ze_g we n (fun c => zf_up (zf_r2 N N2 M σ idx0 κ) we t (Nat.succ n) (ze_ws w k (c.1, c.2.map (zf_r2 N N2 M σ idx0 κ))) f)
        rw [ze_g_some q1, ze_ws_same q2]
        exact ih fr (Nat.succ n) w f hl2 hnd2 hs2
/-- all cells of the end are there -/
noncomputable def zq_wf (we : EW) (idx : List Nat) : Nat → Bool := List.rec (motive := fun _ => Nat → Bool) (fun _ => true) (fun _ _ ih n => zcd (ze_g we n (fun _ => true)) (ih (Nat.succ n)) false) idx
theorem zq_wf_ok {r : EV → EV} {we : EW} : ∀ (idx : List Nat) (n : Nat) (w : EW), ∃ w', ∀ f, zf_up r we idx n w f = zcd (zq_wf we idx n) (f w') false := by
  intro idx
  induction idx with
  | nil => intro n w; exact ⟨w, fun f => rfl⟩
  | cons k t ih =>
    intro n w
    have e2 : zq_wf we (k :: t) n = zcd (ze_g we n (fun _ => true)) (zq_wf we t (Nat.succ n)) false := rfl
    cases h : ze_gw we n with
    | none =>
      refine ⟨w, fun f => ?_⟩
      rw [e2, ze_g_none h]
      exact ze_g_none h _
    | some c =>
      obtain ⟨w', hw⟩ := ih (Nat.succ n) (ze_ws w k (c.1, c.2.map r))
      refine ⟨w', fun f => ?_⟩
      rw [e2, ze_g_some h]
      exact (ze_g_some h (fun c => zf_up r we t (Nat.succ n) (ze_ws w k (c.1, c.2.map r)) f)).trans (hw f)
/-- ends that can't be are left ahead of their cells -/
noncomputable def zq_fin2 (N N2 M : Nat) (σ : List EV) (idx : List Nat) (κ : List EV) (fl : List Bool) (wg w : EW) (g : EG) (k : ERt) (es : List ZN) : Bool := List.rec (motive := fun _ => Bool) true (fun e _ ih => zcd (zcd (Nat.beq e.2.2.2.1.1 (zq_len idx)) (zcd (zq_wf e.2.2.2.1 idx 0) (zq_ap g (zq_dr N2 e.2.2.2.2) (fun g1 => zf_nw σ (zq_dr N e.2.2.2.2) g1 (fun g' => zq_ups N N2 M σ idx κ wg e.2.2.2.1 idx fl 0 w (fun w' => zq_o N N2 M σ idx κ e.1 (fun r => k r w' g'))))) false) false) ih false) es
theorem zq_fin2_eq {N N2 M : Nat} {σ : List EV} {idx : List Nat} {κ : List EV} {fl : List Bool} {wg w : EW} {g : EG} {k : ERt} (hl : fl.length = idx.length) (hnd : ∀ (i j a : Nat), idx[i]? = some a → idx[j]? = some a → i = j) (hs : ∀ i k, idx[i]? = some k → fl[i]? = some true → ∃ c' c, ze_gw wg (0 + i) = some c' ∧ ze_gw w k = some c ∧ c'.1 = c.1 ∧ zh_cc (zf_v N σ idx κ) c' c = true) : ∀ (es : List ZN), zq_fin2 N N2 M σ idx κ fl wg w g k es = zq_fin N N2 M σ idx κ w g k es := by
  intro es
  induction es with
  | nil => rfl
  | cons e t ih =>
    show zcd (zcd (Nat.beq e.2.2.2.1.1 (zq_len idx)) (zcd (zq_wf e.2.2.2.1 idx 0) (zq_ap g (zq_dr N2 e.2.2.2.2) (fun g1 => zf_nw σ (zq_dr N e.2.2.2.2) g1 (fun g' => zq_ups N N2 M σ idx κ wg e.2.2.2.1 idx fl 0 w (fun w' => zq_o N N2 M σ idx κ e.1 (fun r => k r w' g'))))) false) false) (zq_fin2 N N2 M σ idx κ fl wg w g k t) false = zcd (zcd (Nat.beq e.2.2.2.1.1 (zq_len idx)) (zq_up N N2 M σ idx κ e.2.2.2.1 idx 0 w (fun w' => zq_ap g (zq_dr N2 e.2.2.2.2) (fun g1 => zf_nw σ (zq_dr N e.2.2.2.2) g1 (fun g' => zq_o N N2 M σ idx κ e.1 (fun r => k r w' g'))))) false) (zq_fin N N2 M σ idx κ w g k t) false
    obtain ⟨w', hw⟩ := zq_wf_ok (r := zf_r2 N N2 M σ idx κ) (we := e.2.2.2.1) idx 0 w
    have hu : ∀ f, zq_ups N N2 M σ idx κ wg e.2.2.2.1 idx fl 0 w f = zcd (zq_wf e.2.2.2.1 idx 0) (f w') false := by
      intro f
      rw [zq_ups_eq idx fl 0 w f hl hnd, hw f]
      intro i k2 h1 h2 h3
      obtain ⟨c', c, q1, q2, q3, q4⟩ := hs i k2 h1 h2
      obtain ⟨ce, r1, r2⟩ := zq_same (M := M) q1 q3 q4 h3
      exact ⟨ce, r1, by rw [q2, r2]⟩
    rw [ih, zq_up_eq, hw]
    simp only [hu]
    cases zq_wf e.2.2.2.1 idx 0 <;> rfl
noncomputable def zq_at2 (N : Nat) (idx pa : List Nat) (pl pk : List (Nat × Nat)) (av0 : List EV) (wg : EW) (g0 : EG) (es : List ZN) (av : List EV) (w : EW) (g : EG) (k : ERt) : Bool :=
  zcd (zf_nx idx) (ze_f (zq_len g) (fun M => ze_f (zq_len g0) (fun N2 => zcd (Nat.ble N M) (zf_rk w (pk.map (fun p => (idx.getD p.1 0, p.2))) [] (fun κ => zq_rl av pa (fun s0 => zq_rdi w idx pl (fun s1 => zq_ap s0 s1 (fun σ => zcd (Nat.beq N2 (Nat.add N (zq_len σ))) (zcd (zh_gi N σ g0 g) (zcd (zh_all (zf_v N σ idx κ) av0 av) (zcd (Nat.beq wg.1 (zq_len idx)) (zcd (zf_sh (zq_len idx) wg.2 0) (zq_cs (zq_v N σ idx κ) N σ g wg w idx 0 (fun fl => zq_fin2 N N2 M σ idx κ fl wg w g k es)) false) false) false) false) false))))) false))) false
theorem zq_at2_eq {N : Nat} {idx pa : List Nat} {pl pk : List (Nat × Nat)} {av0 : List EV} {wg : EW} {g0 : EG} {es : List ZN} {av : List EV} {w : EW} {g : EG} {k : ERt} : zq_at2 N idx pa pl pk av0 wg g0 es av w g k = zq_at1 N idx pa pl pk av0 wg g0 es av w g k := by
  unfold zq_at2 zq_at1
  simp only [ze_f_eq]
  refine zq_cg fun h0 => zq_cg fun _ => ?_
  have hnd := zf_nd_ok idx (by rw [← zf_nx_eq]; exact h0)
  refine congrArg (zf_rk w _ []) (funext fun κ => congrArg (zq_rl av pa) (funext fun s0 => congrArg (zq_rdi w idx pl) (funext fun s1 => congrArg (zq_ap s0 s1) (funext fun σ => zq_cg fun _ => zq_cg fun _ => zq_cg fun _ => ?_))))
  obtain ⟨fl, hl, hs, he⟩ := zq_cs_ok N σ g idx κ wg w idx 0
  rw [zq_v_eq hnd, he, zq_fin2_eq hl hnd hs]
  unfold zf_w
  rw [zq_len_eq idx]
  cases Nat.beq wg.1 idx.length <;> cases zf_sh idx.length wg.2 0 <;> cases zf_cs N σ g idx κ wg w idx 0 <;> rfl
/-- the numbers among the arguments, looked at first -/
noncomputable def zq_pv (u v : EV) : Bool := zv_ u (fun a => zv_s a (fun _ => zh_eq u v) (fun _ => true)) (fun _ => true) (fun a => zv_s a (fun _ => zh_eq u v) (fun _ => true)) (fun _ => true)
noncomputable def zq_pre (av0 av : List EV) : Bool := zh_all zq_pv av0 av
noncomputable def zf_cal (y0 N : Nat) (ps : List (Nat ⊕ (Nat × Nat))) (pa : List Nat) (pl pk : List (Nat × Nat)) (av0 : List EV) (wg : EW) (g0 : EG) (es : List ZN) : ECal := fun y av w g k => zcd (Nat.beq y y0) (zcd (zq_pre av0 av) (zq_ix av w ps 0 [] (fun idx => zq_at2 N idx pa pl pk av0 wg g0 es av w g k)) false) false
theorem zf_cal_imp {y0 N : Nat} {ps : List (Nat ⊕ (Nat × Nat))} {pa : List Nat} {pl pk : List (Nat × Nat)} {av0 : List EV} {wg : EW} {g0 : EG} {es : List ZN} {y : Nat} {av : List EV} {w : EW} {g : EG} {k : ERt} (h : zf_cal y0 N ps pa pl pk av0 wg g0 es y av w g k = true) : zf_cal0 y0 N ps pa pl pk av0 wg g0 es y av w g k = true := by
  obtain ⟨h1, h⟩ := ze_condf (show zcd (Nat.beq y y0) (zcd (zq_pre av0 av) (zq_ix av w ps 0 [] (fun idx => zq_at2 N idx pa pl pk av0 wg g0 es av w g k)) false) false = true from h)
  obtain ⟨-, h⟩ := ze_condf h
  simp only [zq_at2_eq, zq_at1_eq] at h
  rw [show zq_ix av w ps 0 [] (fun idx => zf_at1 N idx pa pl pk av0 wg g0 es av w g k) = zf_ix av w ps [] (fun idx => zf_at1 N idx pa pl pk av0 wg g0 es av w g k) from zq_ix_eq ps [] _] at h
  show zcd (Nat.beq y y0) (zf_ix av w ps [] (fun idx => zf_at1 N idx pa pl pk av0 wg g0 es av w g k)) false = true
  rw [h1]
  exact h
section ZFK2
variable {l : Launch} {dC : Nat → ClassId} {dI : Nat → Nat → Nat} {dA : Nat → ClassId} {sp : Nat → Nat} {xs : ZXs} {A : Nat → Prop}
theorem zf_cal_ok {y0 : Nat} {q : ZMt} (hq0 : q.2.2.2.2.2.1 = 0 ∧ q.2.2.2.2.2.2 = 0) {D N : Nat} {ps : List (Nat ⊕ (Nat × Nat))} {pa : List Nat} {pl pk : List (Nat × Nat)} {av0 : List EV} {wg : EW} {g0 : EG} {es : List ZN} (hN6 : 10 ≤ N) (hrr : ∀ e ∈ es, e.1 ≠ some (eX 1))
    (hloc : ∀ (sp : Nat → Nat) (A : Nat → Prop) (ρ : List Int32) (ws : va_W) (avs : List Value), g0.length ≤ ρ.length → ze_G g0 ρ → ze_Z (ze_x0 xs) ρ → ze_W dA sp ρ wg ws → ze_L sp ρ (ws.map (·.1)) av0 avs → Met l q.1 (.code q.1 q.2.1 q.2.2.1 q.2.2.2.1 :: zb_T) (ze_rm D q.2.2.2.2.2.1 q.2.2.2.2.2.2) (va_Pc avs (ze_Pc dC dI dA sp (ze_x0 xs) A ws)) (ze_Qc dC dI dA sp A (zy_ends g0.length es) (ρ.take g0.length) (ws.map (·.1))) q.2.2.2.2.2.1 q.2.2.2.2.2.2 A) :
    ze_Cal l dC dI dA sp xs A (zf_cal y0 N ps pa pl pk av0 wg g0 es) y0 D q.1 q.2.1 q.2.2.1 q.2.2.2.1 q.2.2.2.2.2.1 q.2.2.2.2.2.2 := by
  intro av w g k' h
  exact zf_cal0_ok hq0 hN6 hrr hloc av w g k' (zf_cal_imp h)
end ZFK2

/-! facts: what ops on some unknowns answer -/
abbrev ZFf : Type := Nat × (Nat ⊕ Nat) × (Nat ⊕ Nat) × Nat
def zF_ok (FA : List ZFf) (τ : List Int32) : Prop := ∀ f ∈ FA, ∃ x y, zv_at τ f.2.1 x ∧ zv_at τ f.2.2.1 y ∧ τ[f.2.2.2]? = some (zo_F f.1 x y)
theorem zv_at.mono {τ ρ : List Int32} {a : Nat ⊕ Nat} {x : Int32} (h : τ <+: ρ) (hx : zv_at τ a x) : zv_at ρ a x := by
  match a, hx with
  | .inl n, hx => exact hx
  | .inr i, hx => exact ze_pre h hx
theorem zv_at.det {ρ : List Int32} {a : Nat ⊕ Nat} {x y : Int32} (hx : zv_at ρ a x) (hy : zv_at ρ a y) : x = y := by
  match a, hx, hy with
  | .inl n, hx, hy => exact Eq.trans (show x = nI n from hx) (Eq.symm (show y = nI n from hy))
  | .inr i, hx, hy => exact Option.some.inj (Eq.trans (Eq.symm (show ρ[i]? = some x from hx)) (show ρ[i]? = some y from hy))
noncomputable def zs_q (a b : Nat ⊕ Nat) : Bool := zv_s a (fun n => zv_s b (fun m => Nat.beq n m) (fun _ => false)) (fun n => zv_s b (fun _ => false) (fun m => Nat.beq n m))
theorem zs_q_ok {a b : Nat ⊕ Nat} (h : zs_q a b = true) : a = b := by
  rcases a with n | n <;> rcases b with m | m
  · rw [ze_beq (show Nat.beq n m = true from h)]
  · cases h
  · cases h
  · rw [ze_beq (show Nat.beq n m = true from h)]
/-- what an op answers -/
noncomputable def zS_lk (y : Nat) (a b : Nat ⊕ Nat) (FA : List ZFf) (f : Nat → Bool) : Bool := List.rec (motive := fun _ => Bool) false (fun e _ ih => zcd (zcd (Nat.beq (Nat.add 400 e.1) y) (zcd (zs_q e.2.1 a) (zs_q e.2.2.1 b) false) false) (f e.2.2.2) ih) FA
noncomputable def zS_fa (FA : List ZFf) : ECal := fun y av w g k => zcd (Nat.ble 400 y) (zl_ av (fun a t => zl_ t (fun b t2 => zl_0 t2 (zv_i a (fun x => zv_i b (fun z => zS_lk y x z FA (fun r => k (some (eU r)) w g))))))) false
theorem zS_lk_ok {y : Nat} {a b : Nat ⊕ Nat} {f : Nat → Bool} : ∀ (FA : List ZFf), zS_lk y a b FA f = true → ∃ e ∈ FA, 400 + e.1 = y ∧ e.2.1 = a ∧ e.2.2.1 = b ∧ f e.2.2.2 = true := by
  intro FA
  induction FA with
  | nil => intro h; cases h
  | cons e t ih =>
    intro h
    rcases ze_cond (show zcd (zcd (Nat.beq (Nat.add 400 e.1) y) (zcd (zs_q e.2.1 a) (zs_q e.2.2.1 b) false) false) (f e.2.2.2) (zS_lk y a b t f) = true from h) with ⟨h1, h2⟩ | ⟨-, h2⟩
    · obtain ⟨h3, h4⟩ := ze_condf h1
      obtain ⟨h5, h6⟩ := ze_condf h4
      exact ⟨e, List.mem_cons_self, ze_beq h3, zs_q_ok h5, zs_q_ok h6, h2⟩
    · obtain ⟨e2, q1, q2⟩ := ih h2
      exact ⟨e2, List.mem_cons_of_mem _ q1, q2⟩
theorem zS_fa_op {FA : List ZFf} {xs : ZXs} (h : zF_ok FA xs.2) : ze_Op xs (zS_fa FA) := by
  intro op a b w g k' h1 ρ x y hG hZ ha hb
  obtain ⟨-, h1⟩ := ze_condf (show zcd (Nat.ble 400 (Nat.add 400 op)) (zS_lk (Nat.add 400 op) a b FA (fun r => k' (some (eU r)) w g)) false = true from h1)
  obtain ⟨e, he, e1, e2, e3, h2⟩ := zS_lk_ok FA h1
  obtain ⟨x2, y2, q1, q2, q3⟩ := h e he
  have e1 : 400 + e.1 = 400 + op := e1
  have e4 : e.1 = op := by omega
  rw [e2] at q1
  rw [e3] at q2
  rw [e4] at q3
  have ex := (q1.mono hZ.2).det ha
  have ey := (q2.mono hZ.2).det hb
  subst ex; subst ey
  exact ⟨.inr e.2.2.2, h2, ze_pre hZ.2 q3⟩
theorem zS_fa_y {FA : List ZFf} {y : Nat} {av : List EV} {w : EW} {g : EG} {k : ERt} (h : zS_fa FA y av w g k = true) : 400 ≤ y := ze_ble' (ze_condf h).1
/-- a fact's numbers, by the caller's names -/
noncomputable def zg_rn (N : Nat) (σ : List EV) (a : Nat ⊕ Nat) (f : EV → Bool) : Bool := zv_s a (fun n => f (eC n)) (fun i => zcd (Nat.ble (Nat.succ i) N) (f (eU i)) (ze_n σ (Nat.sub i N) f))
noncomputable def zg_im (op : Nat) (A B R : EV) (FA : List ZFf) : Bool := List.rec (motive := fun _ => Bool) false (fun e _ ih => zcd (zcd (Nat.beq e.1 op) (zcd (zh_eq A (.inl e.2.1)) (zcd (zh_eq B (.inl e.2.2.1)) (zh_eq R (eU e.2.2.2)) false) false) false) true ih) FA
noncomputable def zg_fs (N : Nat) (σ : List EV) (FA : List ZFf) (FAs : List ZFf) : Bool := List.rec (motive := fun _ => Bool) true (fun e _ ih => zcd (zg_rn N σ e.2.1 (fun A => zg_rn N σ e.2.2.1 (fun B => zg_rn N σ (.inr e.2.2.2) (fun R => zg_im e.1 A B R FA)))) ih false) FAs
noncomputable def zg_pg (g : EG) (pg : List EV) : Bool := List.rec (motive := fun _ => Bool) true (fun v _ ih => zcd (zv_i v (fun a => zv_s a (fun _ => false) (fun i => ze_n g i (fun _ => true)))) ih false) pg
section ZGF
variable {sp : Nat → Nat} {ρ : List Int32} {ad : List Nat} {σ : List EV} {vals : List Int32} {N : Nat}
theorem zg_rn_ok (hσ : zh_σ sp ρ ad σ vals) (hN : N ≤ ρ.length) {a : Nat ⊕ Nat} {f : EV → Bool} (h : zg_rn N σ a f = true) : ∃ v, f v = true ∧ ∀ x, ze_V sp ρ ad v (.int x) → zv_at (ρ.take N ++ vals) a x := by
  rcases a with n | i
  · exact ⟨eC n, h, fun x hx => Value.int.inj hx⟩
  · rcases ze_cond (show zcd (Nat.ble (Nat.succ i) N) (f (eU i)) (ze_n σ (Nat.sub i N) f) = true from h) with ⟨h1, h2⟩ | ⟨h1, h2⟩
    · have h1 : i < N := ze_ble' h1
      refine ⟨eU i, h2, fun x hx => ?_⟩
      obtain ⟨z, z1, z2⟩ := hx
      cases z2
      show (ρ.take N ++ vals)[i]? = some x
      rw [zh_lo hN h1]
      exact z1
    · have h1 : ¬ i < N := fun q => by rw [ze_ble q] at h1; cases h1
      obtain ⟨v, q1, q2⟩ := ze_n_spec _ _ _ h2
      refine ⟨v, q2, fun x hx => ?_⟩
      obtain ⟨z, z1, z2⟩ := hσ.2 (i - N) v q1
      have e := ze_V_int z2 hx
      cases e
      show (ρ.take N ++ vals)[i]? = some x
      rw [zh_hi hN (by omega)]
      exact z1
theorem zg_im_ok {op : Nat} {A B R : EV} : ∀ (FA : List ZFf), zg_im op A B R FA = true → ∃ e ∈ FA, e.1 = op ∧ A = .inl e.2.1 ∧ B = .inl e.2.2.1 ∧ R = eU e.2.2.2 := by
  intro FA
  induction FA with
  | nil => intro h; cases h
  | cons e t ih =>
    intro h
    rcases ze_cond (show zcd (zcd (Nat.beq e.1 op) (zcd (zh_eq A (.inl e.2.1)) (zcd (zh_eq B (.inl e.2.2.1)) (zh_eq R (eU e.2.2.2)) false) false) false) true (zg_im op A B R t) = true from h) with ⟨h1, -⟩ | ⟨-, h2⟩
    · obtain ⟨h3, h4⟩ := ze_condf h1
      obtain ⟨h5, h6⟩ := ze_condf h4
      obtain ⟨h7, h8⟩ := ze_condf h6
      exact ⟨e, List.mem_cons_self, ze_beq h3, zh_eq_ok h5, zh_eq_ok h7, zh_eq_ok h8⟩
    · obtain ⟨e2, q1, q2⟩ := ih h2
      exact ⟨e2, List.mem_cons_of_mem _ q1, q2⟩
theorem zg_Vat {τ : List Int32} (hτ : τ <+: ρ) {a : Nat ⊕ Nat} {x : Int32} (h : zv_at τ a x) : ze_V sp ρ ad (.inl a) (.int x) := zv_Vat (h.mono hτ)
theorem zg_fs_ok {FA : List ZFf} {τ : List Int32} (hσ : zh_σ sp ρ ad σ vals) (hN : N ≤ ρ.length) (hτ : τ <+: ρ) (hF : zF_ok FA τ) : ∀ (FAs : List ZFf), zg_fs N σ FA FAs = true → zF_ok FAs (ρ.take N ++ vals) := by
  intro FAs
  induction FAs with
  | nil => intro _ f hf; cases hf
  | cons e t ih =>
    intro h f hf
    obtain ⟨h1, h2⟩ := ze_condf (show zcd (zg_rn N σ e.2.1 (fun A => zg_rn N σ e.2.2.1 (fun B => zg_rn N σ (.inr e.2.2.2) (fun R => zg_im e.1 A B R FA)))) (zg_fs N σ FA t) false = true from h)
    rcases List.mem_cons.mp hf with rfl | hf
    · obtain ⟨A, h1, a2⟩ := zg_rn_ok hσ hN h1
      obtain ⟨B, h1, b2⟩ := zg_rn_ok hσ hN h1
      obtain ⟨R, h1, r2⟩ := zg_rn_ok hσ hN h1
      obtain ⟨e2, he2, q1, q2, q3, q4⟩ := zg_im_ok FA h1
      obtain ⟨x, y, k1, k2, k3⟩ := hF e2 he2
      subst q2; subst q3; subst q4
      refine ⟨x, y, a2 x (zg_Vat hτ k1), b2 y (zg_Vat hτ k2), ?_⟩
      have k4 := r2 (zo_F e2.1 x y) ⟨_, ze_pre hτ k3, rfl⟩
      rw [q1] at k4
      exact k4
    · exact ih h2 f hf
theorem zg_pg_ok {g : EG} (hG : ze_G g ρ) : ∀ (pg : List EV), zg_pg g pg = true → ∃ vg, zh_σ sp ρ ad pg vg := by
  intro pg
  induction pg with
  | nil => intro _; exact ⟨[], rfl, fun t v h => by cases h⟩
  | cons v t ih =>
    intro h
    obtain ⟨h1, h2⟩ := ze_condf (show zcd (zv_i v (fun a => zv_s a (fun _ => false) (fun i => ze_n g i (fun _ => true)))) (zg_pg g t) false = true from h)
    obtain ⟨vg, q1, q2⟩ := ih h2
    rcases v with (n | i) | v
    · cases h1
    · obtain ⟨p, e1, -⟩ := ze_n_spec _ _ _ (show ze_n g i (fun _ => true) = true from h1)
      have hi : i < ρ.length := by rw [← hG.1]; exact (List.getElem?_eq_some_iff.mp e1).1
      refine ⟨ρ[i] :: vg, by simp [q1], fun j v hj => ?_⟩
      cases j with
      | zero => cases (Option.some.inj hj); exact ⟨ρ[i], rfl, ρ[i], List.getElem?_eq_getElem hi, rfl⟩
      | succ j => exact q2 j v hj
    · cases h1
theorem zg_cat {s1 s2 : List EV} {v1 v2 : List Int32} (h1 : zh_σ sp ρ ad s1 v1) (h2 : zh_σ sp ρ ad s2 v2) : zh_σ sp ρ ad (s1 ++ s2) (v1 ++ v2) := by
  refine ⟨by simp [h1.1, h2.1], fun t v h => ?_⟩
  by_cases ht : t < s1.length
  · rw [List.getElem?_append_left ht] at h
    rw [List.getElem?_append_left (by rw [← h1.1]; exact ht)]
    exact h1.2 t v h
  · rw [List.getElem?_append_right (by omega)] at h
    rw [List.getElem?_append_right (by rw [← h1.1]; omega), ← h1.1]
    exact h2.2 _ v h
end ZGF
/-! no end answers the value that stands for none -/
noncomputable def zy_x1 (r : Option EV) : Bool := Option.rec (motive := fun _ => Bool) true (fun v => Sum.rec (motive := fun _ => Bool) (fun _ => true) (fun q => Sum.rec (motive := fun _ => Bool) (fun _ => true) (fun n => zcd (Nat.beq n 1) false true) q) v) r
theorem zy_x1_ok {r : Option EV} (h : zy_x1 r = true) : r ≠ some (eX 1) := by
  intro e
  subst e
  cases h
noncomputable def zy_nx (es : List (Option EV × List Nat × List (Nat × Nat) × EW × EG)) : Bool := List.rec (motive := fun _ => Bool) true (fun e _ ih => zcd (zy_x1 e.1) ih false) es
theorem zy_nx_ok : ∀ {es : List (Option EV × List Nat × List (Nat × Nat) × EW × EG)}, zy_nx es = true → ∀ e ∈ es, e.1 ≠ some (eX 1) := by
  intro es
  induction es with
  | nil => intro _ e he; cases he
  | cons a t ih =>
    intro h e he
    obtain ⟨h1, h2⟩ := ze_condf (show zcd (zy_x1 a.1) (zy_nx t) false = true from h)
    rcases List.mem_cons.mp he with rfl | he
    · exact zy_x1_ok h1
    · exact ih h2 e he

/-! THE ENGINE: a state seen as a more general one. Unknowns below N stay; those from N on stand for the values σ, read at places of the world. -/
/-- an int of the engine against a long that is that int -/
noncomputable def zh_lq (s v : EV) : Bool := zv_l v (fun a => ze_li ze_lr ze_l32 a (fun t => zh_eq s t) false)
noncomputable def zh_v (N : Nat) (σ : List EV) (u v : EV) : Bool := zv_ u (fun a => zv_s a (fun _ => zh_eq u v) (fun i => zcd (Nat.ble (Nat.succ i) N) (zh_eq u v) (ze_n σ (Nat.sub i N) (fun s => zh_eq s v)))) (fun _ => zh_eq u v)
  (fun a => zv_s a (fun _ => zh_eq u v) (fun i => zcd (Nat.ble (Nat.succ i) N) (zh_eq u v) (ze_n σ (Nat.sub i N) (fun s => zh_lq s v)))) (fun _ => zh_eq u v)
/-- the values that the new unknowns stand for -/
noncomputable def zh_σ (sp : Nat → Nat) (ρ : List Int32) (ad : List Nat) (σ : List EV) (vals : List Int32) : Prop := σ.length = vals.length ∧ ∀ (t : Nat) (v : EV), σ[t]? = some v → ∃ x, vals[t]? = some x ∧ ze_V sp ρ ad v (.int x)
section ZGV
variable {sp : Nat → Nat} {ρ : List Int32} {ad : List Nat} {σ : List EV} {vals : List Int32} {N : Nat}
theorem zh_lo (hN : N ≤ ρ.length) {i : Nat} (hi : i < N) : (ρ.take N ++ vals)[i]? = ρ[i]? := by
  rw [List.getElem?_append_left (by rw [List.length_take]; omega), List.getElem?_take_of_lt hi]
theorem zh_hi (hN : N ≤ ρ.length) {i : Nat} (hi : N ≤ i) : (ρ.take N ++ vals)[i]? = vals[i - N]? := by
  rw [List.getElem?_append_right (by rw [List.length_take]; omega), List.length_take, Nat.min_eq_left hN]
theorem zh_v_ok {u v : EV} {x : Value} (h : zh_v N σ u v = true) (hσ : zh_σ sp ρ ad σ vals) (hN : N ≤ ρ.length) (hv : ze_V sp ρ ad v x) : ze_V sp (ρ.take N ++ vals) ad u x := by
  rcases u with (n | i) | ((q | (n | i)) | k)
  · have e := zh_eq_ok (show zh_eq (.inl (.inl n)) v = true from h)
    subst e
    exact hv
  · rcases ze_cond (show zcd (Nat.ble (Nat.succ i) N) (zh_eq (eU i) v) (ze_n σ (Nat.sub i N) (fun s => zh_eq s v)) = true from h) with ⟨h1, h2⟩ | ⟨h1, h2⟩
    · have e := zh_eq_ok h2
      subst e
      obtain ⟨z, a, b⟩ := id hv
      exact ⟨z, by rw [zh_lo hN (Nat.le_of_ble_eq_true h1)]; exact a, b⟩
    · obtain ⟨s, h3, h4⟩ := ze_n_spec _ _ _ h2
      have e := zh_eq_ok h4
      subst e
      obtain ⟨y, h5, h6⟩ := hσ.2 _ _ h3
      have h7 : ¬ (i + 1 ≤ N) := fun q => by rw [Nat.ble_eq_true_of_le q] at h1; cases h1
      exact ⟨y, by rw [zh_hi hN (by omega)]; exact h5, ze_V_int hv h6⟩
  · have e := zh_eq_ok (show zh_eq (.inr (.inl (.inl q))) v = true from h)
    subst e
    exact hv
  · have e := zh_eq_ok (show zh_eq (.inr (.inl (.inr (.inl n)))) v = true from h)
    subst e
    exact hv
  · rcases ze_cond (show zcd (Nat.ble (Nat.succ i) N) (zh_eq (eLU i) v) (ze_n σ (Nat.sub i N) (fun s => zh_lq s v)) = true from h) with ⟨h1, h2⟩ | ⟨h1, h2⟩
    · have e := zh_eq_ok h2
      subst e
      obtain ⟨z, a, b⟩ := id hv
      exact ⟨z, by rw [zh_lo hN (Nat.le_of_ble_eq_true h1)]; exact a, b⟩
    · obtain ⟨s, h3, h4⟩ := ze_n_spec _ _ _ h2
      have h7 : ¬ (i + 1 ≤ N) := fun q => by rw [Nat.ble_eq_true_of_le q] at h1; cases h1
      rcases v with a | ((k | a) | a)
      · cases h4
      · cases h4
      · rcases zi_li zi_lr (show ze_li ze_lr ze_l32 a (fun t => zh_eq s t) false = true from h4) hv with ⟨x9, vx, ex, hvx, hf⟩ | hd
        · have e := zh_eq_ok hf
          subst e
          obtain ⟨y, h5, h6⟩ := hσ.2 _ _ h3
          have e9 : Value.int x9 = .int y := ze_V_int hvx h6
          cases e9
          exact ⟨x9, by rw [zh_hi hN (by omega)]; exact h5, ex⟩
        · cases hd
      · cases h4
  · have e := zh_eq_ok (show zh_eq (.inr (.inr k)) v = true from h)
    subst e
    match k, hv with
    | 0, hv => exact hv
    | k + 2, hv => exact hv
theorem zh_v_x1 {u : EV} (h : zh_v N σ u (eX 1) = true) (hσ : zh_σ sp ρ ad σ vals) : u = eX 1 := by
  rcases u with (n | i) | ((q | (n | i)) | k)
  · exact zh_eq_ok (show zh_eq _ _ = true from h)
  · rcases ze_cond (show zcd (Nat.ble (Nat.succ i) N) (zh_eq (eU i) (eX 1)) (ze_n σ (Nat.sub i N) (fun s => zh_eq s (eX 1))) = true from h) with ⟨h1, h2⟩ | ⟨h1, h2⟩
    · exact zh_eq_ok h2
    · obtain ⟨s, h3, h4⟩ := ze_n_spec _ _ _ h2
      have e := zh_eq_ok h4
      subst e
      obtain ⟨y, h5, h6⟩ := hσ.2 _ _ h3
      exact absurd h6 (fun q => q)
  · exact zh_eq_ok (show zh_eq _ _ = true from h)
  · exact zh_eq_ok (show zh_eq _ _ = true from h)
  · rcases ze_cond (show zcd (Nat.ble (Nat.succ i) N) (zh_eq (eLU i) (eX 1)) (ze_n σ (Nat.sub i N) (fun s => zh_lq s (eX 1))) = true from h) with ⟨h1, h2⟩ | ⟨h1, h2⟩
    · exact zh_eq_ok h2
    · obtain ⟨s, h3, h4⟩ := ze_n_spec _ _ _ h2
      cases h4
  · exact zh_eq_ok (show zh_eq _ _ = true from h)
end ZGV
/-- one by one -/
noncomputable def zh_all {α : Type} (f : α → α → Bool) (us : List α) : List α → Bool := List.rec (motive := fun _ => List α → Bool) (fun vs => List.rec (motive := fun _ => Bool) true (fun _ _ _ => false) vs) (fun u _ ih vs => List.rec (motive := fun _ => Bool) false (fun v r _ => zcd (f u v) (ih r) false) vs) us
theorem zh_all_ok {α : Type} {f : α → α → Bool} : ∀ (us vs : List α), zh_all f us vs = true → us.length = vs.length ∧ ∀ (i : Nat) (u : α), us[i]? = some u → ∃ v, vs[i]? = some v ∧ f u v = true := by
  intro us
  induction us with
  | nil =>
    intro vs h
    cases vs with
    | nil => exact ⟨rfl, fun i u q => by cases q⟩
    | cons v r => cases h
  | cons a t ih =>
    intro vs h
    cases vs with
    | nil => cases h
    | cons v r =>
      obtain ⟨h1, h2⟩ := ze_condf (show zcd (f a v) (zh_all f t r) false = true from h)
      obtain ⟨h3, h4⟩ := ih r h2
      refine ⟨by simp [h3], fun i u q => ?_⟩
      cases i with
      | zero => cases (Option.some.inj q); exact ⟨v, rfl, h1⟩
      | succ i => exact h4 i u q
/-- two cells, their values by f; those known by their interval are the same -/
noncomputable def zh_cc (f : EV → EV → Bool) (c' c : EC) : Bool := zcd (zcd (Nat.ble 1000 c'.1) (Nat.ble c'.1 1299) false) (zh_all zh_eq c'.2 c.2) (zh_all f c'.2 c.2)
theorem zh_same : ∀ (us vs : List EV), zh_all zh_eq us vs = true → us = vs := by
  intro us
  induction us with
  | nil =>
    intro vs h
    cases vs with
    | nil => rfl
    | cons v r => cases h
  | cons a t ih =>
    intro vs h
    cases vs with
    | nil => cases h
    | cons v r =>
      obtain ⟨h1, h2⟩ := ze_condf (show zcd (zh_eq a v) (zh_all zh_eq t r) false = true from h)
      rw [zh_eq_ok h1, ih r h2]
theorem zh_cc_ok {f : EV → EV → Bool} {c' c : EC} {dA : Nat → ClassId} {sp : Nat → Nat} {ρ : List Int32} {ad : List Nat} {e : va_E} (h1 : c'.1 = c.1) (h : zh_cc f c' c = true) (hC : ze_C dA sp ρ ad c e) : (c' = c ∧ ze_Cs dA c e) ∨ (zh_all f c'.2 c.2 = true ∧ (c.1 < 1000 ∨ 1300 ≤ c.1)) := by
  rcases ze_cond h with ⟨h2, h3⟩ | ⟨h2, h3⟩
  · obtain ⟨h2, h4⟩ := ze_condf h2
    have h2 := ze_ble' h2
    have h4 := ze_ble' h4
    refine Or.inl ⟨Prod.ext h1 (zh_same _ _ h3), ?_⟩
    rcases hC with ⟨a, q⟩ | ⟨a, a2, q⟩ | ⟨a, a2, q⟩ | ⟨a, a2, q⟩ | hs | ⟨a, a2, q⟩
    · omega
    · omega
    · omega
    · omega
    · exact hs
    · omega
  · refine Or.inr ⟨h3, ?_⟩
    rcases Nat.lt_or_ge c.1 1000 with q | q
    · exact Or.inl q
    · rcases Nat.lt_or_ge c.1 1300 with q2 | q2
      · rw [h1, ze_ble q, ze_ble (show c.1 ≤ 1299 by omega)] at h2
        cases h2
      · exact Or.inr q2
/-- an array, seen by its interval -/
noncomputable def zh_sv (g : EG) (lo hi : Nat) (l : List EV) : Bool := List.rec (motive := fun _ => Bool) true (fun v _ ih => zcd (zo_wi g v lo hi) ih false) l
noncomputable def zh_sl (g : EG) (lo hi : Nat) (l : List EV) : Bool := List.rec (motive := fun _ => Bool) true (fun v _ ih => zcd (zv_l v (fun u => ze_li ze_lr ze_l32 u (fun t => zo_wi g t lo hi) false)) ih false) l
noncomputable def zh_sm (g : EG) (c' c : EC) : Bool := zcd (Nat.beq c'.1 (Nat.add 1000 c.1)) (zcd (Nat.ble 100 c.1) (zo_s3 c'.2 (fun n lo hi => zcd (Nat.beq c.2.length n) (zcd (Nat.ble c.1 149) (zh_sv g lo hi c.2) (zcd (Nat.beq c.1 150) (zh_sl g lo hi c.2) false)) false)) false) (zcd (Nat.ble 1303 c.1) (zcd (Nat.beq c'.1 1100) (zo_s3 c'.2 (fun n lo hi => zcd (Nat.beq c.1 1303) (zcd (Nat.beq n 80) (zcd (Nat.ble lo 2147483648) (Nat.ble 2147483903 hi) false) false) (zcd (Nat.beq c.1 1304) (zcd (Nat.beq n 60) (zcd (Nat.ble lo 2147483393) (Nat.ble 2147483903 hi) false) false) (zcd (Nat.beq n 29) (zcd (Nat.beq lo 0) (Nat.ble 4294967295 hi) false) false)))) false) false)
theorem zh_sv_ok {g : EG} {lo hi : Nat} : ∀ (l : List EV), zh_sv g lo hi l = true → ∀ (j : Nat) (v : EV), l[j]? = some v → zo_wi g v lo hi = true := by
  intro l
  induction l with
  | nil => intro _ j v h; cases h
  | cons a t ih =>
    intro h j v hj
    obtain ⟨h1, h2⟩ := ze_condf (show zcd (zo_wi g a lo hi) (zh_sv g lo hi t) false = true from h)
    cases j with
    | zero => cases (Option.some.inj hj); exact h1
    | succ j => exact ih h2 j v hj
theorem zh_sl_ok {g : EG} {lo hi : Nat} : ∀ (l : List EV), zh_sl g lo hi l = true → ∀ (j : Nat) (v : EV), l[j]? = some v → zv_l v (fun u => ze_li ze_lr ze_l32 u (fun t => zo_wi g t lo hi) false) = true := by
  intro l
  induction l with
  | nil => intro _ j v h; cases h
  | cons a t ih =>
    intro h j v hj
    obtain ⟨h1, h2⟩ := ze_condf (show zcd (zv_l a (fun u => ze_li ze_lr ze_l32 u (fun t => zo_wi g t lo hi) false)) (zh_sl g lo hi t) false = true from h)
    cases j with
    | zero => cases (Option.some.inj hj); exact h1
    | succ j => exact ih h2 j v hj
theorem zh_sm_ok {g : EG} {ρ : List Int32} {c' c : EC} {dA : Nat → ClassId} {sp : Nat → Nat} {ad : List Nat} {e : va_E} (h : zh_sm g c' c = true) (hG : ze_G g ρ) (hC : ze_C dA sp ρ ad c e) : ze_Cs dA c' e := by
  rcases ze_cond h with ⟨h1, h⟩ | ⟨-, h⟩
  case inr =>
    obtain ⟨h1, h⟩ := ze_condf h
    obtain ⟨h2, h⟩ := ze_condf h
    obtain ⟨n, lo, hi, e2, h⟩ := zo_s3_spec h
    have h1 := ze_ble' h1
    have h2 : c'.1 = 1100 := ze_beq h2
    obtain ⟨-, hk4, zs, f, hI, he, hP⟩ := hC.pred (by omega)
    have fin : n = zP_n c.1 → (∀ j, j < n → lo ≤ ze_b (f j) ∧ ze_b (f j) ≤ hi) → ze_Cs dA c' e := fun q1 q2 => Or.inl ⟨by omega, by omega, n, lo, hi, f, e2, by rw [he, h2, q1], q2⟩
    rcases ze_cond h with ⟨h3, h⟩ | ⟨h3, h⟩
    · have h3 : c.1 = 1303 := ze_beq h3
      obtain ⟨h4, h⟩ := ze_condf h
      obtain ⟨h5, h6⟩ := ze_condf h
      have h4 : n = 80 := ze_beq h4
      have h5 := ze_ble' h5
      have h6 := ze_ble' h6
      obtain ⟨zp, zv, PP, -, -, -, -, hA⟩ := zP_t hP h3
      refine fin (by rw [h3, h4]; rfl) (fun j hj => ?_)
      have := hA j (by omega)
      omega
    · have h3 := ze_nbeq h3
      rcases ze_cond h with ⟨h7, h⟩ | ⟨h7, h⟩
      · have h7 : c.1 = 1304 := ze_beq h7
        obtain ⟨h4, h⟩ := ze_condf h
        obtain ⟨h5, h6⟩ := ze_condf h
        have h4 : n = 60 := ze_beq h4
        have h5 := ze_ble' h5
        have h6 := ze_ble' h6
        obtain ⟨zp, zv, PP, -, -, -, -, hA⟩ := zP_a hP h7
        refine fin (by rw [h7, h4]; rfl) (fun j hj => ?_)
        have := hA j (by omega)
        omega
      · have h7 := ze_nbeq h7
        obtain ⟨h4, h⟩ := ze_condf h
        obtain ⟨h5, h6⟩ := ze_condf h
        have h4 : n = 29 := ze_beq h4
        have h5 := ze_beq h5
        have h6 := ze_ble' h6
        refine fin ?_ (fun j hj => ?_)
        · rw [h4]
          unfold zP_n
          rw [if_neg (by omega), if_neg (by omega), if_pos (by omega)]
        · have := ze_b_top (f j)
          omega
  obtain ⟨h2, h⟩ := ze_condf h
  obtain ⟨n, lo, hi, e2, h⟩ := zo_s3_spec h
  obtain ⟨h3, h⟩ := ze_condf h
  have h1 : c'.1 = 1000 + c.1 := ze_beq h1
  have h2 := ze_ble' h2
  have h3 := ze_beq h3
  have e6 : c'.1 - 1000 = c.1 := by omega
  rcases ze_cond h with ⟨h4, h5⟩ | ⟨-, h⟩
  · have h4 := ze_ble' h4
    obtain ⟨f, ef, hf⟩ := hC.ints h2 (by omega)
    refine Or.inl ⟨by omega, by omega, n, lo, hi, f, e2, by rw [e6, ef, h3], fun j hj => ?_⟩
    have hl : j < c.2.length := by omega
    exact zo_wi_spec (zh_sv_ok _ h5 j _ (List.getElem?_eq_getElem hl)) hG (hf j _ (List.getElem?_eq_getElem hl))
  · obtain ⟨h4, h5⟩ := ze_condf h
    have h4 := ze_beq h4
    obtain ⟨f, ef, hf⟩ := hC.longs (by omega) (by omega)
    refine Or.inr ⟨by omega, by omega, n, lo, hi, f, e2, by rw [e6, ef, h3], fun j hj => ?_⟩
    have hl : j < c.2.length := by omega
    have hv := hf j _ (List.getElem?_eq_getElem hl)
    have h6 := zh_sl_ok _ h5 j _ (List.getElem?_eq_getElem hl)
    generalize c.2[j] = v at hv h6
    rcases v with a | ((k | a) | a)
    · cases h6
    · cases h6
    · rcases zi_li zi_lr (show ze_li ze_lr ze_l32 a (fun t => zo_wi g t lo hi) false = true from h6) hv with ⟨x9, vx, ex, hvx, hf9⟩ | hd
      · exact ⟨x9, Value.long.inj ex, zo_wi_spec hf9 hG hvx⟩
      · cases hd
    · cases h6
/-- a value of the more general state, in the other one -/
noncomputable def zh_rz (N : Nat) (σ : List EV) (u : EV) (f : EV → Bool) : Bool := zv_i u (fun a => zv_s a (fun n => f (eC n)) (fun i => zcd (Nat.ble (Nat.succ i) N) (f (eU i)) (ze_n σ (Nat.sub i N) f)))
noncomputable def zh_z0 (g : EG) (s : EV) : Bool := zcd (Nat.ble 2147483648 (zo_iv g s).1) (Nat.ble (zo_iv g s).2 2147483648) false
noncomputable def zh_le (g : EG) (s v : EV) : Bool := zcd (Nat.ble 2147483648 (zo_iv g s).1) (Nat.ble (zo_iv g s).2 (zo_iv g v).1) false
/-- two numbers, d the second's -/
noncomputable def zh_dl (g : EG) (s t : EV) (f : Nat → Nat → Bool) : Bool := zcd (zcd (Nat.beq (zo_iv g s).1 (zo_iv g s).2) (Nat.beq (zo_iv g t).1 (zo_iv g t).2) false) (zcd (zcd (Nat.ble (zo_iv g t).1 (zo_iv g s).1) (Nat.ble (zo_iv g s).1 2147483728) false) (f (zo_iv g s).1 (zo_iv g t).1) false) false
noncomputable def zh_n1 (a b c d : Nat) : Bool := zcd (Nat.ble a 1000) (zcd (Nat.ble b 1000) (zcd (Nat.ble c 1000) (Nat.ble d 1000) false) false) false
noncomputable def zh_pP (N : Nat) (σ : List EV) (g : EG) (l' l : List EV) : Bool := zo_m8 l' (fun h' d' c' p' q' t' b' r' => zo_m8 l (fun h d c p q t b r =>
  zcd (zcd (zh_n1 d d' q q') (zh_n1 r r' 0 0) false) (zcd (zcd (Nat.beq d' 255) true (Nat.beq d' d)) (zcd (zh_rz N σ h' (fun s => zh_eq s h)) (zcd (zh_rz N σ c' (fun s => zh_eq s c)) (zcd (zh_rz N σ p' (fun s => zh_eq s p)) (zcd (zh_rz N σ b' (fun s => zh_eq s b))
    (zh_rz N σ t' (fun s => zcd (zcd (zh_eq s t) (zcd (Nat.ble q' q) (Nat.ble r' r) false) false) true (zh_dl g s t (fun x y => zcd (Nat.ble (Nat.add q' y) (Nat.add q x)) (Nat.ble (Nat.add r' y) (Nat.add r x)) false)))) false) false) false) false) false) false))
noncomputable def zh_pn (N : Nat) (σ : List EV) (c' c : EC) : Bool := zcd (Nat.beq c'.1 1305) (zcd (Nat.beq c.1 1305) (zo_m4 c'.2 (fun o' k' v' d' x' y' z' => zo_m4 c.2 (fun o k v d x y z => zcd (zcd (zcd (Nat.beq o' o) (Nat.beq k' k) false) (zcd (Nat.ble o 1000) (Nat.ble k 1000) false) false) (zv_c v' (fun m' => zv_c v (fun m => zcd (zcd (Nat.ble m 1000) (Nat.ble d 1000) false) (zcd (zcd (Nat.beq m' (Nat.add m d)) (Nat.beq d' 0) false) (zcd (zh_rz N σ x' (fun s => zh_eq s x)) (zcd (zh_rz N σ y' (fun s => zh_eq s y)) (zh_rz N σ z' (fun s => zh_eq s z)) false) false) false) false))) false))) false)
  (zcd (Nat.beq c'.1 1306) (zcd (Nat.beq c.1 1306) (zo_m3 c'.2 (fun v' k' t' => zo_m3 c.2 (fun v k t => zv_c v' (fun a' => zv_c v (fun a => zcd (zcd (zcd (Nat.ble a 1000) (Nat.ble k' 1000) false) (zcd (Nat.ble k 1000) (Nat.ble t 1000) false) false) (zcd (Nat.ble t' t) (zcd (Nat.ble (Nat.succ a') a) true (zcd (Nat.beq a' a) (Nat.ble k k') false)) false) false))))) false) false)
noncomputable def zh_pm (N : Nat) (σ : List EV) (g : EG) (c' c : EC) : Bool :=
  zcd (Nat.beq c'.1 1300) (zo_m3 c'.2 (fun v' k' t' => zcd (zcd (Nat.beq k' 0) (Nat.beq t' 0) false)
      (zcd (Nat.beq c.1 1300) (zo_m3 c.2 (fun v _ _ => zh_rz N σ v' (fun s => zcd (zh_eq s v) true (zh_le g s v))))
        (zcd (Nat.beq c.1 1301) (zo_m8 c.2 (fun _ d cv _ _ _ _ _ => zh_rz N σ v' (fun s => zcd (zh_z0 g s) true (zcd (Nat.beq d 255) false (zcd (Nat.ble d 1000) (zh_eq s cv) false)))))
          (zcd (Nat.beq c.1 100) (zcd (Nat.beq c.2.length 80) (zh_rz N σ v' (fun s => zh_z0 g s)) false) false))) false))
    (zcd (Nat.beq c'.1 1301) (zcd (Nat.beq c.1 1301) (zh_pP N σ g c'.2 c.2) false)
      (zcd (Nat.beq c'.1 1302) (zcd (Nat.beq c.1 1302) (zh_all (fun w' w => zh_rz N σ w' (fun s => zcd (zh_eq s w) true (zcd (Nat.ble 2147483650 (zo_iv g w).1) true (Nat.ble (zo_iv g s).2 2147483649)))) c'.2 c.2)
        (zcd (Nat.beq c.1 100) (zcd (Nat.beq c.2.length 12) (zcd (zh_sv g 2147483648 2147483652 c.2) (zh_all (fun w' _ => zh_rz N σ w' (fun _ => true)) c'.2 c.2) false) false) false)) (zh_pn N σ c' c)))
section ZPM
variable {sp : Nat → Nat} {ρ : List Int32} {ad ad' : List Nat} {σ : List EV} {vals : List Int32} {N : Nat} {g : EG} {dA : Nat → ClassId}
theorem zh_rz_ok {u : EV} {f : EV → Bool} (h : zh_rz N σ u f = true) (hσ : zh_σ sp ρ ad σ vals) (hN : N ≤ ρ.length) : ∃ s x, f s = true ∧ ze_V sp ρ ad s (.int x) ∧ ze_V sp (ρ.take N ++ vals) ad' u (.int x) := by
  rcases u with (n | i) | ((q | q) | q)
  · exact ⟨eC n, nI n, h, rfl, rfl⟩
  · rcases ze_cond (show zcd (Nat.ble (Nat.succ i) N) (f (eU i)) (ze_n σ (Nat.sub i N) f) = true from h) with ⟨h1, h2⟩ | ⟨h1, h2⟩
    · have h1 : i < N := ze_ble' h1
      have hl : i < ρ.length := by omega
      exact ⟨eU i, ρ[i], h2, ⟨_, List.getElem?_eq_getElem hl, rfl⟩, ⟨_, by rw [zh_lo hN h1]; exact List.getElem?_eq_getElem hl, rfl⟩⟩
    · obtain ⟨s, h3, h4⟩ := ze_n_spec _ _ _ h2
      have h7 := ze_nble h1
      obtain ⟨x, h5, h6⟩ := hσ.2 _ _ h3
      exact ⟨s, x, h4, h6, ⟨x, by rw [zh_hi hN (by omega)]; exact h5, rfl⟩⟩
  · cases h
  · cases h
  · cases h
theorem zh_sameI {s v : EV} {x y : Int32} (h : zh_eq s v = true) (h1 : ze_V sp ρ ad s (.int x)) (h2 : ze_V sp ρ ad v (.int y)) : x = y := by
  have e := zh_eq_ok h
  subst e
  exact Value.int.inj (ze_V_int h1 h2)
theorem zh_rz_eq {u v : EV} {y : Int32} (h : zh_rz N σ u (fun s => zh_eq s v) = true) (hσ : zh_σ sp ρ ad σ vals) (hN : N ≤ ρ.length) (hv : ze_V sp ρ ad v (.int y)) : ze_V sp (ρ.take N ++ vals) ad' u (.int y) := by
  obtain ⟨s, x, h1, h2, h3⟩ := zh_rz_ok (ad' := ad') h hσ hN
  have e := zh_sameI h1 h2 hv
  subst e
  exact h3
theorem zh_dl_ok {s t : EV} {f : Nat → Nat → Bool} {x y : Int32} (h : zh_dl g s t f = true) (hG : ze_G g ρ) (hs : ze_V sp ρ ad s (.int x)) (ht : ze_V sp ρ ad t (.int y)) : f (ze_b x) (ze_b y) = true ∧ ze_b y ≤ ze_b x ∧ ze_b x ≤ 2147483728 := by
  obtain ⟨h1, h2⟩ := ze_condf h
  obtain ⟨h3, h4⟩ := ze_condf h1
  obtain ⟨h5, h6⟩ := ze_condf h2
  obtain ⟨h7, h8⟩ := ze_condf h5
  have a1 := zi_iv hG hs
  have a2 := zi_iv hG ht
  have h3 := ze_beq h3
  have h4 := ze_beq h4
  have e1 : (zo_iv g s).1 = ze_b x := by omega
  have e2 : (zo_iv g t).1 = ze_b y := by omega
  rw [e1, e2] at h6
  have h7 := ze_ble' h7
  have h8 := ze_ble' h8
  exact ⟨h6, by omega, by omega⟩
theorem zh_mkM {f : Nat → Int32} {n V : Nat} {v : EV} {x : Int32} {t9 : Nat} (hn : n = 80) (hv : ze_V sp ρ ad v (.int x)) (hb : ze_b x = 2147483648 + V) (hq : zq_h f V = some t9) : ze_Cp dA sp ρ ad (1300, [v, eC 0, eC 0]) (.inl (dA 100, n, .inl f)) :=
  ⟨(by show 1300 ≤ 1300; decide), (by show 1300 < 1400; decide), [x, nI 0, nI 0], f, ze_I.push hv (ze_I.push rfl (ze_I.push rfl ze_I.nil)), by rw [hn]; rfl, Or.inl ⟨rfl, x, nI 0, nI 0, V, 0, 0, rfl, hb, ze_bC (by omega), ze_bC (by omega), ⟨t9, hq⟩, rfl⟩⟩
theorem zh_z0_ok {s : EV} {x : Int32} (h : zh_z0 g s = true) (hG : ze_G g ρ) (hs : ze_V sp ρ ad s (.int x)) : ze_b x = 2147483648 + 0 := by
  obtain ⟨h1, h2⟩ := ze_condf h
  have h1 := ze_ble' h1
  have h2 := ze_ble' h2
  have a1 := zi_iv hG hs
  omega
theorem zh_pn_ok {c' c : EC} {e : va_E} (h : zh_pn N σ c' c = true) (hσ : zh_σ sp ρ ad σ vals) (hN : N ≤ ρ.length) (hC : ze_C dA sp ρ ad c e) : ze_Cp dA sp (ρ.take N ++ vals) ad' c' e := by
  rcases c' with ⟨kd, l'⟩
  rcases ze_cond h with ⟨k1, h⟩ | ⟨-, h⟩
  · have k1 : kd = 1305 := ze_beq k1
    obtain ⟨k2, h⟩ := ze_condf h
    have k2 : c.1 = 1305 := ze_beq k2
    obtain ⟨o', kx', v', d', x', y', z', e1, h3⟩ := zo_m4_spec h
    obtain ⟨o, kx, v, d, xv, yv, tv, e2, h4⟩ := zo_m4_spec h3
    obtain ⟨c1, h5⟩ := ze_condf h4
    obtain ⟨c1, c2⟩ := ze_condf c1
    obtain ⟨c1, c3⟩ := ze_condf c1
    obtain ⟨c2, c4⟩ := ze_condf c2
    have c1 : o' = o := ze_beq c1
    have c3 : kx' = kx := ze_beq c3
    have c2 := ze_ble' c2
    have c4 := ze_ble' c4
    obtain ⟨m', e3, h6⟩ := zv_c_spec h5
    obtain ⟨m, e4, h7⟩ := zv_c_spec h6
    obtain ⟨c5, h8⟩ := ze_condf h7
    obtain ⟨c5, c6⟩ := ze_condf c5
    obtain ⟨c7, h10⟩ := ze_condf h8
    obtain ⟨c7, c8⟩ := ze_condf c7
    obtain ⟨j1, h10⟩ := ze_condf h10
    obtain ⟨j2, j3⟩ := ze_condf h10
    have c5 := ze_ble' c5
    have c6 := ze_ble' c6
    have c7 : m' = m + d := ze_beq c7
    have c8 : d' = 0 := ze_beq c8
    obtain ⟨-, -, zs, f, hI, he, hP⟩ := hC.pred (by omega)
    obtain ⟨zo, zj, zc, zd, zx, zy, zt, OO, JJ, CC, DD, XX, YY, TT, ez, b1, b2, b3, b4, b5, b6, b7, hq, hT⟩ := zP_c hP k2
    have e1 : l' = _ := e1
    subst ez k1 e1 e3 e4 c1 c3 c7 c8
    rw [e2] at hI
    obtain ⟨i1, hI2⟩ := hI.cons
    obtain ⟨i2, hI3⟩ := hI2.cons
    obtain ⟨i3, hI4⟩ := hI3.cons
    obtain ⟨i4, hI5⟩ := hI4.cons
    obtain ⟨i5, hI6⟩ := hI5.cons
    obtain ⟨i6, hI7⟩ := hI6.cons
    obtain ⟨i7, -⟩ := hI7.cons
    have eO : OO = o' := ze_bn (ze_VC i1) (by omega) b1
    have eJ : JJ = kx' := ze_bn (ze_VC i2) (by omega) b2
    have eC9 : CC = m := ze_bn (ze_VC i3) (by omega) b3
    have eD : DD = d := ze_bn (ze_VC i4) (by omega) b4
    subst eO eJ eC9 eD
    exact ⟨(by show 1300 ≤ 1305; decide), (by show 1305 < 1400; decide), [nI OO, nI JJ, nI (CC + DD), nI 0, zx, zy, zt], f, ze_I.push rfl (ze_I.push rfl (ze_I.push rfl (ze_I.push rfl (ze_I.push (zh_rz_eq j1 hσ hN i5) (ze_I.push (zh_rz_eq j2 hσ hN i6) (ze_I.push (zh_rz_eq j3 hσ hN i7) ze_I.nil)))))), by rw [he, k2], Or.inr (Or.inr (Or.inr ⟨(by show 1303 ≤ 1305; decide), Or.inr (Or.inr (Or.inl ⟨rfl, nI OO, nI JJ, nI (CC + DD), nI 0, zx, zy, zt, OO, JJ, CC + DD, 0, XX, YY, TT, rfl, ze_bC (by omega), ze_bC (by omega), ze_bC (by omega), ze_bC (by omega), b5, b6, b7, hq, hT⟩))⟩))⟩
  · obtain ⟨k1, h⟩ := ze_condf h
    have k1 : kd = 1306 := ze_beq k1
    obtain ⟨k2, h⟩ := ze_condf h
    have k2 : c.1 = 1306 := ze_beq k2
    obtain ⟨v', kx', t', e1, h3⟩ := zo_m3_spec h
    obtain ⟨v, kx, t, e2, h4⟩ := zo_m3_spec h3
    obtain ⟨m', e3, h6⟩ := zv_c_spec h4
    obtain ⟨m, e4, h7⟩ := zv_c_spec h6
    obtain ⟨c5, h8⟩ := ze_condf h7
    obtain ⟨c5, c6⟩ := ze_condf c5
    obtain ⟨c5, c7⟩ := ze_condf c5
    obtain ⟨c6, c8⟩ := ze_condf c6
    obtain ⟨c9, h9⟩ := ze_condf h8
    have c5 := ze_ble' c5
    have c6 := ze_ble' c6
    have c7 := ze_ble' c7
    have c8 := ze_ble' c8
    have c9 := ze_ble' c9
    have hle : m' < m ∨ (m' = m ∧ kx ≤ kx') := by
      rcases ze_cond h9 with ⟨q, -⟩ | ⟨-, q⟩
      · exact Or.inl (ze_ble' q)
      · obtain ⟨q1, q2⟩ := ze_condf q
        exact Or.inr ⟨ze_beq q1, ze_ble' q2⟩
    obtain ⟨-, -, zs, f, hI, he, hP⟩ := hC.pred (by omega)
    obtain ⟨zv, zk, zt, VV, KK, TT, ez, b1, b2, b3, hq⟩ := zP_l hP k2
    have e1 : l' = _ := e1
    subst ez k1 e1 e3 e4
    rw [e2] at hI
    obtain ⟨i1, hI2⟩ := hI.cons
    obtain ⟨i2, hI3⟩ := hI2.cons
    obtain ⟨i3, -⟩ := hI3.cons
    have eV : VV = m := ze_bn (ze_VC i1) (by omega) b1
    have eK : KK = kx := ze_bn (ze_VC i2) (by omega) b2
    have eT : TT = t := ze_bn (ze_VC i3) (by omega) b3
    subst eV eK eT
    have hm := zq_l_mono (f := f) hle 5
    exact ⟨(by show 1300 ≤ 1306; decide), (by show 1306 < 1400; decide), [nI m', nI kx', nI t'], f, ze_I.push rfl (ze_I.push rfl (ze_I.push rfl ze_I.nil)), by rw [he, k2], Or.inr (Or.inr (Or.inr ⟨(by show 1303 ≤ 1306; decide), Or.inr (Or.inr (Or.inr ⟨rfl, nI m', nI kx', nI t', m', kx', t', rfl, ze_bC (by omega), ze_bC (by omega), ze_bC (by omega), by omega⟩))⟩))⟩
theorem zh_pm_ok {c' c : EC} {e : va_E} (h : zh_pm N σ g c' c = true) (hσ : zh_σ sp ρ ad σ vals) (hN : N ≤ ρ.length) (hG : ze_G g ρ) (hC : ze_C dA sp ρ ad c e) : ze_Cp dA sp (ρ.take N ++ vals) ad' c' e := by
  rcases c' with ⟨kd, l'⟩
  rcases ze_cond h with ⟨k1, h⟩ | ⟨-, h⟩
  · have k1 : kd = 1300 := ze_beq k1
    subst k1
    obtain ⟨v', k', t', e1, h⟩ := zo_m3_spec h
    have e1 : l' = [v', eC k', eC t'] := e1
    subst e1
    obtain ⟨k2, h⟩ := ze_condf h
    obtain ⟨k2, k3⟩ := ze_condf k2
    have k2 : k' = 0 := ze_beq k2
    have k3 : t' = 0 := ze_beq k3
    subst k2; subst k3
    rcases ze_cond h with ⟨k4, h⟩ | ⟨-, h⟩
    · have k4 : c.1 = 1300 := ze_beq k4
      obtain ⟨v, k, t, e2, h⟩ := zo_m3_spec h
      obtain ⟨s, x, h1, h2, h3⟩ := zh_rz_ok (ad' := ad') h hσ hN
      obtain ⟨-, -, zs, f, hI, he, hP⟩ := hC.pred (by omega)
      subst he
      rcases hP with ⟨-, hP⟩ | ⟨q9, -⟩ | ⟨q9, -⟩ | ⟨q9, -⟩
      · obtain ⟨zv, zk, zt, VV, KK, TT, ez, b1, b2, b3, ⟨t9, hV⟩, hKT⟩ := hP
        subst ez
        rw [e2] at hI
        obtain ⟨i1, -⟩ := hI.cons
        have en : zP_n c.1 = 80 := by rw [k4]; rfl
        rcases ze_cond h1 with ⟨h4, -⟩ | ⟨-, h4⟩
        · have ex := zh_sameI h4 h2 i1
          subst ex
          exact zh_mkM en h3 b1 hV
        · obtain ⟨h5, h6⟩ := ze_condf h4
          have h5 := ze_ble' h5
          have h6 := ze_ble' h6
          have a1 := zi_iv hG h2
          have a2 := zi_iv hG i1
          obtain ⟨t8, ht8⟩ := zq_h_pre VV t9 hV (ze_b x - 2147483648) (by omega)
          exact zh_mkM en h3 (by omega) ht8
      · omega
      · omega
      · omega
    · rcases ze_cond h with ⟨k4, h⟩ | ⟨-, h⟩
      · have k4 : c.1 = 1301 := ze_beq k4
        obtain ⟨hv, d, cv, pv, o, tv, bv, r9, e2, h⟩ := zo_m8_spec h
        obtain ⟨s, x, h1, h2, h3⟩ := zh_rz_ok (ad' := ad') h hσ hN
        obtain ⟨-, -, zs, f, hI, he, hP⟩ := hC.pred (by omega)
        subst he
        have en : zP_n c.1 = 80 := by rw [k4]; rfl
        rcases ze_cond h1 with ⟨h4, -⟩ | ⟨-, h4⟩
        · exact zh_mkM en h3 (zh_z0_ok h4 hG h2) (t9 := 0) rfl
        · rcases ze_cond h4 with ⟨-, h5⟩ | ⟨h5, h6⟩
          · cases h5
          · obtain ⟨h7, h8⟩ := ze_condf h6
            have h7 := ze_ble' h7
            have h5 := ze_nbeq h5
            rcases hP with ⟨q9, -⟩ | ⟨-, hP⟩ | (⟨q9, -⟩ | ⟨q9, -⟩)
            · omega
            · obtain ⟨zh, zd, zc, zp, zo, zt, zb, zr, HH, DD, CC, PP, QQ, TT, BB, RR, ez, b1, b2, b3, b4, b5, b6, b7, b8, hD, s1, s2, s3⟩ := hP
              subst ez
              rw [e2] at hI
              obtain ⟨i1, hI⟩ := hI.cons
              obtain ⟨i2, hI⟩ := hI.cons
              obtain ⟨i3, -⟩ := hI.cons
              have eD : DD = d := ze_bn (ze_VC i2) (by omega) b2
              have ex := zh_sameI h8 h2 i3
              subst ex
              rcases hD with hD | hD
              · omega
              · exact zh_mkM en h3 b3 hD
            · omega
            · omega
      · obtain ⟨k4, h⟩ := ze_condf h
        obtain ⟨k5, h⟩ := ze_condf h
        have k4 : c.1 = 100 := ze_beq k4
        have k5 : c.2.length = 80 := ze_beq k5
        obtain ⟨s, x, h1, h2, h3⟩ := zh_rz_ok (ad' := ad') h hσ hN
        obtain ⟨f, ef, hf⟩ := hC.ints (by omega) (by omega)
        subst ef
        rw [k4]
        exact zh_mkM k5 h3 (zh_z0_ok h1 hG h2) (t9 := 0) rfl
  · rcases ze_cond h with ⟨k1, h⟩ | ⟨-, h⟩
    · have k1 : kd = 1301 := ze_beq k1
      subst k1
      obtain ⟨k4, h⟩ := ze_condf h
      have k4 : c.1 = 1301 := ze_beq k4
      obtain ⟨hv', d', cv', pv', o', tv', bv', r9', e1, h8⟩ := zo_m8_spec h
      have e1 : l' = _ := e1
      subst e1
      obtain ⟨hv, d, cv, pv, o, tv, bv, r9, e2, h9⟩ := zo_m8_spec h8
      obtain ⟨c1, w1⟩ := ze_condf h9
      obtain ⟨c2, w2⟩ := ze_condf w1
      obtain ⟨c3, w3⟩ := ze_condf w2
      obtain ⟨c4, w4⟩ := ze_condf w3
      obtain ⟨c5, w5⟩ := ze_condf w4
      obtain ⟨c6, w6⟩ := ze_condf w5
      obtain ⟨-, -, zs, f, hI, he, hP⟩ := hC.pred (by omega)
      subst he
      rcases hP with ⟨q9, -⟩ | ⟨-, hP⟩ | (⟨q9, -⟩ | ⟨q9, -⟩)
      · omega
      · obtain ⟨zh, zd, zc, zp, zo, zt, zb, zr, HH, DD, CC, PP, QQ, TT, BB, RR, ez, b1, b2, b3, b4, b5, b6, b7, b8, hD, s1, s2, s3⟩ := hP
        subst ez
        rw [e2] at hI
        obtain ⟨i1, hI⟩ := hI.cons
        obtain ⟨i2, hI⟩ := hI.cons
        obtain ⟨i3, hI⟩ := hI.cons
        obtain ⟨i4, hI⟩ := hI.cons
        obtain ⟨i5, hI⟩ := hI.cons
        obtain ⟨i6, hI⟩ := hI.cons
        obtain ⟨i7, hI⟩ := hI.cons
        obtain ⟨i8, -⟩ := hI.cons
        obtain ⟨n1, n2⟩ := ze_condf c1
        obtain ⟨n3, n1⟩ := ze_condf n1
        obtain ⟨n4, n1⟩ := ze_condf n1
        obtain ⟨n5, n6⟩ := ze_condf n1
        obtain ⟨n7, n2⟩ := ze_condf n2
        obtain ⟨n8, -⟩ := ze_condf n2
        have n3 := ze_ble' n3
        have n4 := ze_ble' n4
        have n5 := ze_ble' n5
        have n6 := ze_ble' n6
        have n7 := ze_ble' n7
        have n8 := ze_ble' n8
        have eD : DD = d := ze_bn (ze_VC i2) (by omega) b2
        have eQ : QQ = o := ze_bn (ze_VC i5) (by omega) b5
        have eR : RR = r9 := ze_bn (ze_VC i8) (by omega) b8
        subst eD; subst eQ; subst eR
        have hD' : d' = 255 ∨ zq_h f CC = some (HH + d') := by
          rcases ze_cond c2 with ⟨q, -⟩ | ⟨-, q⟩
          · exact Or.inl (ze_beq q)
          · have q := ze_beq q
            subst q
            exact hD
        obtain ⟨s, x, j1, j2, j3⟩ := zh_rz_ok (ad' := ad') w6 hσ hN
        have fin : ∀ T', ze_b x = 2147483648 + T' → CC + PP + o' ≤ T' → BB + r9' ≤ T' → T' ≤ 80 → ze_Cp dA sp (ρ.take N ++ vals) ad' (1301, [hv', eC d', cv', pv', eC o', tv', bv', eC r9']) (.inl (dA 100, zP_n c.1, .inl f)) := fun T' w1 w2 w3 w4 =>
          ⟨(by show 1300 ≤ 1301; decide), (by show 1301 < 1400; decide), [zh, nI d', zc, zp, nI o', x, zb, nI r9'], f, ze_I.push (zh_rz_eq c3 hσ hN i1) (ze_I.push rfl (ze_I.push (zh_rz_eq c4 hσ hN i3) (ze_I.push (zh_rz_eq c5 hσ hN i4) (ze_I.push rfl (ze_I.push j3 (ze_I.push (zh_rz_eq c6 hσ hN i7) (ze_I.push rfl ze_I.nil))))))), by rw [k4], Or.inr (Or.inl ⟨rfl, zh, nI d', zc, zp, nI o', x, zb, nI r9', HH, d', CC, PP, o', T', BB, r9', rfl, b1, ze_bC (by omega), b3, b4, ze_bC (by omega), w1, b7, ze_bC (by omega), hD', w2, w3, w4⟩)⟩
        rcases ze_cond j1 with ⟨j1, -⟩ | ⟨-, j1⟩
        · obtain ⟨j4, j5⟩ := ze_condf j1
          obtain ⟨j5, j6⟩ := ze_condf j5
          have j5 := ze_ble' j5
          have j6 := ze_ble' j6
          have ex := zh_sameI j4 j2 i6
          subst ex
          exact fin TT b6 (by omega) (by omega) s3
        · obtain ⟨j4, j5, j6⟩ := zh_dl_ok j1 hG j2 i6
          obtain ⟨j7, j8⟩ := ze_condf j4
          have j7 : o' + ze_b zt ≤ QQ + ze_b x := ze_ble' j7
          have j8 : r9' + ze_b zt ≤ RR + ze_b x := ze_ble' j8
          exact fin (ze_b x - 2147483648) (by omega) (by omega) (by omega) (by omega)
      · omega
      · omega
    · rcases ze_cond h with ⟨k1, h⟩ | ⟨-, h⟩
      case inr => exact zh_pn_ok h hσ hN hC
      have k1 : kd = 1302 := ze_beq k1
      subst k1
      have mk : ∀ (f : Nat → Int32) (n : Nat) (l : List EV) (F : EV → EV → Bool), n = 12 → l.length = 12 → zh_all F l' l = true → (∀ j w' w, F w' w = true → l[j]? = some w → ∃ x, ze_V sp (ρ.take N ++ vals) ad' w' (.int x) ∧ 2147483648 ≤ ze_b (f j) ∧ ze_b (f j) ≤ 2147483657 ∧ (2147483650 ≤ ze_b x → ze_b (f j) ≤ 2147483652)) → ze_Cp dA sp (ρ.take N ++ vals) ad' (1302, l') (.inl (dA 100, n, .inl f)) := by
        intro f n l F hn hl hz hF
        obtain ⟨z1, z2⟩ := zh_all_ok _ _ hz
        have hc : ∀ j, ∃ x : Int32, ∀ w', l'[j]? = some w' → ze_V sp (ρ.take N ++ vals) ad' w' (.int x) ∧ 2147483648 ≤ ze_b (f j) ∧ ze_b (f j) ≤ 2147483657 ∧ (2147483650 ≤ ze_b x → ze_b (f j) ≤ 2147483652) := by
          intro j
          cases hj : l'[j]? with
          | none => exact ⟨0, fun w' q => by cases q⟩
          | some w' =>
            obtain ⟨w, y1, y2⟩ := z2 j w' hj
            obtain ⟨x, y3⟩ := hF j w' w y2 y1
            exact ⟨x, fun w9 q => by cases q; exact y3⟩
        have hc2 := Classical.axiomOfChoice hc
        obtain ⟨X, hX⟩ := hc2
        refine ⟨(by show 1300 ≤ 1302; decide), (by show 1302 < 1400; decide), (List.range 12).map X, f, ⟨by simp [z1, hl], fun j v hj => ?_⟩, by rw [hn]; rfl, Or.inr (Or.inr (Or.inl ⟨rfl, by simp, fun j w hj => ?_⟩))⟩
        · have hjl : j < 12 := by rw [← hl, ← z1]; exact (List.getElem?_eq_some_iff.mp hj).1
          refine ⟨X j, ?_, (hX j v hj).1⟩
          rw [List.getElem?_map, List.getElem?_range hjl]
          rfl
        · rw [List.getElem?_map] at hj
          have hjl : j < 12 := by
            rcases Nat.lt_or_ge j 12 with q | q
            · exact q
            · rw [List.getElem?_eq_none (by simpa using q)] at hj
              cases hj
          rw [List.getElem?_range hjl] at hj
          cases hj
          have hl9 : j < l'.length := by rw [z1, hl]; exact hjl
          exact (hX j _ (List.getElem?_eq_getElem hl9)).2
      rcases ze_cond h with ⟨k4, h⟩ | ⟨-, h⟩
      · have k4 : c.1 = 1302 := ze_beq k4
        obtain ⟨-, -, zs, f, hI, he, hP⟩ := hC.pred (by omega)
        subst he
        rcases hP with ⟨q9, -⟩ | ⟨q9, -⟩ | ⟨-, hP⟩ | ⟨q9, -⟩
        · omega
        · omega
        · refine mk f _ c.2 _ (by rw [k4]; rfl) (by rw [hI.1]; exact hP.1) h (fun j w' w hF hj => ?_)
          obtain ⟨s, x, h1, h2, h3⟩ := zh_rz_ok (ad' := ad') hF hσ hN
          obtain ⟨y, y1, y2⟩ := hI.2 j w hj
          obtain ⟨b1, b2, b3⟩ := hP.2 j y y1
          refine ⟨x, h3, b1, b2, fun q => ?_⟩
          rcases ze_cond h1 with ⟨h4, -⟩ | ⟨-, h4⟩
          · have ex := zh_sameI h4 h2 y2
            subst ex
            exact b3 q
          · rcases ze_cond h4 with ⟨h4, -⟩ | ⟨-, h4⟩
            · have h4 := ze_ble' h4
              have a1 := zi_iv hG y2
              exact b3 (by omega)
            · have h4 := ze_ble' h4
              have a1 := zi_iv hG h2
              omega
        · omega
      · obtain ⟨k4, h⟩ := ze_condf h
        obtain ⟨k5, h⟩ := ze_condf h
        obtain ⟨k6, h⟩ := ze_condf h
        have k4 : c.1 = 100 := ze_beq k4
        have k5 : c.2.length = 12 := ze_beq k5
        obtain ⟨f, ef, hf⟩ := hC.ints (by omega) (by omega)
        subst ef
        rw [k4]
        refine mk f _ c.2 _ k5 k5 h (fun j w' w hF hj => ?_)
        obtain ⟨s, x, h1, h2, h3⟩ := zh_rz_ok (ad' := ad') hF hσ hN
        have hb := zo_wi_spec (zh_sv_ok _ k6 j w hj) hG (hf j w hj)
        exact ⟨x, h3, hb.1, by omega, fun _ => hb.2⟩
end ZPM
noncomputable def zh_c (N : Nat) (σ : List EV) (g : EG) (c' c : EC) : Bool := zcd (zcd (Nat.beq c'.1 c.1) (zh_cc (zh_v N σ) c' c) (zh_sm g c' c)) true (zh_pm N σ g c' c)
noncomputable def zh_w (N : Nat) (σ : List EV) (g : EG) (w' w : EW) : Bool := zcd (Nat.beq w'.1 w.1) (zh_all (zh_all (zh_c N σ g)) w'.2 w.2) false
theorem zh_w_get {N : Nat} {σ : List EV} {g : EG} {w' w : EW} (h : zh_w N σ g w' w = true) : w'.1 = w.1 ∧ ∀ (k : Nat) (c' : EC), ze_gw w' k = some c' → ∃ c, ze_gw w k = some c ∧ ((c'.1 = c.1 ∧ zh_cc (zh_v N σ) c' c = true) ∨ zh_sm g c' c = true ∨ zh_pm N σ g c' c = true) := by
  obtain ⟨h1, h2⟩ := ze_condf h
  obtain ⟨-, h3⟩ := zh_all_ok _ _ h2
  refine ⟨ze_beq h1, fun k c' hk => ?_⟩
  unfold ze_gw at hk
  obtain ⟨ch, e1, e2⟩ := Option.bind_eq_some_iff.mp hk
  obtain ⟨ch2, e3, e4⟩ := h3 _ _ e1
  obtain ⟨-, h5⟩ := zh_all_ok _ _ e4
  obtain ⟨c, e5, e6⟩ := h5 _ _ e2
  refine ⟨c, ?_, ?_⟩
  · unfold ze_gw
    rw [e3]
    exact e5
  · rcases ze_cond e6 with ⟨e6, -⟩ | ⟨-, e6⟩
    · rcases ze_cond e6 with ⟨e7, e8⟩ | ⟨-, e8⟩
      · exact Or.inl ⟨ze_beq e7, e8⟩
      · exact Or.inr (Or.inl e8)
    · exact Or.inr (Or.inr e6)
/-! cells that are closed terms are compared once: what doesn't hang on the state is a term of its own -/
theorem zq_cg {b x y z : Bool} (h : b = true → x = y) : zcd b x z = zcd b y z := by
  cases b
  · rfl
  · exact h rfl
theorem zq_ct {b x : Bool} (h : b = true → x = true) : zcd b true x = x := by
  cases b
  · rfl
  · exact (h rfl).symm
noncomputable def zq_cs9 (N : Nat) (u : EV) : Bool := zv_ u (fun a => zv_s a (fun _ => true) (fun i => Nat.ble (Nat.succ i) N)) (fun _ => true) (fun a => zv_s a (fun _ => true) (fun _ => false)) (fun _ => true)
noncomputable def zq_cv (N : Nat) (u v : EV) : Bool := zcd (zq_cs9 N u) (zh_eq u v) false
noncomputable def zq_cl (N : Nat) (c' c : EC) : Bool := zcd (Nat.beq c'.1 c.1) (zh_all (zq_cv N) c'.2 c.2) false
noncomputable def zq_ch (N : Nat) (ch' ch : List EC) : Bool := zh_all (zq_cl N) ch' ch
theorem zq_cv_ok {N : Nat} {σ : List EV} {u v : EV} (h : zq_cv N u v = true) : zh_v N σ u v = true ∧ zh_eq u v = true := by
  obtain ⟨h1, h2⟩ := ze_condf h
  refine ⟨?_, h2⟩
  rcases u with (n | i) | ((q | (n | i)) | k)
  · exact h2
  · show zcd (Nat.ble (Nat.succ i) N) (zh_eq (eU i) v) _ = true
    rw [show Nat.ble (Nat.succ i) N = true from h1]
    exact h2
  · exact h2
  · exact h2
  · cases h1
  · exact h2
theorem zh_all_mono {α : Type} {f f' : α → α → Bool} (hf : ∀ u v, f u v = true → f' u v = true) : ∀ (us vs : List α), zh_all f us vs = true → zh_all f' us vs = true := by
  intro us
  induction us with
  | nil =>
    intro vs h
    cases vs with
    | nil => rfl
    | cons v r => cases h
  | cons a t ih =>
    intro vs h
    cases vs with
    | nil => cases h
    | cons v r =>
      obtain ⟨h1, h2⟩ := ze_condf (show zcd (f a v) (zh_all f t r) false = true from h)
      show zcd (f' a v) (zh_all f' t r) false = true
      rw [hf _ _ h1]
      exact ih r h2
theorem zq_cl_ok {N : Nat} {σ : List EV} {g : EG} {c' c : EC} (h : zq_cl N c' c = true) : zh_c N σ g c' c = true := by
  obtain ⟨h1, h2⟩ := ze_condf h
  have h3 := zh_all_mono (fun u v q => (zq_cv_ok (σ := σ) q).1) _ _ h2
  have h4 := zh_all_mono (fun u v q => (zq_cv_ok (σ := σ) q).2) _ _ h2
  have h5 : zh_cc (zh_v N σ) c' c = true := by
    unfold zh_cc
    cases zcd (Nat.ble 1000 c'.1) (Nat.ble c'.1 1299) false
    · exact h3
    · exact h4
  unfold zh_c
  rw [h1, h5]
  all_goals rfl
noncomputable def zh_c2 (N : Nat) (σ : List EV) (g : EG) (c' c : EC) : Bool := zcd (zq_cl N c' c) true (zh_c N σ g c' c)
theorem zh_c2_eq {N : Nat} {σ : List EV} {g : EG} : zh_c2 N σ g = zh_c N σ g := by
  funext c' c
  exact zq_ct zq_cl_ok
noncomputable def zh_h2 (N : Nat) (σ : List EV) (g : EG) (ch' ch : List EC) : Bool := zcd (zq_ch N ch' ch) true (zh_all (zh_c2 N σ g) ch' ch)
theorem zh_h2_eq {N : Nat} {σ : List EV} {g : EG} : zh_h2 N σ g = zh_all (zh_c N σ g) := by
  funext ch' ch
  show zcd (zq_ch N ch' ch) true (zh_all (zh_c2 N σ g) ch' ch) = _
  rw [zh_c2_eq]
  exact zq_ct (fun h => zh_all_mono (fun _ _ q => zq_cl_ok q) _ _ h)
noncomputable def zh_w2 (N : Nat) (σ : List EV) (g : EG) (w' w : EW) : Bool := zcd (Nat.beq w'.1 w.1) (zh_all (zh_h2 N σ g) w'.2 w.2) false
theorem zh_w2_eq {N : Nat} {σ : List EV} {g : EG} {w' w : EW} : zh_w2 N σ g w' w = zh_w N σ g w' w := by
  unfold zh_w2 zh_w
  rw [zh_h2_eq]
section ZGW
variable {sp : Nat → Nat} {ρ : List Int32} {ad : List Nat} {σ : List EV} {vals : List Int32} {N : Nat} {dA : Nat → ClassId}
theorem zh_L (hσ : zh_σ sp ρ ad σ vals) (hN : N ≤ ρ.length) : ∀ (us vs : List EV) (xs : List Value), zh_all (zh_v N σ) us vs = true → ze_L sp ρ ad vs xs → ze_L sp (ρ.take N ++ vals) ad us xs := by
  intro us
  induction us with
  | nil =>
    intro vs xs h hL
    cases vs with
    | nil => rw [hL.nil]; trivial
    | cons v r => cases h
  | cons a t ih =>
    intro vs xs h hL
    cases vs with
    | nil => cases h
    | cons v r =>
      obtain ⟨h1, h2⟩ := ze_condf (show zcd (zh_v N σ a v) (zh_all (zh_v N σ) t r) false = true from h)
      obtain ⟨y, ys, rfl, hv, hr⟩ := hL.cons
      exact ⟨zh_v_ok h1 hσ hN hv, ih r ys h2 hr⟩
theorem zh_C (hσ : zh_σ sp ρ ad σ vals) (hN : N ≤ ρ.length) {c' c : EC} {e : va_E} (h1 : c'.1 = c.1) (h2 : zh_cc (zh_v N σ) c' c = true) (h : ze_C dA sp ρ ad c e) : ze_C dA sp (ρ.take N ++ vals) ad c' e := by
  rcases zh_cc_ok h1 h2 h with ⟨e9, hs⟩ | ⟨h2, h9⟩
  · rw [e9]
    exact Or.inr (Or.inr (Or.inr (Or.inr (Or.inl hs))))
  obtain ⟨h3, h4⟩ := zh_all_ok _ _ h2
  rcases h with ⟨a, fs, b, q⟩ | ⟨a, a2, f, b, q⟩ | ⟨a, a2, f, b, q⟩ | ⟨a, a2, f, b, q⟩ | (⟨a, a2, -⟩ | ⟨a, a2, -⟩) | ⟨a, a2, zs, f, b, he, q⟩
  · exact Or.inl ⟨by rw [h1]; exact a, fs, by rw [h1]; exact b, zh_L hσ hN _ _ _ h2 q⟩
  · exact Or.inr (Or.inl ⟨by rw [h1]; exact a, by rw [h1]; exact a2, f, by rw [h1, h3]; exact b, fun j u hu => by obtain ⟨v, e1, e2⟩ := h4 j u hu; exact zh_v_ok e2 hσ hN (q j v e1)⟩)
  · exact Or.inr (Or.inr (Or.inl ⟨by rw [h1]; exact a, by rw [h1]; exact a2, f, by rw [h1, h3]; exact b, fun j u hu => by obtain ⟨v, e1, e2⟩ := h4 j u hu; exact zh_v_ok e2 hσ hN (q j v e1)⟩))
  · exact Or.inr (Or.inr (Or.inr (Or.inl ⟨by rw [h1]; exact a, by rw [h1]; exact a2, f, by rw [h1, h3]; exact b, fun j u hu => by obtain ⟨v, e1, e2⟩ := h4 j u hu; exact zh_v_ok e2 hσ hN (q j v e1)⟩)))
  · omega
  · omega
  · refine Or.inr (Or.inr (Or.inr (Or.inr (Or.inr ⟨by rw [h1]; exact a, by rw [h1]; exact a2, zs, f, ⟨by rw [h3]; exact b.1, fun j u hu => ?_⟩, by rw [h1]; exact he, by rw [h1]; exact q⟩))))
    obtain ⟨v, e1, e2⟩ := h4 j u hu
    obtain ⟨x, x1, x2⟩ := b.2 j v e1
    exact ⟨x, x1, zh_v_ok e2 hσ hN x2⟩
theorem zh_W {w' w : EW} {g : EG} {ws : va_W} (hG : ze_G g ρ) (hσ : zh_σ sp ρ (ws.map (·.1)) σ vals) (hN : N ≤ ρ.length) (h : zh_w N σ g w' w = true) (hW : ze_W dA sp ρ w ws) : ze_W dA sp (ρ.take N ++ vals) w' ws := by
  obtain ⟨h1, h2⟩ := zh_w_get h
  refine ⟨h1.trans hW.1, fun k c' hk => ?_⟩
  obtain ⟨c, e1, e2⟩ := h2 k c' hk
  obtain ⟨a, e, q1, q2⟩ := hW.2 k c e1
  rcases e2 with ⟨e2, e3⟩ | e2 | e2
  · exact ⟨a, e, q1, zh_C hσ hN e2 e3 q2⟩
  · exact ⟨a, e, q1, Or.inr (Or.inr (Or.inr (Or.inr (Or.inl (zh_sm_ok e2 hG q2)))))⟩
  · exact ⟨a, e, q1, Or.inr (Or.inr (Or.inr (Or.inr (Or.inr (zh_pm_ok e2 hσ hN hG q2)))))⟩
end ZGW
/-- intervals: the first N wider, the others without bounds -/
noncomputable def zh_top (g : EG) : Bool := List.rec (motive := fun _ => Bool) true (fun p _ ih => zcd (Nat.beq p.1 0) (zcd (Nat.ble 4294967295 p.2) ih false) false) g
noncomputable def zh_g (N : Nat) : EG → EG → Bool := Nat.rec (motive := fun _ => EG → EG → Bool) (fun g' _ => zh_top g') (fun _ ih g' g => List.rec (motive := fun _ => Bool) false (fun p' r' _ => List.rec (motive := fun _ => Bool) false (fun p r _ => zcd (Nat.ble p'.1 p.1) (zcd (Nat.ble p.2 p'.2) (ih r' r) false) false) g) g') N
theorem zh_top_ok : ∀ (g : EG), zh_top g = true → ∀ (i : Nat) (p : Nat × Nat), g[i]? = some p → p.1 = 0 ∧ 4294967295 ≤ p.2 := by
  intro g
  induction g with
  | nil => intro _ i p q; cases q
  | cons a t ih =>
    intro h i p q
    obtain ⟨h1, h⟩ := ze_condf (show zcd (Nat.beq a.1 0) (zcd (Nat.ble 4294967295 a.2) (zh_top t) false) false = true from h)
    obtain ⟨h2, h⟩ := ze_condf h
    cases i with
    | zero => cases (Option.some.inj q); exact ⟨ze_beq h1, Nat.le_of_ble_eq_true h2⟩
    | succ i => exact ih h i p q
theorem zh_g_ok : ∀ (N : Nat) (g' g : EG), zh_g N g' g = true → (∀ (i : Nat) (p' : Nat × Nat), i < N → g'[i]? = some p' → ∃ p, g[i]? = some p ∧ p'.1 ≤ p.1 ∧ p.2 ≤ p'.2) ∧ ∀ (i : Nat) (p' : Nat × Nat), N ≤ i → g'[i]? = some p' → p'.1 = 0 ∧ 4294967295 ≤ p'.2 := by
  intro N
  induction N with
  | zero => intro g' g h; exact ⟨fun i p' hi => by omega, fun i p' _ q => zh_top_ok g' h i p' q⟩
  | succ N ih =>
    intro g' g h
    cases g' with
    | nil => cases h
    | cons a' t' =>
      cases g with
      | nil => cases h
      | cons a t =>
        obtain ⟨h1, h⟩ := ze_condf (show zcd (Nat.ble a'.1 a.1) (zcd (Nat.ble a.2 a'.2) (zh_g N t' t) false) false = true from h)
        obtain ⟨h2, h⟩ := ze_condf h
        obtain ⟨k1, k2⟩ := ih t' t h
        refine ⟨fun i p' hi q => ?_, fun i p' hi q => ?_⟩
        · cases i with
          | zero => cases (Option.some.inj q); exact ⟨a, rfl, Nat.le_of_ble_eq_true h1, Nat.le_of_ble_eq_true h2⟩
          | succ i => exact k1 i p' (by omega) q
        · cases i with
          | zero => omega
          | succ i => exact k2 i p' (by omega) q
theorem zh_G {sp : Nat → Nat} {ρ : List Int32} {ad : List Nat} {σ : List EV} {vals : List Int32} {N : Nat} {g' g : EG} (hσ : zh_σ sp ρ ad σ vals) (hN : N ≤ ρ.length) (hl : g'.length = N + σ.length) (h : zh_g N g' g = true) (hG : ze_G g ρ) : ze_G g' (ρ.take N ++ vals) := by
  obtain ⟨h1, h2⟩ := zh_g_ok N g' g h
  refine ⟨by rw [hl, List.length_append, List.length_take, Nat.min_eq_left hN, hσ.1], fun i p' x e1 e2 => ?_⟩
  by_cases hi : i < N
  · obtain ⟨p, q1, q2, q3⟩ := h1 i p' hi e1
    rw [zh_lo hN hi] at e2
    have := hG.2 i p x q1 e2
    omega
  · obtain ⟨q1, q2⟩ := h2 i p' (by omega) e1
    have := ze_b_top x
    omega
/-! data in their normal form: worked out once -/
noncomputable def zN_v (v : EV) (f : EV → Bool) : Bool := Sum.rec (motive := fun _ => Bool) (fun a => Sum.rec (motive := fun _ => Bool) (fun n => ze_f n (fun n => f (eC n))) (fun i => ze_f i (fun i => f (eU i))) a) (fun b => Sum.rec (motive := fun _ => Bool) (fun z => Sum.rec (motive := fun _ => Bool) (fun k => ze_f k (fun k => f (eR k))) (fun y => Sum.rec (motive := fun _ => Bool) (fun n => ze_f n (fun n => f (eL n))) (fun i => ze_f i (fun i => f (eLU i))) y) z) (fun k => ze_f k (fun k => f (eX k))) b) v
theorem zN_v_eq (v : EV) (f : EV → Bool) : zN_v v f = f v := by
  rcases v with (n | i) | ((k | (n | i)) | k)
  · exact ze_f_eq n (fun n => f (eC n))
  · exact ze_f_eq i (fun i => f (eU i))
  · exact ze_f_eq k (fun k => f (eR k))
  · exact ze_f_eq n (fun n => f (eL n))
  · exact ze_f_eq i (fun i => f (eLU i))
  · exact ze_f_eq k (fun k => f (eX k))
/-- lists put together, the elements as they are -/
noncomputable def zq_ap {α : Type} (s r : List α) : (List α → Bool) → Bool := List.rec (motive := fun _ => (List α → Bool) → Bool) (fun f => f r) (fun v _ ih f => ih (fun r => f (v :: r))) s
theorem zq_ap_eq {α : Type} (r : List α) : ∀ (s : List α) (f : List α → Bool), zq_ap s r f = f (s ++ r) := by
  intro s
  induction s with
  | nil => intro f; rfl
  | cons v t ih =>
    intro f
    show zq_ap t r (fun r => f (v :: r)) = _
    rw [ih]
    rfl
noncomputable def zq_len {α : Type} (l : List α) : Nat := List.rec (motive := fun _ => Nat) 0 (fun _ _ ih => Nat.succ ih) l
theorem zq_len_eq {α : Type} : ∀ (l : List α), zq_len l = l.length := by
  intro l
  induction l with
  | nil => rfl
  | cons v t ih => exact congrArg Nat.succ ih
noncomputable def zq_dr {α : Type} (n : Nat) : List α → List α := Nat.rec (motive := fun _ => List α → List α) (fun l => l) (fun _ ih l => List.rec (motive := fun _ => List α) [] (fun _ t _ => ih t) l) n
theorem zq_dr_eq {α : Type} : ∀ (n : Nat) (l : List α), zq_dr n l = l.drop n := by
  intro n
  induction n with
  | zero => intro l; rfl
  | succ n ih =>
    intro l
    cases l with
    | nil => rfl
    | cons a t => exact ih t
/-- the values at places of a world: ints -/
noncomputable def zh_rd (w : EW) (pl : List (Nat × Nat)) : List EV → (List EV → Bool) → Bool := List.rec (motive := fun _ => List EV → (List EV → Bool) → Bool) (fun acc f => f acc) (fun p _ ih acc f => ze_g w p.1 (fun c => ze_n c.2 p.2 (fun v => zv_i v (fun _ => ih (acc ++ [v]) f)))) pl
theorem zh_s3v {sp : Nat → Nat} {ρ : List Int32} {ad : List Nat} {l : List EV} {n lo hi : Nat} {j : Nat} {u : EV} (h : l = [eC n, eC lo, eC hi]) (hj : l[j]? = some u) : ∃ X : Value, ze_V sp ρ ad u X := by
  subst h
  match j, hj with
  | 0, hj => cases hj; exact ⟨_, rfl⟩
  | 1, hj => cases hj; exact ⟨_, rfl⟩
  | 2, hj => cases hj; exact ⟨_, rfl⟩
  | j + 3, hj => cases hj
theorem zh_rd_ok {dA : Nat → ClassId} {sp : Nat → Nat} {ρ : List Int32} {w : EW} {ws : va_W} (hW : ze_W dA sp ρ w ws) : ∀ (pl : List (Nat × Nat)) (acc : List EV) (vals : List Int32) (f : List EV → Bool), zh_σ sp ρ (ws.map (·.1)) acc vals → zh_rd w pl acc f = true → ∃ σ vals', f σ = true ∧ zh_σ sp ρ (ws.map (·.1)) σ vals' := by
  intro pl
  induction pl with
  | nil => intro acc vals f h1 h2; exact ⟨acc, vals, h2, h1⟩
  | cons p t ih =>
    intro acc vals f h1 h2
    obtain ⟨c, e1, h2⟩ := ze_g_spec (show ze_g w p.1 _ = true from h2)
    obtain ⟨v, e2, h2⟩ := ze_n_spec _ _ _ h2
    rcases v with u | ((q | q) | q)
    · obtain ⟨a, e, q1, q2⟩ := hW.2 _ _ e1
      have hx : ∃ x : Int32, ze_V sp ρ (ws.map (·.1)) (.inl u) (.int x) := by
        have hany : ∃ X : Value, ze_V sp ρ (ws.map (·.1)) (.inl u) X := by
          rcases q2 with ⟨_, fs, _, z⟩ | ⟨_, _, f9, _, z⟩ | ⟨_, _, f9, _, z⟩ | ⟨_, _, f9, _, z⟩ | (⟨_, _, n9, lo9, hi9, f9, e9, _⟩ | ⟨_, _, n9, lo9, hi9, f9, e9, _⟩) | ⟨_, _, zs9, f9, b9, _⟩
          · obtain ⟨x, _, hx⟩ := z.get e2
            exact ⟨x, hx⟩
          · exact ⟨_, z _ _ e2⟩
          · exact ⟨_, z _ _ e2⟩
          · exact ⟨_, z _ _ e2⟩
          · exact zh_s3v e9 e2
          · exact zh_s3v e9 e2
          · obtain ⟨x, _, hx⟩ := b9.2 _ _ e2
            exact ⟨_, hx⟩
        obtain ⟨X, hX⟩ := hany
        rcases u with n | i
        · exact ⟨nI n, rfl⟩
        · obtain ⟨z, z1, z2⟩ := id hX
          exact ⟨z, z, z1, rfl⟩
      obtain ⟨x, hx⟩ := hx
      refine ih (acc ++ [.inl u]) (vals ++ [x]) f ⟨by simp [h1.1], fun t9 v9 h9 => ?_⟩ (show zh_rd w t (acc ++ [.inl u]) f = true from h2)
      by_cases hlt : t9 < acc.length
      · rw [List.getElem?_append_left hlt] at h9
        obtain ⟨x9, k1, k2⟩ := h1.2 t9 v9 h9
        exact ⟨x9, by rw [List.getElem?_append_left (by rw [← h1.1]; exact hlt)]; exact k1, k2⟩
      · rw [List.getElem?_append_right (by omega)] at h9
        cases hz : t9 - acc.length with
        | zero =>
          rw [hz] at h9
          cases (Option.some.inj h9)
          refine ⟨x, ?_, hx⟩
          rw [List.getElem?_append_right (by rw [← h1.1]; omega), ← h1.1, hz]
          rfl
        | succ z => rw [hz] at h9; cases h9
    · cases h2
    · cases h2
    · cases h2
/-- intervals: the first N wider; the new ones hold of the values that they stand for -/
noncomputable def zh_in (g : EG) (p' : Nat × Nat) (v : EV) : Bool := zcd (Nat.ble p'.1 (zo_iv g v).1) (Nat.ble (zo_iv g v).2 p'.2) false
noncomputable def zh_is (g : EG) (g' : EG) : List EV → Bool := List.rec (motive := fun _ => List EV → Bool) (fun _ => true) (fun p' _ ih σ => List.rec (motive := fun _ => Bool) false (fun v r _ => zcd (zh_in g p' v) (ih r) false) σ) g'
noncomputable def zh_gi (N : Nat) (σ : List EV) (g' g0 : EG) : Bool := Nat.rec (motive := fun _ => EG → EG → Bool) (fun g' _ => zh_is g0 g' σ) (fun _ ih g' g => List.rec (motive := fun _ => Bool) false (fun p' r' _ => List.rec (motive := fun _ => Bool) false (fun p r _ => zcd (Nat.ble p'.1 p.1) (zcd (Nat.ble p.2 p'.2) (ih r' r) false) false) g) g') N g' g0
theorem zh_is_ok {g : EG} : ∀ (g' : EG) (σ : List EV), zh_is g g' σ = true → ∀ (i : Nat) (p' : Nat × Nat), g'[i]? = some p' → ∃ v, σ[i]? = some v ∧ p'.1 ≤ (zo_iv g v).1 ∧ (zo_iv g v).2 ≤ p'.2 := by
  intro g'
  induction g' with
  | nil => intro σ _ i p q; cases q
  | cons a t ih =>
    intro σ h i p q
    cases σ with
    | nil => cases h
    | cons v r =>
      obtain ⟨h1, h2⟩ := ze_condf (show zcd (zh_in g a v) (zh_is g t r) false = true from h)
      obtain ⟨k1, k2⟩ := ze_condf (show zcd (Nat.ble a.1 (zo_iv g v).1) (Nat.ble (zo_iv g v).2 a.2) false = true from h1)
      cases i with
      | zero => cases (Option.some.inj q); exact ⟨v, rfl, ze_ble' k1, ze_ble' k2⟩
      | succ i => exact ih r h2 i p q
theorem zh_gi_ok {σ : List EV} {g0 : EG} : ∀ (N : Nat) (g' g : EG), Nat.rec (motive := fun _ => EG → EG → Bool) (fun g' _ => zh_is g0 g' σ) (fun _ ih g' g => List.rec (motive := fun _ => Bool) false (fun p' r' _ => List.rec (motive := fun _ => Bool) false (fun p r _ => zcd (Nat.ble p'.1 p.1) (zcd (Nat.ble p.2 p'.2) (ih r' r) false) false) g) g') N g' g = true → (∀ (i : Nat) (p' : Nat × Nat), i < N → g'[i]? = some p' → ∃ p, g[i]? = some p ∧ p'.1 ≤ p.1 ∧ p.2 ≤ p'.2) ∧ ∀ (i : Nat) (p' : Nat × Nat), N ≤ i → g'[i]? = some p' → ∃ v, σ[i - N]? = some v ∧ p'.1 ≤ (zo_iv g0 v).1 ∧ (zo_iv g0 v).2 ≤ p'.2 := by
  intro N
  induction N with
  | zero => intro g' g h; exact ⟨fun i p' hi => by omega, fun i p' _ q => zh_is_ok g' σ h i p' q⟩
  | succ N ih =>
    intro g' g h
    cases g' with
    | nil => cases h
    | cons a' t' =>
      cases g with
      | nil => cases h
      | cons a t =>
        obtain ⟨h1, h⟩ := ze_condf h
        obtain ⟨h2, h⟩ := ze_condf h
        obtain ⟨k1, k2⟩ := ih t' t h
        refine ⟨fun i p' hi q => ?_, fun i p' hi q => ?_⟩
        · cases i with
          | zero => cases (Option.some.inj q); exact ⟨a, rfl, ze_ble' h1, ze_ble' h2⟩
          | succ i => exact k1 i p' (by omega) q
        · cases i with
          | zero => omega
          | succ i =>
            obtain ⟨v, e1, e2⟩ := k2 i p' (by omega) q
            exact ⟨v, by rw [show i + 1 - (N + 1) = i - N by omega]; exact e1, e2⟩
theorem zh_Gi {sp : Nat → Nat} {ρ : List Int32} {ad : List Nat} {σ : List EV} {vals : List Int32} {N : Nat} {g' g : EG} (hσ : zh_σ sp ρ ad σ vals) (hN : N ≤ ρ.length) (hl : g'.length = N + σ.length) (h : zh_gi N σ g' g = true) (hG : ze_G g ρ) : ze_G g' (ρ.take N ++ vals) := by
  obtain ⟨h1, h2⟩ := zh_gi_ok N g' g h
  refine ⟨by rw [hl, List.length_append, List.length_take, Nat.min_eq_left hN, hσ.1], fun i p' x e1 e2 => ?_⟩
  by_cases hi : i < N
  · obtain ⟨p, q1, q2, q3⟩ := h1 i p' hi e1
    rw [zh_lo hN hi] at e2
    have := hG.2 i p x q1 e2
    omega
  · obtain ⟨v, q1, q2, q3⟩ := h2 i p' (by omega) e1
    rw [zh_hi hN (by omega)] at e2
    obtain ⟨y, k1, k2⟩ := hσ.2 _ _ q1
    rw [e2] at k1
    cases k1
    have := zi_iv hG k2
    omega
noncomputable def zh_rl (ls : List EV) (pll : List Nat) : List EV → (List EV → Bool) → Bool := List.rec (motive := fun _ => List EV → (List EV → Bool) → Bool) (fun acc f => f acc) (fun i _ ih acc f => ze_n ls i (fun v => zv_ v (fun _ => ih (acc ++ [v]) f) (fun _ => false) (fun a => ze_li ze_lr ze_l32 a (fun t => ih (acc ++ [t]) f) false) (fun _ => false))) pll
theorem zh_snoc {sp : Nat → Nat} {ρ : List Int32} {ad : List Nat} {acc : List EV} {vals : List Int32} {v : EV} {x : Int32} (h1 : zh_σ sp ρ ad acc vals) (hx : ze_V sp ρ ad v (.int x)) : zh_σ sp ρ ad (acc ++ [v]) (vals ++ [x]) := by
  refine ⟨by simp [h1.1], fun t9 v9 h9 => ?_⟩
  by_cases hlt : t9 < acc.length
  · rw [List.getElem?_append_left hlt] at h9
    obtain ⟨x9, k1, k2⟩ := h1.2 t9 v9 h9
    exact ⟨x9, by rw [List.getElem?_append_left (by rw [← h1.1]; exact hlt)]; exact k1, k2⟩
  · rw [List.getElem?_append_right (by omega)] at h9
    cases hz : t9 - acc.length with
    | zero =>
      rw [hz] at h9
      cases (Option.some.inj h9)
      refine ⟨x, ?_, hx⟩
      rw [List.getElem?_append_right (by rw [← h1.1]; omega), ← h1.1, hz]
      rfl
    | succ z => rw [hz] at h9; cases h9
theorem zh_rl_ok {sp : Nat → Nat} {ρ : List Int32} {ad : List Nat} {ls : List EV} {lv : List (Nat × Value)} (hL : ze_LL sp ρ ad ls lv) : ∀ (pll : List Nat) (acc : List EV) (vals : List Int32) (f : List EV → Bool), zh_σ sp ρ ad acc vals → zh_rl ls pll acc f = true → ∃ σ vals', f σ = true ∧ zh_σ sp ρ ad σ vals' := by
  intro pll
  induction pll with
  | nil => intro acc vals f h1 h2; exact ⟨acc, vals, h2, h1⟩
  | cons i t ih =>
    intro acc vals f h1 h2
    obtain ⟨v, e2, h2⟩ := ze_n_spec _ _ _ (show ze_n ls i _ = true from h2)
    rcases v with u | ((q | q) | q)
    · obtain ⟨X, -, hX⟩ := hL i _ e2 (fun q => by cases q)
      have hx : ∃ x : Int32, ze_V sp ρ ad (.inl u) (.int x) := by
        rcases u with n | j
        · exact ⟨nI n, rfl⟩
        · obtain ⟨z, z1, z2⟩ := id hX
          exact ⟨z, z, z1, rfl⟩
      obtain ⟨x, hx⟩ := hx
      exact ih (acc ++ [.inl u]) (vals ++ [x]) f (zh_snoc h1 hx) (show zh_rl ls t (acc ++ [.inl u]) f = true from h2)
    · cases h2
    · obtain ⟨X, -, hX⟩ := hL i _ e2 (fun q => by cases q)
      rcases zi_li zi_lr (show ze_li ze_lr ze_l32 q (fun t9 => zh_rl ls t (acc ++ [t9]) f) false = true from h2) hX with ⟨x9, vx, ex, hvx, hf⟩ | hd
      · exact ih (acc ++ [vx]) (vals ++ [x9]) f (zh_snoc h1 hvx) hf
      · cases hd
    · cases h2
noncomputable def zh_lv (N : Nat) (σ : List EV) (u v : EV) : Bool := zcd (zh_eq u (eX 1)) true (zh_v N σ u v)
/-- unknowns from N on: ints of the locals pll, then of the places pl -/
noncomputable def zh_chk0 (N : Nat) (pll : List Nat) (pl : List (Nat × Nat)) (ls' : List EV) (w' : EW) (g' : EG) (ls : List EV) (w : EW) (g : EG) : Bool := zh_rl ls pll [] (fun s0 => zh_rd w pl s0 (fun σ => zcd (Nat.beq g'.length (Nat.add N σ.length)) (zcd (zh_gi N σ g' g) (zcd (zh_w N σ g w' w) (zh_all (zh_lv N σ) ls' ls) false) false) false))
/-- the same, its lists made without appending -/
noncomputable def zq_rd (w : EW) (pl : List (Nat × Nat)) : (List EV → Bool) → Bool := List.rec (motive := fun _ => (List EV → Bool) → Bool) (fun f => f []) (fun p _ ih f => ze_g w p.1 (fun c => ze_n c.2 p.2 (fun v => zv_i v (fun _ => ih (fun r => f (v :: r)))))) pl
theorem zq_rd_eq {w : EW} : ∀ (pl : List (Nat × Nat)) (acc : List EV) (f : List EV → Bool), zh_rd w pl acc f = zq_rd w pl (fun r => f (acc ++ r)) := by
  intro pl
  induction pl with
  | nil => intro acc f; show f acc = f (acc ++ []); rw [List.append_nil]
  | cons p t ih =>
    intro acc f
    show ze_g w p.1 (fun c => ze_n c.2 p.2 (fun v => zv_i v (fun _ => zh_rd w t (acc ++ [v]) f))) = ze_g w p.1 (fun c => ze_n c.2 p.2 (fun v => zv_i v (fun _ => zq_rd w t (fun r => f (acc ++ (v :: r))))))
    have h : ∀ v : EV, zh_rd w t (acc ++ [v]) f = zq_rd w t (fun r => f (acc ++ (v :: r))) := fun v => by
      rw [ih]
      exact congrArg (zq_rd w t) (funext fun r => congrArg f (by rw [List.append_assoc]; rfl))
    simp only [h]
noncomputable def zq_rl (ls : List EV) (pll : List Nat) : (List EV → Bool) → Bool := List.rec (motive := fun _ => (List EV → Bool) → Bool) (fun f => f []) (fun i _ ih f => ze_n ls i (fun v => zv_ v (fun _ => ih (fun r => f (v :: r))) (fun _ => false) (fun a => ze_li ze_lr ze_l32 a (fun t => ih (fun r => f (t :: r))) false) (fun _ => false))) pll
theorem zq_rl_eq {ls : List EV} : ∀ (pll : List Nat) (acc : List EV) (f : List EV → Bool), zh_rl ls pll acc f = zq_rl ls pll (fun r => f (acc ++ r)) := by
  intro pll
  induction pll with
  | nil => intro acc f; show f acc = f (acc ++ []); rw [List.append_nil]
  | cons i t ih =>
    intro acc f
    show ze_n ls i (fun v => zv_ v (fun _ => zh_rl ls t (acc ++ [v]) f) (fun _ => false) (fun a => ze_li ze_lr ze_l32 a (fun t9 => zh_rl ls t (acc ++ [t9]) f) false) (fun _ => false)) = ze_n ls i (fun v => zv_ v (fun _ => zq_rl ls t (fun r => f (acc ++ (v :: r)))) (fun _ => false) (fun a => ze_li ze_lr ze_l32 a (fun t9 => zq_rl ls t (fun r => f (acc ++ (t9 :: r)))) false) (fun _ => false))
    have h : ∀ v : EV, zh_rl ls t (acc ++ [v]) f = zq_rl ls t (fun r => f (acc ++ (v :: r))) := fun v => by
      rw [ih]
      exact congrArg (zq_rl ls t) (funext fun r => congrArg f (by rw [List.append_assoc]; rfl))
    simp only [h]
noncomputable def zq_pp (p' p : Nat × Nat) : Bool := zcd (Nat.ble p'.1 p.1) (Nat.ble p.2 p'.2) false
noncomputable def zq_gr (σ : List EV) (g0 : EG) (N : Nat) : EG → EG → Bool := Nat.rec (motive := fun _ => EG → EG → Bool) (fun g' _ => zh_is g0 g' σ) (fun _ ih g' g => List.rec (motive := fun _ => Bool) false (fun p' r' _ => List.rec (motive := fun _ => Bool) false (fun p r _ => zcd (zq_pp p' p) (ih r' r) false) g) g') N
noncomputable def zq_go (σ : List EV) (g0 : EG) (N : Nat) : EG → EG → Bool := Nat.rec (motive := fun _ => EG → EG → Bool) (fun g' _ => zh_is g0 g' σ) (fun _ ih g' g => List.rec (motive := fun _ => Bool) false (fun p' r' _ => List.rec (motive := fun _ => Bool) false (fun p r _ => zcd (Nat.ble p'.1 p.1) (zcd (Nat.ble p.2 p'.2) (ih r' r) false) false) g) g') N
theorem zq_c3 {a b x : Bool} : zcd (zcd a b false) x false = zcd a (zcd b x false) false := by cases a <;> cases b <;> rfl
theorem zq_gr_eq {σ : List EV} {g0 : EG} : ∀ (N : Nat) (g' g : EG), zq_gr σ g0 N g' g = zq_go σ g0 N g' g := by
  intro N
  induction N with
  | zero => intro g' g; rfl
  | succ N ih =>
    intro g' g
    cases g' with
    | nil => rfl
    | cons a' t' =>
      cases g with
      | nil => rfl
      | cons a t =>
        show zcd (zq_pp a' a) (zq_gr σ g0 N t' t) false = zcd (Nat.ble a'.1 a.1) (zcd (Nat.ble a.2 a'.2) (zq_go σ g0 N t' t) false) false
        rw [ih t' t]
        exact zq_c3
noncomputable def zh_gi2 (N : Nat) (σ : List EV) (g' g0 : EG) : Bool := zq_gr σ g0 N g' g0
theorem zh_gi2_e {N : Nat} {σ : List EV} {g' g : EG} : zh_gi2 N σ g' g = zh_gi N σ g' g := zq_gr_eq N g' g
noncomputable def zh_chk (N : Nat) (pll : List Nat) (pl : List (Nat × Nat)) (ls' : List EV) (w' : EW) (g' : EG) (ls : List EV) (w : EW) (g : EG) : Bool := zq_rl ls pll (fun s0 => zq_rd w pl (fun s1 => zq_ap s0 s1 (fun σ => zcd (Nat.beq (zq_len g') (Nat.add N (zq_len σ))) (zcd (zh_all (zh_lv N σ) ls' ls) (zcd (zh_gi2 N σ g' g) (zh_w2 N σ g w' w) false) false) false)))
theorem zh_chk_eq {N : Nat} {pll : List Nat} {pl : List (Nat × Nat)} {ls' : List EV} {w' : EW} {g' : EG} {ls : List EV} {w : EW} {g : EG} : zh_chk N pll pl ls' w' g' ls w g = zh_chk0 N pll pl ls' w' g' ls w g := by
  have hc : ∀ a b c d : Bool, zcd a (zcd b (zcd c d false) false) false = zcd a (zcd c (zcd d b false) false) false := fun a b c d => by cases a <;> cases b <;> cases c <;> cases d <;> rfl
  unfold zh_chk zh_chk0
  rw [zq_rl_eq]
  simp only [zq_ap_eq, zq_rd_eq, zq_len_eq, List.nil_append, zh_gi2_e, zh_w2_eq]
  exact congrArg (zq_rl ls pll) (funext fun s0 => congrArg (zq_rd w pl) (funext fun s1 => hc _ _ _ _))
section ZGH
variable {z0 : List Int32 × List Nat} {dC : Nat → ClassId} {dI : Nat → Nat → Nat} {dA : Nat → ClassId} {sp : Nat → Nat} {xs : ZXs} {A : Nat → Prop} {s : State} {nL : Nat} {ls ls' : List EV} {w w' : EW} {g g' : EG} {ρ : List Int32} {ws : va_W} {H : Heap} {locs : List Loc} {la : Array Slot} {N : Nat} {pll : List Nat} {pl : List (Nat × Nat)}
theorem zh_chk_ok {lv : List (Nat × Value)} (h : zh_chk N pll pl ls' w' g' ls w g = true) (hN : N ≤ ρ.length) (hG : ze_G g ρ) (hW : ze_W dA sp ρ w ws) (hL : ze_LL sp ρ (ws.map (·.1)) ls lv) : ∃ vals : List Int32, ze_G g' (ρ.take N ++ vals) ∧ ze_W dA sp (ρ.take N ++ vals) w' ws ∧ ze_LL sp (ρ.take N ++ vals) (ws.map (·.1)) ls' lv := by
  rw [zh_chk_eq] at h
  unfold zh_chk0 at h
  obtain ⟨s0, v0, h, hσ0⟩ := zh_rl_ok hL pll [] [] _ ⟨rfl, fun t v q => by cases q⟩ h
  obtain ⟨σ, vals, h, hσ⟩ := zh_rd_ok hW pl s0 v0 _ hσ0 h
  obtain ⟨h1, h⟩ := ze_condf h
  obtain ⟨h2, h⟩ := ze_condf h
  obtain ⟨h3, h4⟩ := ze_condf h
  refine ⟨vals, zh_Gi hσ hN (ze_beq h1) h2 hG, zh_W hG hσ hN h3 hW, fun i u hu hn => ?_⟩
  obtain ⟨-, h5⟩ := zh_all_ok _ _ h4
  obtain ⟨v, e1, e2⟩ := h5 i u hu
  rcases ze_cond (show zcd (zh_eq u (eX 1)) true (zh_v N σ u v) = true from e2) with ⟨h6, -⟩ | ⟨-, h6⟩
  · exact absurd (zh_eq_ok h6) hn
  · obtain ⟨x, k1, k2⟩ := hL i v e1 (fun q => hn (by subst q; exact zh_v_x1 h6 hσ))
    exact ⟨x, k1, zh_v_ok h6 hσ hN k2⟩
theorem zh_pre {l : List Int32} {ρ : List Int32} {vals : List Int32} (h : l <+: ρ) (hl : l.length = N) : l <+: ρ.take N ++ vals ∧ N ≤ ρ.length := by
  obtain ⟨t, rfl⟩ := h
  subst hl
  refine ⟨?_, by simp⟩
  rw [List.take_left]
  exact List.prefix_append _ _
theorem zh_H (h : zh_chk N pll pl ls' w' g' ls w g = true) (hz : z0.1.length = N) (hz6 : 10 ≤ N) (hzx : xs.2.length ≤ N) (hH : ze_H z0 dC dI dA sp xs A s nL ls [] w g ρ ws H locs la []) : ∃ ρ', ze_H z0 dC dI dA sp xs A s nL ls' [] w' g' ρ' ws H locs la [] := by
  obtain ⟨hG, hY, hW, hP, hD, hS, ⟨lv, hl, hL⟩, hV⟩ := hH
  have hN : N ≤ ρ.length := (zh_pre (vals := []) hY.2.1 hz).2
  obtain ⟨vals, k1, k2, k3⟩ := zh_chk_ok h hN hG hW hL
  exact ⟨_, k1, ⟨⟨fun j hj => by rw [zh_lo hN (by omega)]; exact hY.1.1 j hj, (List.prefix_of_prefix_length_le hY.1.2 hY.2.1 (by omega)).trans (zh_pre hY.2.1 hz).1⟩, (zh_pre hY.2.1 hz).1, hY.2.2⟩, k2, hP, hD, hS, ⟨lv, hl, k3⟩, trivial⟩
end ZGH

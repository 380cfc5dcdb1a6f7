/-! int arrays that a predicate is known of (kinds 1300 ..): rows of codes of a rule, and what was heard. n: a code, 2147483648 above its number -/
noncomputable def zq_st (n t : Nat) : Option Nat :=
  if 2147483648 ≤ n ∧ n ≤ 2147484654 then some (t + 1)
  else if 2147485648 ≤ n ∧ n ≤ 2147485654 then (if 2 ≤ t then some (t - 1) else none)
  else if n = 2147486648 then (if 1 ≤ t then some t else none)
  else none
noncomputable def zq_h (f : Nat → Int32) : Nat → Option Nat
  | 0 => some 0
  | k + 1 => (zq_h f k).bind (zq_st (ze_b (f k)))
theorem zq_h_s (f : Nat → Int32) (k : Nat) : zq_h f (k + 1) = (zq_h f k).bind (zq_st (ze_b (f k))) := by rw [zq_h]
theorem zq_h_ext {f g : Nat → Int32} : ∀ (k : Nat), (∀ j, j < k → f j = g j) → zq_h f k = zq_h g k := by
  intro k
  induction k with
  | zero => intro _; rfl
  | succ k ih =>
    intro h
    rw [zq_h_s, zq_h_s, ih (fun j hj => h j (by omega)), h k (by omega)]
theorem zq_h_pre {f : Nat → Int32} : ∀ (n t : Nat), zq_h f n = some t → ∀ k, k ≤ n → ∃ t', zq_h f k = some t' := by
  intro n
  induction n with
  | zero =>
    intro t h k hk
    have : k = 0 := by omega
    subst this
    exact ⟨t, h⟩
  | succ n ih =>
    intro t h k hk
    by_cases e : k = n + 1
    · subst e; exact ⟨t, h⟩
    · cases hn : zq_h f n with
      | none => rw [zq_h_s, hn] at h; cases h
      | some s => exact ih s hn k (by omega)
theorem zq_st_cases {n t t' : Nat} (h : zq_st n t = some t') : (2147483648 ≤ n ∧ n ≤ 2147484654 ∧ t' = t + 1) ∨ (2147485648 ≤ n ∧ n ≤ 2147485654 ∧ 2 ≤ t ∧ t' = t - 1) ∨ (n = 2147486648 ∧ 1 ≤ t ∧ t' = t) := by
  unfold zq_st at h
  split at h
  · rename_i q; cases h; exact Or.inl ⟨q.1, q.2, rfl⟩
  · split at h
    · rename_i q
      split at h
      · rename_i q2; cases h; exact Or.inr (Or.inl ⟨q.1, q.2, q2, rfl⟩)
      · cases h
    · split at h
      · rename_i q
        split at h
        · rename_i q2; cases h; exact Or.inr (Or.inr ⟨q, q2, rfl⟩)
        · cases h
      · cases h
theorem zq_st_1 {n t : Nat} (h1 : 2147483648 ≤ n) (h2 : n ≤ 2147484654) : zq_st n t = some (t + 1) := by
  unfold zq_st
  rw [if_pos ⟨h1, h2⟩]
theorem zq_st_2 {n t : Nat} (h1 : 2147485648 ≤ n) (h2 : n ≤ 2147485654) (h3 : 2 ≤ t) : zq_st n t = some (t - 1) := by
  unfold zq_st
  rw [if_neg (by omega), if_pos ⟨h1, h2⟩, if_pos h3]
theorem zq_st_3 {n t : Nat} (h1 : n = 2147486648) (h3 : 1 ≤ t) : zq_st n t = some t := by
  unfold zq_st
  rw [if_neg (by omega), if_neg (by omega), if_pos h1, if_pos h3]
/-- from a height above -/
theorem zq_st_up {n t t' H : Nat} (h : zq_st n t = some t') : zq_st n (H + t) = some (H + t') := by
  rcases zq_st_cases h with ⟨a, b, e⟩ | ⟨a, b, c, e⟩ | ⟨a, b, e⟩
  · rw [zq_st_1 a b, e]; rfl
  · rw [zq_st_2 a b (by omega), e, show H + t - 1 = H + (t - 1) by omega]
  · rw [zq_st_3 a (by omega), e]
theorem zq_st_le {n t t' : Nat} (h : zq_st n t = some t') : t' ≤ t + 1 := by
  rcases zq_st_cases h with ⟨_, _, e⟩ | ⟨_, _, _, e⟩ | ⟨_, _, e⟩ <;> omega
theorem zq_h_le {f : Nat → Int32} : ∀ (k t : Nat), zq_h f k = some t → t ≤ k := by
  intro k
  induction k with
  | zero => intro t h; cases h; exact Nat.le_refl 0
  | succ k ih =>
    intro t h
    cases hk : zq_h f k with
    | none => rw [zq_h_s, hk] at h; cases h
    | some s =>
      rw [zq_h_s, hk, Option.bind_some] at h
      have h1 := zq_st_le h
      have h2 := ih s hk
      omega
/-- a code read -/
theorem zq_h_ld {f : Nat → Int32} {n t9 k t : Nat} (h : zq_h f n = some t9) (hk : k < n) (ht : zq_h f k = some t) : ∃ t', zq_st (ze_b (f k)) t = some t' ∧ zq_h f (k + 1) = some t' := by
  obtain ⟨t', h1⟩ := zq_h_pre n t9 h (k + 1) (by omega)
  refine ⟨t', ?_, h1⟩
  rw [zq_h_s, ht, Option.bind_some] at h1
  exact h1
/-- a code put behind -/
theorem zq_h_put {f f' : Nat → Int32} {c t t' : Nat} {x : Int32} (h : zq_h f c = some t) (h1 : f' c = x) (h2 : ∀ j, j < c → f' j = f j) (hx : zq_st (ze_b x) t = some t') : zq_h f' (c + 1) = some t' := by
  rw [zq_h_s, zq_h_ext c h2, h, Option.bind_some, h1]
  exact hx
/-- the first v codes are a row; before code k its height is t -/
noncomputable def zP_M (zs : List Int32) (f : Nat → Int32) : Prop := ∃ (v k t : Int32) (V K T : Nat), zs = [v, k, t] ∧ ze_b v = 2147483648 + V ∧ ze_b k = 2147483648 + K ∧ ze_b t = 2147483648 + T ∧ (∃ t9, zq_h f V = some t9) ∧ zq_h f K = some T
/-- a row that is read: c codes, of height h + d (d 255: not known); with p + q that are owed, not more than signs were taken, t of them, b + r at least -/
noncomputable def zP_R (zs : List Int32) (f : Nat → Int32) : Prop := ∃ (h d c p q t b r : Int32) (H D C P Q T B R : Nat), zs = [h, d, c, p, q, t, b, r] ∧ ze_b h = 2147483648 + H ∧ ze_b d = 2147483648 + D ∧ ze_b c = 2147483648 + C ∧ ze_b p = 2147483648 + P ∧ ze_b q = 2147483648 + Q ∧ ze_b t = 2147483648 + T ∧ ze_b b = 2147483648 + B ∧ ze_b r = 2147483648 + R ∧ (D = 255 ∨ zq_h f C = some (H + D)) ∧ C + P + Q ≤ T ∧ B + R ≤ T ∧ T ≤ 80
/-- what was heard: numbers of 0 .. 9, of 0 .. 4 where w is 2 or more -/
noncomputable def zP_H (zs : List Int32) (f : Nat → Int32) : Prop := zs.length = 12 ∧ ∀ (j : Nat) (w : Int32), zs[j]? = some w → 2147483648 ≤ ze_b (f j) ∧ ze_b (f j) ≤ 2147483657 ∧ (2147483650 ≤ ze_b w → ze_b (f j) ≤ 2147483652)
/-- signs, of 0 .. 255, of which that at p is v -/
noncomputable def zP_T (zs : List Int32) (f : Nat → Int32) : Prop := ∃ (p v : Int32) (P : Nat), zs = [p, v] ∧ ze_b p = 2147483648 + P ∧ P < 80 ∧ f P = v ∧ ∀ j, j < 80 → 2147483648 ≤ ze_b (f j) ∧ ze_b (f j) ≤ 2147483903
/-- what acts are told by: 60 numbers of -255 .. 255, of which that at p is v -/
noncomputable def zP_A (zs : List Int32) (f : Nat → Int32) : Prop := ∃ (p v : Int32) (P : Nat), zs = [p, v] ∧ ze_b p = 2147483648 + P ∧ P < 60 ∧ f P = v ∧ ∀ j, j < 60 → 2147483393 ≤ ze_b (f j) ∧ ze_b (f j) ≤ 2147483903
/-- how many of the first j bits one holds -/
noncomputable def zq_c (f : Nat → Int32) (o : Nat) : Nat → Nat
  | 0 => 0
  | j + 1 => zq_c f o j + (if ze_b (f j) = 2147483658 + o then 1 else 0)
theorem zq_c_s (f : Nat → Int32) (o j : Nat) : zq_c f o (j + 1) = zq_c f o j + (if ze_b (f j) = 2147483658 + o then 1 else 0) := by rw [zq_c]
/-- of the first n, how many hold more than v, or v and are below k -/
noncomputable def zq_l (f : Nat → Int32) (v k : Nat) : Nat → Nat
  | 0 => 0
  | j + 1 => zq_l f v k j + (if v < zq_c f j 20 ∨ (zq_c f j 20 = v ∧ j < k) then 1 else 0)
theorem zq_l_s (f : Nat → Int32) (v k j : Nat) : zq_l f v k (j + 1) = zq_l f v k j + (if v < zq_c f j 20 ∨ (zq_c f j 20 = v ∧ j < k) then 1 else 0) := by rw [zq_l]
theorem zq_l_le {f : Nat → Int32} {v k : Nat} : ∀ n, zq_l f v k n ≤ n := by
  intro n
  induction n with
  | zero => exact Nat.le_refl 0
  | succ n ih => rw [zq_l_s]; split <;> omega
theorem zq_l_mono {f : Nat → Int32} {v k v' k' : Nat} (h : v' < v ∨ (v' = v ∧ k ≤ k')) : ∀ n, zq_l f v k n ≤ zq_l f v' k' n := by
  intro n
  induction n with
  | zero => exact Nat.le_refl 0
  | succ n ih =>
    rw [zq_l_s, zq_l_s]
    split
    · rw [if_pos (by omega)]
      omega
    · split <;> omega
theorem zq_l_add {f : Nat → Int32} {v k : Nat} (h : zq_c f k 20 = v) : ∀ n, k < n → zq_l f v k n + 1 ≤ zq_l f v (k + 1) n := by
  intro n
  induction n with
  | zero => intro q; omega
  | succ n ih =>
    intro q
    rw [zq_l_s, zq_l_s]
    by_cases e : k = n
    · subst e
      have h1 := zq_l_mono (f := f) (v := v) (k := k) (v' := v) (k' := k + 1) (Or.inr ⟨rfl, by omega⟩) k
      rw [if_neg (by omega), if_pos (by omega)]
      omega
    · have h1 := ih (by omega)
      by_cases c1 : v < zq_c f n 20 ∨ (zq_c f n 20 = v ∧ n < k)
      · rw [if_pos c1, if_pos (by omega)]
        omega
      · rw [if_neg c1]
        split <;> omega
/-- of the first j bits one (o) holds c + d; t of the five at least hold more than v, or v and are below k -/
noncomputable def zP_C (zs : List Int32) (f : Nat → Int32) : Prop := ∃ (o j c d v k t : Int32) (O J C D V K T : Nat), zs = [o, j, c, d, v, k, t] ∧ ze_b o = 2147483648 + O ∧ ze_b j = 2147483648 + J ∧ ze_b c = 2147483648 + C ∧ ze_b d = 2147483648 + D ∧ ze_b v = 2147483648 + V ∧ ze_b k = 2147483648 + K ∧ ze_b t = 2147483648 + T ∧ zq_c f O J = C + D ∧ T ≤ zq_l f V K 5
/-- t of the five at least hold more than v, or v and are below k -/
noncomputable def zP_L (zs : List Int32) (f : Nat → Int32) : Prop := ∃ (v k t : Int32) (V K T : Nat), zs = [v, k, t] ∧ ze_b v = 2147483648 + V ∧ ze_b k = 2147483648 + K ∧ ze_b t = 2147483648 + T ∧ T ≤ zq_l f V K 5
noncomputable def zP_4 (kd : Nat) (zs : List Int32) (f : Nat → Int32) : Prop := (kd = 1303 ∧ zP_T zs f) ∨ (kd = 1304 ∧ zP_A zs f) ∨ (kd = 1305 ∧ zP_C zs f) ∨ (kd = 1306 ∧ zP_L zs f)
noncomputable def zP (kd : Nat) (zs : List Int32) (f : Nat → Int32) : Prop := (kd = 1300 ∧ zP_M zs f) ∨ (kd = 1301 ∧ zP_R zs f) ∨ (kd = 1302 ∧ zP_H zs f) ∨ (1303 ≤ kd ∧ zP_4 kd zs f)
theorem zP_t {kd : Nat} {zs : List Int32} {f : Nat → Int32} (h : zP kd zs f) (hk : kd = 1303) : zP_T zs f := by
  rcases h with ⟨q, -⟩ | ⟨q, -⟩ | ⟨q, -⟩ | ⟨-, ⟨-, h⟩ | ⟨q, -⟩ | ⟨q, -⟩ | ⟨q, -⟩⟩
  · omega
  · omega
  · omega
  · exact h
  · omega
  · omega
  · omega
theorem zP_a {kd : Nat} {zs : List Int32} {f : Nat → Int32} (h : zP kd zs f) (hk : kd = 1304) : zP_A zs f := by
  rcases h with ⟨q, -⟩ | ⟨q, -⟩ | ⟨q, -⟩ | ⟨-, ⟨q, -⟩ | ⟨-, h⟩ | ⟨q, -⟩ | ⟨q, -⟩⟩
  · omega
  · omega
  · omega
  · omega
  · exact h
  · omega
  · omega
theorem zP_c {kd : Nat} {zs : List Int32} {f : Nat → Int32} (h : zP kd zs f) (hk : kd = 1305) : zP_C zs f := by
  rcases h with ⟨q, -⟩ | ⟨q, -⟩ | ⟨q, -⟩ | ⟨-, ⟨q, -⟩ | ⟨q, -⟩ | ⟨-, h⟩ | ⟨q, -⟩⟩
  · omega
  · omega
  · omega
  · omega
  · omega
  · exact h
  · omega
theorem zP_l {kd : Nat} {zs : List Int32} {f : Nat → Int32} (h : zP kd zs f) (hk : kd = 1306) : zP_L zs f := by
  rcases h with ⟨q, -⟩ | ⟨q, -⟩ | ⟨q, -⟩ | ⟨-, ⟨q, -⟩ | ⟨q, -⟩ | ⟨q, -⟩ | ⟨-, h⟩⟩
  · omega
  · omega
  · omega
  · omega
  · omega
  · omega
  · exact h
noncomputable def zP_n (kd : Nat) : Nat := if kd = 1302 then 12 else if kd = 1304 then 60 else if 1305 ≤ kd then 29 else 80
theorem ze_V_int {sp : Nat → Nat} {ρ : List Int32} {ad : List Nat} {v : EV} {x : Value} {y : Int32} (h1 : ze_V sp ρ ad v x) (h2 : ze_V sp ρ ad v (.int y)) : x = .int y := by
  match v, h1, h2 with
  | .inl (.inl n), h1, h2 => exact (show x = .int (nI n) from h1).trans (show Value.int y = .int (nI n) from h2).symm
  | .inl (.inr i), ⟨z, a, b⟩, ⟨z2, a2, b2⟩ =>
    rw [a] at a2
    cases a2
    exact b.trans b2.symm
  | .inr (.inl (.inl k)), _, ⟨z, _, b⟩ => cases b
  | .inr (.inl (.inr (.inl n))), _, h2 => cases (show Value.int y = .long (lN n) from h2)
  | .inr (.inl (.inr (.inr i))), _, ⟨z, _, b⟩ => cases b
  | .inr (.inr 0), _, h2 => cases (show Value.int y = .null from h2)
  | .inr (.inr (k + 2)), _, h2 => cases (show Value.int y = .ref (sp k) from h2)
/-- ints that a list of the engine's values stands for -/
noncomputable def ze_I (sp : Nat → Nat) (ρ : List Int32) (ad : List Nat) (l : List EV) (zs : List Int32) : Prop := l.length = zs.length ∧ ∀ (t : Nat) (v : EV), l[t]? = some v → ∃ x, zs[t]? = some x ∧ ze_V sp ρ ad v (.int x)
theorem ze_I.mono {sp : Nat → Nat} {ρ ρ' : List Int32} {ad ad' : List Nat} (h1 : ρ <+: ρ') (h2 : ad <+: ad') {l : List EV} {zs : List Int32} (h : ze_I sp ρ ad l zs) : ze_I sp ρ' ad' l zs := ⟨h.1, fun t v ht => by obtain ⟨x, a, b⟩ := h.2 t v ht; exact ⟨x, a, b.mono h1 h2⟩⟩
theorem ze_I.cons {sp : Nat → Nat} {ρ : List Int32} {ad : List Nat} {v : EV} {l : List EV} {z : Int32} {zs : List Int32} (h : ze_I sp ρ ad (v :: l) (z :: zs)) : ze_V sp ρ ad v (.int z) ∧ ze_I sp ρ ad l zs := by
  refine ⟨?_, by simpa using h.1, fun t u ht => h.2 (t + 1) u ht⟩
  obtain ⟨x, a, b⟩ := h.2 0 v rfl
  cases a
  exact b
theorem ze_I.push {sp : Nat → Nat} {ρ : List Int32} {ad : List Nat} {v : EV} {l : List EV} {z : Int32} {zs : List Int32} (h1 : ze_V sp ρ ad v (.int z)) (h2 : ze_I sp ρ ad l zs) : ze_I sp ρ ad (v :: l) (z :: zs) := by
  refine ⟨by simp [h2.1], fun t u ht => ?_⟩
  cases t with
  | zero => cases (Option.some.inj ht); exact ⟨z, rfl, h1⟩
  | succ t => exact h2.2 t u ht
theorem ze_I.two {sp : Nat → Nat} {ρ : List Int32} {ad : List Nat} {l : List EV} {x y : Int32} (h : ze_I sp ρ ad l [x, y]) : ∃ u v, l = [u, v] ∧ ze_V sp ρ ad u (.int x) ∧ ze_V sp ρ ad v (.int y) := by
  rcases l with _ | ⟨u, _ | ⟨v, _ | ⟨z, t⟩⟩⟩
  · cases h.1
  · cases h.1
  · obtain ⟨h1, h2⟩ := h.cons
    exact ⟨u, v, rfl, h1, h2.cons.1⟩
  · cases h.1
theorem ze_I.nil {sp : Nat → Nat} {ρ : List Int32} {ad : List Nat} : ze_I sp ρ ad [] [] := ⟨rfl, fun t u ht => by cases ht⟩
theorem ze_VC {sp : Nat → Nat} {ρ : List Int32} {ad : List Nat} {n : Nat} {x : Int32} (h : ze_V sp ρ ad (eC n) (.int x)) : x = nI n := Value.int.inj h
theorem ze_bC {n : Nat} (h : n ≤ 1000000) : ze_b (nI n) = 2147483648 + n := by
  rw [ze_b_nI]
  omega
noncomputable def ze_Cp (dA : Nat → ClassId) (sp : Nat → Nat) (ρ : List Int32) (ad : List Nat) (c : EC) (e : va_E) : Prop := 1300 ≤ c.1 ∧ c.1 < 1400 ∧ ∃ (zs : List Int32) (f : Nat → Int32), ze_I sp ρ ad c.2 zs ∧ e = .inl (dA 100, zP_n c.1, .inl f) ∧ zP c.1 zs f

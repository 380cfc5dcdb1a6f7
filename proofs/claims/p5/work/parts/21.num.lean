/-! THE ENGINE, part 2: numbers, relations between its data and the machine's -/
noncomputable def ze_b (x : Int32) : Nat := (x.toBitVec.toNat + 2147483648) % 4294967296
theorem ze_b_int (x : Int32) : (ze_b x : Int) = x.toInt + 2147483648 := by
  have h := x.toBitVec.isLt
  have e : x.toInt = x.toBitVec.toInt := rfl
  rw [e, BitVec.toInt_eq_toNat_cond]
  unfold ze_b
  split <;> omega
theorem ze_b_lt {x y : Int32} : x < y ↔ ze_b x < ze_b y := by
  have h1 := ze_b_int x
  have h2 := ze_b_int y
  rw [Int32.lt_iff_toInt_lt]
  omega
theorem ze_b_le {x y : Int32} : x ≤ y ↔ ze_b x ≤ ze_b y := by
  have h1 := ze_b_int x
  have h2 := ze_b_int y
  rw [Int32.le_iff_toInt_le]
  omega
theorem ze_b_eq {x y : Int32} : x = y ↔ ze_b x = ze_b y := by
  have h1 := ze_b_int x
  have h2 := ze_b_int y
  rw [← Int32.toInt_inj]
  omega
theorem ze_b_top (x : Int32) : ze_b x ≤ 4294967295 := by
  unfold ze_b
  omega
theorem ze_bv (n : Nat) : (nI n).toBitVec = BitVec.ofNat 32 n := rfl
theorem ze_tn (n : Nat) : (nI n).toBitVec.toNat = n % 4294967296 := by
  rw [ze_bv, BitVec.toNat_ofNat]
theorem ze_b_nI (n : Nat) : ze_b (nI n) = (n + 2147483648) % 4294967296 := by
  unfold ze_b
  rw [ze_tn]
  omega
noncomputable def ze_e (x : Int32) : Nat := x.toBitVec.toNat
theorem ze_e_eq (x : Int32) : nI (ze_e x) = x := by
  apply Int32.toBitVec_inj.mp
  rw [ze_bv]
  apply BitVec.eq_of_toNat_eq
  rw [BitVec.toNat_ofNat]
  have h := x.toBitVec.isLt
  unfold ze_e
  omega
theorem ze_nI_mod {a b : Nat} (h : a % 4294967296 = b % 4294967296) : nI a = nI b := by
  apply Int32.toBitVec_inj.mp
  rw [ze_bv, ze_bv]
  apply BitVec.eq_of_toNat_eq
  rw [BitVec.toNat_ofNat, BitVec.toNat_ofNat]
  exact h
theorem ze_unb {x : Int32} {b : Nat} (h : ze_b x = b) : nI ((b + 2147483648) % 4294967296) = x := by
  have h2 := x.toBitVec.isLt
  rw [← ze_e_eq x]
  apply ze_nI_mod
  rw [← h]
  unfold ze_b ze_e
  omega
noncomputable def ze_el (x : Int64) : Nat := x.toBitVec.toNat
theorem ze_el_eq (x : Int64) : lN (ze_el x) = x := by
  apply Int64.toBitVec_inj.mp
  have e : (lN (ze_el x)).toBitVec = BitVec.ofNat 64 (ze_el x) := rfl
  rw [e]
  apply BitVec.eq_of_toNat_eq
  rw [BitVec.toNat_ofNat]
  have h := x.toBitVec.isLt
  unfold ze_el
  omega
theorem ze_add (a b : Nat) : nI a + nI b = nI ((a + b) % 4294967296) := by
  rw [nI_add]
  exact ze_nI_mod (by omega)
theorem ze_sub (a b : Nat) : nI a - nI b = nI ((a + (4294967296 - b % 4294967296)) % 4294967296) := by
  have h : nI a = nI ((a + (4294967296 - b % 4294967296)) % 4294967296) + nI b := by
    rw [nI_add]
    apply ze_nI_mod
    have := Nat.mod_lt b (show 0 < 4294967296 by decide)
    omega
  rw [h]
  exact Int32.add_sub_cancel _ _
theorem ze_mul (a b : Nat) : nI a * nI b = nI ((a * b) % 4294967296) := by
  rw [pk_mul]
  exact ze_nI_mod (by omega)
/-- what a value of the engine stands for -/
noncomputable def ze_V (sp : Nat → Nat) (ρ : List Int32) (ad : List Nat) (v : EV) (x : Value) : Prop := match v with
  | .inl (.inl n) => x = .int (nI n)
  | .inl (.inr i) => ∃ z, ρ[i]? = some z ∧ x = .int z
  | .inr (.inl (.inl k)) => ∃ a, ad[k]? = some a ∧ x = .ref a
  | .inr (.inl (.inr (.inl n))) => x = .long (lN n)
  | .inr (.inl (.inr (.inr i))) => ∃ z, ρ[i]? = some z ∧ x = .long z.toInt64
  | .inr (.inr 0) => x = .null
  | .inr (.inr 1) => False
  | .inr (.inr (k + 2)) => x = .ref (sp k)
theorem ze_pre {α : Type} {l l' : List α} (h : l <+: l') {i : Nat} {a : α} (hi : l[i]? = some a) : l'[i]? = some a := by
  obtain ⟨t, rfl⟩ := h
  rw [List.getElem?_append_left (List.getElem?_eq_some_iff.mp hi).1]
  exact hi
theorem ze_V.mono {sp : Nat → Nat} {ρ ρ' : List Int32} {ad ad' : List Nat} (h1 : ρ <+: ρ') (h2 : ad <+: ad') {v : EV} {x : Value} (h : ze_V sp ρ ad v x) : ze_V sp ρ' ad' v x := by
  match v, h with
  | .inl (.inl n), h => exact h
  | .inl (.inr i), ⟨z, a, b⟩ => exact ⟨z, ze_pre h1 a, b⟩
  | .inr (.inl (.inl k)), ⟨z, a, b⟩ => exact ⟨z, ze_pre h2 a, b⟩
  | .inr (.inl (.inr (.inl n))), h => exact h
  | .inr (.inl (.inr (.inr i))), ⟨z, a, b⟩ => exact ⟨z, ze_pre h1 a, b⟩
  | .inr (.inr 0), h => exact h
  | .inr (.inr (k + 2)), h => exact h
noncomputable def ze_L (sp : Nat → Nat) (ρ : List Int32) (ad : List Nat) : List EV → List Value → Prop
  | [], [] => True
  | v :: l, x :: xs => ze_V sp ρ ad v x ∧ ze_L sp ρ ad l xs
  | [], _ :: _ => False
  | _ :: _, [] => False
theorem ze_L.mono {sp : Nat → Nat} {ρ ρ' : List Int32} {ad ad' : List Nat} (h1 : ρ <+: ρ') (h2 : ad <+: ad') : ∀ {l : List EV} {xs : List Value}, ze_L sp ρ ad l xs → ze_L sp ρ' ad' l xs := by
  intro l
  induction l with
  | nil =>
    intro xs h
    cases xs with
    | nil => trivial
    | cons x xs => exact h
  | cons v l ih =>
    intro xs h
    cases xs with
    | nil => exact h
    | cons x xs => exact ⟨h.1.mono h1 h2, ih h.2⟩
theorem ze_L.cons {sp : Nat → Nat} {ρ : List Int32} {ad : List Nat} {v : EV} {l : List EV} {xs : List Value} (h : ze_L sp ρ ad (v :: l) xs) : ∃ y ys, xs = y :: ys ∧ ze_V sp ρ ad v y ∧ ze_L sp ρ ad l ys := by
  cases xs with
  | nil => exact absurd h (fun q => q)
  | cons y ys => exact ⟨y, ys, rfl, h.1, h.2⟩
theorem ze_L.nil {sp : Nat → Nat} {ρ : List Int32} {ad : List Nat} {xs : List Value} (h : ze_L sp ρ ad [] xs) : xs = [] := by
  cases xs with
  | nil => rfl
  | cons y ys => exact absurd h (fun q => q)
theorem ze_L.get {sp : Nat → Nat} {ρ : List Int32} {ad : List Nat} : ∀ {l : List EV} {xs : List Value}, ze_L sp ρ ad l xs → ∀ {i : Nat} {v : EV}, l[i]? = some v → ∃ x, xs[i]? = some x ∧ ze_V sp ρ ad v x := by
  intro l
  induction l with
  | nil => intro xs _ i v h; simp at h
  | cons u l ih =>
    intro xs h i v hi
    obtain ⟨y, ys, rfl, h1, h2⟩ := h.cons
    cases i with
    | zero => simp at hi; subst hi; exact ⟨y, rfl, h1⟩
    | succ j => exact ih h2 (by simpa using hi)
theorem ze_L.set {sp : Nat → Nat} {ρ : List Int32} {ad : List Nat} {v : EV} {x : Value} (hv : ze_V sp ρ ad v x) : ∀ {l : List EV} {xs : List Value}, ze_L sp ρ ad l xs → ∀ (i : Nat), ze_L sp ρ ad (l.set i v) (xs.set i x) := by
  intro l
  induction l with
  | nil =>
    intro xs h i
    rw [h.nil]
    trivial
  | cons u l ih =>
    intro xs h i
    obtain ⟨y, ys, rfl, h1, h2⟩ := h.cons
    cases i with
    | zero => exact ⟨hv, h2⟩
    | succ j => exact ⟨h1, ih h2 j⟩
theorem ze_L.len {sp : Nat → Nat} {ρ : List Int32} {ad : List Nat} : ∀ {l : List EV} {xs : List Value}, ze_L sp ρ ad l xs → l.length = xs.length := by
  intro l
  induction l with
  | nil => intro xs h; rw [h.nil]; rfl
  | cons u l ih =>
    intro xs h
    obtain ⟨y, ys, rfl, h1, h2⟩ := h.cons
    simp [ih h2]
/-- the intervals hold of the unknowns -/
noncomputable def ze_G (g : EG) (ρ : List Int32) : Prop := g.length = ρ.length ∧ ∀ (i : Nat) (p : Nat × Nat) (x : Int32), g[i]? = some p → ρ[i]? = some x → p.1 ≤ ze_b x ∧ ze_b x ≤ p.2
theorem ze_G.push {g : EG} {ρ : List Int32} (h : ze_G g ρ) {p : Nat × Nat} {x : Int32} (h1 : p.1 ≤ ze_b x) (h2 : ze_b x ≤ p.2) : ze_G (g ++ [p]) (ρ ++ [x]) := by
  refine ⟨by simp [h.1], fun i q y hq hy => ?_⟩
  by_cases hi : i < g.length
  · rw [List.getElem?_append_left hi] at hq
    rw [List.getElem?_append_left (by rw [← h.1]; exact hi)] at hy
    exact h.2 i q y hq hy
  · rw [List.getElem?_append_right (by omega)] at hq
    rw [List.getElem?_append_right (by rw [← h.1]; omega)] at hy
    by_cases hz : i - g.length = 0
    · rw [hz] at hq
      rw [show i - ρ.length = 0 by rw [← h.1]; exact hz] at hy
      simp at hq hy
      subst hq; subst hy
      exact ⟨h1, h2⟩
    · obtain ⟨j, hj⟩ : ∃ j, i - g.length = j + 1 := ⟨i - g.length - 1, by omega⟩
      rw [hj] at hq
      simp at hq
theorem ze_G.new {g : EG} {ρ : List Int32} (h : ze_G g ρ) (x : Int32) : (ρ ++ [x])[g.length]? = some x := by
  rw [h.1]
  simp
theorem ze_G.set {g : EG} {ρ : List Int32} (h : ze_G g ρ) {i : Nat} {p : Nat × Nat} {x : Int32} (hx : ρ[i]? = some x) (h1 : p.1 ≤ ze_b x) (h2 : ze_b x ≤ p.2) : ze_G (ze_s p g i) ρ := by
  rw [ze_s_eq]
  refine ⟨by simp [h.1], fun j q y hq hy => ?_⟩
  by_cases hj : i = j
  · subst hj
    rw [hx] at hy
    cases hy
    by_cases hl : i < g.length
    · rw [List.getElem?_set_self hl] at hq
      cases hq
      exact ⟨h1, h2⟩
    · rw [List.getElem?_eq_none (by rw [List.length_set]; omega)] at hq
      cases hq
  · rw [List.getElem?_set_ne hj] at hq
    exact h.2 j q y hq hy
/-- an int of the engine: a number, or an unknown that isn't settled -/
noncomputable def ze_rs (g : EG) (v : EV) (fc fu : Nat → Bool) : Bool := zv_i v (fun u => zv_s u fc (fun i => ze_n g i (fun p => zcd (Nat.beq p.1 p.2) (ze_f (Nat.mod (Nat.add p.1 2147483648) 4294967296) fc) (fu i))))
theorem ze_rs_spec {sp : Nat → Nat} {g : EG} {ρ : List Int32} {ad : List Nat} {v : EV} {fc fu : Nat → Bool} {X : Value} (h : ze_rs g v fc fu = true) (hG : ze_G g ρ) (hv : ze_V sp ρ ad v X) :
    ∃ x, X = .int x ∧ ((∃ n, x = nI n ∧ fc n = true) ∨ ∃ i, v = eU i ∧ ρ[i]? = some x ∧ fu i = true) := by
  match v, h, hv with
  | .inl (.inl n), h, hv => exact ⟨nI n, hv, Or.inl ⟨n, rfl, h⟩⟩
  | .inl (.inr i), h, ⟨z, hz, e⟩ =>
    refine ⟨z, e, ?_⟩
    obtain ⟨p, hp, h2⟩ := ze_n_spec _ _ _ h
    rcases ze_cond h2 with ⟨h3, h4⟩ | ⟨_, h4⟩
    · rw [ze_f_eq] at h4
      have hb := hG.2 i p z hp hz
      have e2 := ze_beq h3
      exact Or.inl ⟨_, (ze_unb (x := z) (b := p.1) (by omega)).symm, h4⟩
    · exact Or.inr ⟨i, rfl, hz, h4⟩
noncomputable def ze_z (n : Nat) : Nat := Nat.mod (Nat.add n 2147483648) 4294967296
theorem ze_z_eq (n : Nat) : ze_z n = ze_b (nI n) := by rw [ze_b_nI]; rfl
noncomputable def ze_mx (a b : Nat) : Nat := zcd (Nat.ble a b) b a
noncomputable def ze_mn (a b : Nat) : Nat := zcd (Nat.ble a b) a b
theorem ze_mx_le {a b c : Nat} (h1 : a ≤ c) (h2 : b ≤ c) : ze_mx a b ≤ c := by
  unfold ze_mx
  cases Nat.ble a b <;> assumption
theorem ze_mn_le {a b c : Nat} (h1 : c ≤ a) (h2 : c ≤ b) : c ≤ ze_mn a b := by
  unfold ze_mn
  cases Nat.ble a b <;> assumption
noncomputable def ze_lt (g : EG) (v1 v2 : EV) (kt kf : EG → Bool) : Bool :=
  ze_rs g v1 (fun x => ze_rs g v2 (fun y => zcd (Nat.ble (Nat.succ (ze_z x)) (ze_z y)) (kt g) (kf g))
      (fun j => ze_n g j (fun p => zcd (zcd (Nat.ble (Nat.succ (ze_z x)) p.2) (kt (ze_s (ze_mx p.1 (Nat.succ (ze_z x)), p.2) g j)) true) (zcd (Nat.ble p.1 (ze_z x)) (kf (ze_s (p.1, ze_mn p.2 (ze_z x)) g j)) true) false)))
    (fun i => ze_rs g v2 (fun y => ze_n g i (fun p => zcd (zcd (Nat.ble (Nat.succ p.1) (ze_z y)) (kt (ze_s (p.1, ze_mn p.2 (Nat.pred (ze_z y))) g i)) true) (zcd (Nat.ble (ze_z y) p.2) (kf (ze_s (ze_mx p.1 (ze_z y), p.2) g i)) true) false))
      (fun j => ze_n g i (fun p => ze_n g j (fun q => zcd (zcd (Nat.ble (Nat.succ p.1) q.2) (kt (ze_s (ze_mx q.1 (Nat.succ p.1), q.2) (ze_s (p.1, ze_mn p.2 (Nat.pred q.2)) g i) j)) true) (zcd (Nat.ble q.1 p.2) (kf (ze_s (q.1, ze_mn q.2 p.2) (ze_s (ze_mx p.1 q.1, p.2) g i) j)) true) false))))
theorem ze_ble {a b : Nat} (h : a ≤ b) : Nat.ble a b = true := Nat.ble_eq_true_of_le h
theorem ze_ble' {a b : Nat} (h : Nat.ble a b = true) : a ≤ b := Nat.le_of_ble_eq_true h
theorem ze_nble {a b : Nat} (h : Nat.ble a b = false) : b < a := by
  rcases Nat.lt_or_ge b a with q | q
  · exact q
  · rw [ze_ble q] at h; cases h
theorem ze_lt_spec {sp : Nat → Nat} {g : EG} {ρ : List Int32} {ad : List Nat} {v1 v2 : EV} {kt kf : EG → Bool} {X Y : Value} (h : ze_lt g v1 v2 kt kf = true) (hG : ze_G g ρ) (h1 : ze_V sp ρ ad v1 X) (h2 : ze_V sp ρ ad v2 Y) :
    ∃ x y, X = .int x ∧ Y = .int y ∧ (x < y → ∃ g', ze_G g' ρ ∧ kt g' = true) ∧ (¬ x < y → ∃ g', ze_G g' ρ ∧ kf g' = true) := by
  obtain ⟨x, ex, hx⟩ := ze_rs_spec h hG h1
  rcases hx with ⟨a, ea, hx⟩ | ⟨i, ei, hi, hx⟩
  · obtain ⟨y, ey, hy⟩ := ze_rs_spec hx hG h2
    refine ⟨x, y, ex, ey, ?_⟩
    rcases hy with ⟨b, eb, hy⟩ | ⟨j, ej, hj, hy⟩
    · rw [ze_z_eq, ze_z_eq, ← ea, ← eb] at hy
      rcases ze_cond hy with ⟨q1, q2⟩ | ⟨q1, q2⟩
      · have q3 := ze_ble' q1
        exact ⟨fun _ => ⟨g, hG, q2⟩, fun n => absurd (ze_b_lt.mpr q3) n⟩
      · have q3 := ze_nble q1
        exact ⟨fun n => absurd (ze_b_lt.mp n) (by omega), fun _ => ⟨g, hG, q2⟩⟩
    · obtain ⟨p, hp, hq⟩ := ze_n_spec _ _ _ hy
      obtain ⟨q1, q2⟩ := ze_and hq
      rw [ze_z_eq, ← ea] at q1 q2
      have hb := hG.2 j p y hp hj
      refine ⟨fun n => ⟨_, ?_, ze_condt q1 (ze_ble ?_)⟩, fun n => ⟨_, ?_, ze_condt q2 (ze_ble ?_)⟩⟩
      · have n := ze_b_lt.mp n
        exact hG.set hj (ze_mx_le hb.1 n) hb.2
      · have n := ze_b_lt.mp n
        omega
      · have n : ¬ ze_b x < ze_b y := fun q => n (ze_b_lt.mpr q)
        exact hG.set hj hb.1 (ze_mn_le hb.2 (by omega))
      · have n : ¬ ze_b x < ze_b y := fun q => n (ze_b_lt.mpr q)
        omega
  · obtain ⟨y, ey, hy⟩ := ze_rs_spec hx hG h2
    refine ⟨x, y, ex, ey, ?_⟩
    rcases hy with ⟨b, eb, hy⟩ | ⟨j, ej, hj, hy⟩
    · obtain ⟨p, hp, hq⟩ := ze_n_spec _ _ _ hy
      obtain ⟨q1, q2⟩ := ze_and hq
      rw [ze_z_eq, ← eb] at q1 q2
      have hb := hG.2 i p x hp hi
      refine ⟨fun n => ⟨_, ?_, ze_condt q1 (ze_ble ?_)⟩, fun n => ⟨_, ?_, ze_condt q2 (ze_ble ?_)⟩⟩
      · have n := ze_b_lt.mp n
        exact hG.set hi hb.1 (ze_mn_le hb.2 (by rw [Nat.pred_eq_sub_one]; omega))
      · have n := ze_b_lt.mp n
        omega
      · have n : ¬ ze_b x < ze_b y := fun q => n (ze_b_lt.mpr q)
        exact hG.set hi (ze_mx_le hb.1 (by omega)) hb.2
      · have n : ¬ ze_b x < ze_b y := fun q => n (ze_b_lt.mpr q)
        omega
    · obtain ⟨p, hp, hy⟩ := ze_n_spec _ _ _ hy
      obtain ⟨q, hq, hy⟩ := ze_n_spec _ _ _ hy
      obtain ⟨q1, q2⟩ := ze_and hy
      have hb := hG.2 i p x hp hi
      have hc := hG.2 j q y hq hj
      refine ⟨fun n => ⟨_, ?_, ze_condt q1 (ze_ble ?_)⟩, fun n => ⟨_, ?_, ze_condt q2 (ze_ble ?_)⟩⟩
      · have n := ze_b_lt.mp n
        exact (hG.set (p := (p.1, ze_mn p.2 (Nat.pred q.2))) hi hb.1 (ze_mn_le hb.2 (by rw [Nat.pred_eq_sub_one]; omega))).set (p := (ze_mx q.1 (Nat.succ p.1), q.2)) hj (ze_mx_le hc.1 (by omega)) hc.2
      · have n := ze_b_lt.mp n
        omega
      · have n : ¬ ze_b x < ze_b y := fun q => n (ze_b_lt.mpr q)
        exact (hG.set (p := (ze_mx p.1 q.1, p.2)) hi (ze_mx_le hb.1 (by omega)) hb.2).set (p := (q.1, ze_mn q.2 p.2)) hj hc.1 (ze_mn_le hc.2 (by omega))
      · have n : ¬ ze_b x < ze_b y := fun q => n (ze_b_lt.mpr q)
        omega
/-- an unknown against a number: it is, it is less, it is more -/
noncomputable def ze_eu (g : EG) (i c : Nat) (kt kf : EG → Bool) : Bool := ze_n g i (fun p => zcd (zcd (Nat.ble p.1 c) (zcd (Nat.ble c p.2) (kt (ze_s (c, c) g i)) true) true)
  (zcd (zcd (Nat.ble (Nat.succ p.1) c) (kf (ze_s (p.1, ze_mn p.2 (Nat.pred c)) g i)) true) (zcd (Nat.ble (Nat.succ c) p.2) (kf (ze_s (ze_mx p.1 (Nat.succ c), p.2) g i)) true) false) false)
theorem ze_eu_spec {g : EG} {ρ : List Int32} {i c : Nat} {kt kf : EG → Bool} {x : Int32} (h : ze_eu g i c kt kf = true) (hG : ze_G g ρ) (hi : ρ[i]? = some x) : (ze_b x = c → ∃ g', ze_G g' ρ ∧ kt g' = true) ∧ (¬ ze_b x = c → ∃ g', ze_G g' ρ ∧ kf g' = true) := by
  obtain ⟨p, hp, hq⟩ := ze_n_spec _ _ _ h
  obtain ⟨q1, q2⟩ := ze_and hq
  obtain ⟨q2, q3⟩ := ze_and q2
  have hb := hG.2 i p x hp hi
  refine ⟨fun n => ?_, fun n => ?_⟩
  · have r1 := ze_condt q1 (ze_ble (by omega))
    have r2 := ze_condt r1 (ze_ble (by omega))
    exact ⟨_, hG.set hi (by omega) (by omega), r2⟩
  · rcases Nat.lt_or_ge (ze_b x) c with r | r
    · have r1 := ze_condt q2 (ze_ble (by omega))
      refine ⟨_, ?_, r1⟩
      exact hG.set hi hb.1 (ze_mn_le hb.2 (by rw [Nat.pred_eq_sub_one]; omega))
    · have r1 := ze_condt q3 (ze_ble (by omega))
      refine ⟨_, ?_, r1⟩
      exact hG.set hi (ze_mx_le hb.1 (by omega)) hb.2
/-- an int as a number: an unknown of few numbers is split -/
noncomputable def ze_sp (g : EG) (i : Nat) (f : Nat → EG → Bool) (n : Nat) : Nat → Bool := Nat.rec (motive := fun _ => Nat → Bool) (fun z => f (ze_z z) (ze_s (z, z) g i)) (fun _ ih z => zcd (f (ze_z z) (ze_s (z, z) g i)) (ih (Nat.succ z)) false) n
noncomputable def ze_ix (g : EG) (v : EV) (f : Nat → EG → Bool) : Bool := zv_i v (fun u => zv_s u (fun n => f n g) (fun i => ze_n g i (fun p => zcd (Nat.ble (Nat.sub p.2 p.1) 80) (ze_sp g i f (Nat.sub p.2 p.1) p.1) false)))
theorem ze_sp_spec {g : EG} {ρ : List Int32} {i : Nat} {f : Nat → EG → Bool} {x : Int32} (hG : ze_G g ρ) (hi : ρ[i]? = some x) : ∀ (n z : Nat), ze_sp g i f n z = true → z ≤ ze_b x → ze_b x ≤ z + n → ∃ m g', x = nI m ∧ ze_G g' ρ ∧ f m g' = true := by
  intro n
  induction n with
  | zero =>
    intro z h h1 h2
    have e : ze_b x = z := by omega
    exact ⟨_, _, (ze_unb e).symm, hG.set hi (by omega) (by omega), h⟩
  | succ n ih =>
    intro z h h1 h2
    obtain ⟨q1, q2⟩ := ze_and (show zcd (f (ze_z z) (ze_s (z, z) g i)) (ze_sp g i f n (Nat.succ z)) false = true from h)
    rcases Nat.lt_or_ge z (ze_b x) with r | r
    · exact ih (Nat.succ z) q2 (by omega) (by omega)
    · have e : ze_b x = z := by omega
      exact ⟨_, _, (ze_unb e).symm, hG.set hi (by omega) (by omega), q1⟩
theorem ze_ix_spec {sp : Nat → Nat} {g : EG} {ρ : List Int32} {ad : List Nat} {v : EV} {f : Nat → EG → Bool} {X : Value} (h : ze_ix g v f = true) (hG : ze_G g ρ) (hv : ze_V sp ρ ad v X) : ∃ n g', X = .int (nI n) ∧ ze_G g' ρ ∧ f n g' = true := by
  match v, h, hv with
  | .inl (.inl n), h, hv => exact ⟨n, g, hv, hG, h⟩
  | .inl (.inr i), h, ⟨z, hz, e⟩ =>
    obtain ⟨p, hp, h2⟩ := ze_n_spec _ _ _ h
    obtain ⟨h3, h4⟩ := ze_condf h2
    have hb := hG.2 i p z hp hz
    obtain ⟨m, g', q1, q2, q3⟩ := ze_sp_spec hG hz _ _ h4 hb.1 (by show ze_b z ≤ p.1 + (p.2 - p.1); omega)
    exact ⟨m, g', by rw [e, q1], q2, q3⟩
noncomputable def ze_eq (g : EG) (v1 v2 : EV) (kt kf : EG → Bool) : Bool :=
  ze_rs g v1 (fun x => ze_rs g v2 (fun y => zcd (Nat.beq (ze_z x) (ze_z y)) (kt g) (kf g)) (fun j => ze_eu g j (ze_z x) kt kf))
    (fun i => ze_rs g v2 (fun y => ze_eu g i (ze_z y) kt kf) (fun j => ze_n g i (fun p => ze_n g j (fun q => zcd (zcd (Nat.ble p.1 q.2) (zcd (Nat.ble q.1 p.2) (kt (ze_s (ze_mx q.1 p.1, ze_mn q.2 p.2) (ze_s (ze_mx p.1 q.1, ze_mn p.2 q.2) g i) j)) true) true) (kf g) false))))
theorem ze_nbeq {a b : Nat} (h : Nat.beq a b = false) : a ≠ b := Nat.ne_of_beq_eq_false h
theorem ze_eq_spec {sp : Nat → Nat} {g : EG} {ρ : List Int32} {ad : List Nat} {v1 v2 : EV} {kt kf : EG → Bool} {X Y : Value} (h : ze_eq g v1 v2 kt kf = true) (hG : ze_G g ρ) (h1 : ze_V sp ρ ad v1 X) (h2 : ze_V sp ρ ad v2 Y) :
    ∃ x y, X = .int x ∧ Y = .int y ∧ (x = y → ∃ g', ze_G g' ρ ∧ kt g' = true) ∧ (¬ x = y → ∃ g', ze_G g' ρ ∧ kf g' = true) := by
  obtain ⟨x, ex, hx⟩ := ze_rs_spec h hG h1
  rcases hx with ⟨a, ea, hx⟩ | ⟨i, ei, hi, hx⟩
  · obtain ⟨y, ey, hy⟩ := ze_rs_spec hx hG h2
    refine ⟨x, y, ex, ey, ?_⟩
    rcases hy with ⟨b, eb, hy⟩ | ⟨j, ej, hj, hy⟩
    · rw [ze_z_eq, ze_z_eq, ← ea, ← eb] at hy
      rcases ze_cond hy with ⟨q1, q2⟩ | ⟨q1, q2⟩
      · exact ⟨fun _ => ⟨g, hG, q2⟩, fun n => absurd (ze_b_eq.mpr (ze_beq q1)) n⟩
      · exact ⟨fun n => absurd (ze_b_eq.mp n) (ze_nbeq q1), fun _ => ⟨g, hG, q2⟩⟩
    · rw [ze_z_eq, ← ea] at hy
      have k := ze_eu_spec hy hG hj
      exact ⟨fun n => k.1 (by rw [n]), fun n => k.2 (fun q => n (ze_b_eq.mpr q.symm))⟩
  · obtain ⟨y, ey, hy⟩ := ze_rs_spec hx hG h2
    refine ⟨x, y, ex, ey, ?_⟩
    rcases hy with ⟨b, eb, hy⟩ | ⟨j, ej, hj, hy⟩
    · rw [ze_z_eq, ← eb] at hy
      have k := ze_eu_spec hy hG hi
      exact ⟨fun n => k.1 (by rw [n]), fun n => k.2 (fun q => n (ze_b_eq.mpr q))⟩
    · obtain ⟨p, hp, hy⟩ := ze_n_spec _ _ _ hy
      obtain ⟨q, hq, hy⟩ := ze_n_spec _ _ _ hy
      obtain ⟨q1, q2⟩ := ze_and hy
      have hb := hG.2 i p x hp hi
      have hc := hG.2 j q y hq hj
      refine ⟨fun n => ?_, fun _ => ⟨g, hG, q2⟩⟩
      have n := ze_b_eq.mp n
      have r1 := ze_condt q1 (ze_ble (by omega))
      have r2 := ze_condt r1 (ze_ble (by omega))
      exact ⟨_, (hG.set (p := (ze_mx p.1 q.1, ze_mn p.2 q.2)) hi (ze_mx_le hb.1 (by omega)) (ze_mn_le hb.2 (by omega))).set (p := (ze_mx q.1 p.1, ze_mn q.2 p.2)) hj (ze_mx_le hc.1 (by omega)) (ze_mn_le hc.2 (by omega)), r2⟩

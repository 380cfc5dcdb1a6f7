/-! THE ENGINE, part 7: intervals of results, compares of longs, copies, switches -/
theorem zi_iv {sp : Nat → Nat} {g : EG} {ρ : List Int32} {ad : List Nat} {v : EV} {x : Int32} (hG : ze_G g ρ) (hv : ze_V sp ρ ad v (.int x)) : (zo_iv g v).1 ≤ ze_b x ∧ ze_b x ≤ (zo_iv g v).2 := by
  match v, hv with
  | .inl (.inl n), hv =>
    have e : x = nI n := Value.int.inj hv
    have e2 : zo_iv g (.inl (.inl n)) = (ze_z n, ze_z n) := rfl
    rw [e, e2, ze_z_eq]
    exact ⟨Nat.le_refl _, Nat.le_refl _⟩
  | .inl (.inr i), ⟨z, hz, e⟩ =>
    have e : x = z := Value.int.inj e
    subst e
    show (zo_gd g i (0, 4294967295)).1 ≤ _ ∧ _ ≤ (zo_gd g i (0, 4294967295)).2
    rw [zo_gd_eq, List.getD_eq_getElem?_getD]
    cases h : g[i]? with
    | none => exact ⟨Nat.zero_le _, ze_b_top x⟩
    | some p => exact hG.2 i p x h hz
  | .inr u, hv => exact ⟨Nat.zero_le _, ze_b_top x⟩
theorem zi_c {sp : Nat → Nat} {ρ : List Int32} {ad : List Nat} {m : Nat} {y : Int32} (hv : ze_V sp ρ ad (.inl (.inl m)) (.int y)) : y = nI m := Value.int.inj hv
theorem zi_and {sp : Nat → Nat} {g : EG} {ρ : List Int32} {ad : List Nat} (v1 v2 : EV) (x y : Int32) (h1 : ze_V sp ρ ad v1 (.int x)) (h2 : ze_V sp ρ ad v2 (.int y)) : (zo_bnd g v1 v2).1 ≤ ze_b (x &&& y) ∧ ze_b (x &&& y) ≤ (zo_bnd g v1 v2).2 := by
  unfold zo_bnd
  split
  · rename_i m
    have e := zi_c h2
    cases hc : Nat.ble m 2147483647 with
    | false => exact ⟨Nat.zero_le _, ze_b_top _⟩
    | true =>
      have hm := ze_ble' hc
      have ht : (x &&& y).toBitVec.toNat ≤ m := by
        have e2 : (x &&& y).toBitVec = x.toBitVec &&& y.toBitVec := rfl
        rw [e2, BitVec.toNat_and, e, ze_tn]
        exact Nat.le_trans Nat.and_le_right (Nat.mod_le _ _)
      show 2147483648 ≤ ze_b (x &&& y) ∧ ze_b (x &&& y) ≤ 2147483648 + m
      unfold ze_b
      omega
  · exact ⟨Nat.zero_le _, ze_b_top _⟩
theorem zi_nn {x : Int32} (h : 2147483648 ≤ ze_b x) : x = nI (ze_b x - 2147483648) ∧ ze_b x - 2147483648 < 2147483648 := by
  have h2 := ze_b_top x
  refine ⟨?_, by omega⟩
  have h3 := ze_unb (x := x) (b := ze_b x) rfl
  have h4 : (ze_b x + 2147483648) % 4294967296 = ze_b x - 2147483648 := by omega
  rw [h4] at h3
  exact h3.symm
theorem zi_rem {sp : Nat → Nat} {g : EG} {ρ : List Int32} {ad : List Nat} (hG : ze_G g ρ) (v1 v2 : EV) (x y : Int32) (h1 : ze_V sp ρ ad v1 (.int x)) (h2 : ze_V sp ρ ad v2 (.int y)) : (zo_brem g v1 v2).1 ≤ ze_b (x - x / y * y) ∧ ze_b (x - x / y * y) ≤ (zo_brem g v1 v2).2 := by
  unfold zo_brem
  cases hc : (zcd (Nat.ble 2147483649 (zo_iv g v2).1) (Nat.ble 2147483648 (zo_iv g v1).1) false) with
  | false => exact ⟨Nat.zero_le _, ze_b_top _⟩
  | true =>
    obtain ⟨c1, c2⟩ := ze_condf hc
    have c1 := ze_ble' c1
    have c2 := ze_ble' c2
    have a1 := zi_iv hG h1
    have a2 := zi_iv hG h2
    obtain ⟨e1, e2⟩ := zi_nn (x := x) (by omega)
    obtain ⟨e3, e4⟩ := zi_nn (x := y) (by omega)
    have hp : 0 < ze_b y - 2147483648 := by omega
    have hu : ze_b y - 2147483648 + 2147483648 ≤ (zo_iv g v2).2 := by omega
    generalize ze_b x - 2147483648 = a at e1 e2
    generalize ze_b y - 2147483648 = b at e3 e4 hp hu
    have hr : x - x / y * y = nI (a % b) := by
      rw [e1, e3]
      exact pk_rem e2 hp e4
    rw [hr, ze_b_nI]
    have hl := Nat.mod_lt a hp
    generalize a % b = t at hl
    show 2147483648 ≤ _ ∧ _ ≤ Nat.pred (zo_iv g v2).2
    rw [Nat.pred_eq_sub_one]
    omega
theorem zi_div {sp : Nat → Nat} {g : EG} {ρ : List Int32} {ad : List Nat} (hG : ze_G g ρ) (v1 v2 : EV) (x y : Int32) (h1 : ze_V sp ρ ad v1 (.int x)) (h2 : ze_V sp ρ ad v2 (.int y)) : (zo_bdiv g v1 v2).1 ≤ ze_b (x / y) ∧ ze_b (x / y) ≤ (zo_bdiv g v1 v2).2 := by
  unfold zo_bdiv
  split
  · rename_i m
    have e := zi_c h2
    cases hc : (zcd (Nat.ble 1 m) (zcd (Nat.ble m 1073741824) (Nat.ble 2147483648 (zo_iv g v1).1) false) false) with
    | false => exact ⟨Nat.zero_le _, ze_b_top _⟩
    | true =>
      obtain ⟨c1, hc⟩ := ze_condf hc
      obtain ⟨c2, c3⟩ := ze_condf hc
      have c1 := ze_ble' c1
      have c2 := ze_ble' c2
      have c3 := ze_ble' c3
      have a1 := zi_iv hG h1
      obtain ⟨e1, e2⟩ := zi_nn (x := x) (by omega)
      have h9 : ((zo_iv g v1).1 - 2147483648) / m ≤ (ze_b x - 2147483648) / m := Nat.div_le_div_right (by omega)
      have h7 : (ze_b x - 2147483648) / m ≤ ((zo_iv g v1).2 - 2147483648) / m := Nat.div_le_div_right (by omega)
      have h8 : (ze_b x - 2147483648) / m ≤ ze_b x - 2147483648 := Nat.div_le_self _ _
      have hr : x / y = nI ((ze_b x - 2147483648) / m) := by
        generalize ze_b x - 2147483648 = a at e1 e2
        rw [e1, e]
        exact pk_div e2 (by omega) (by omega)
      obtain ⟨t, ht⟩ : ∃ t, (ze_b x - 2147483648) / m = t := ⟨_, rfl⟩
      obtain ⟨t1, ht1⟩ : ∃ t, ((zo_iv g v1).1 - 2147483648) / m = t := ⟨_, rfl⟩
      obtain ⟨t2, ht2⟩ : ∃ t, ((zo_iv g v1).2 - 2147483648) / m = t := ⟨_, rfl⟩
      rw [ht] at h7 h8 h9 hr
      rw [ht2] at h7
      rw [ht1] at h9
      rw [hr, ze_b_nI]
      show 2147483648 + ((zo_iv g v1).1 - 2147483648) / m ≤ _ ∧ _ ≤ 2147483648 + ((zo_iv g v1).2 - 2147483648) / m
      rw [ht1, ht2]
      omega
  · exact ⟨Nat.zero_le _, ze_b_top _⟩
theorem zi_1shl : ∀ t, t < 31 → ze_b (nI 1 <<< (nI t &&& 31)) = 2147483648 + 2 ^ t := by decide +kernel
theorem zi_shl {sp : Nat → Nat} {g : EG} {ρ : List Int32} {ad : List Nat} (hG : ze_G g ρ) (v1 v2 : EV) (x y : Int32) (h1 : ze_V sp ρ ad v1 (.int x)) (h2 : ze_V sp ρ ad v2 (.int y)) : (zo_bshl g v1 v2).1 ≤ ze_b (x <<< (y &&& 31)) ∧ ze_b (x <<< (y &&& 31)) ≤ (zo_bshl g v1 v2).2 := by
  unfold zo_bshl
  split
  · rename_i m
    have e := zi_c h1
    cases hm : Nat.beq m 1 with
    | false => exact ⟨Nat.zero_le _, ze_b_top _⟩
    | true =>
      have hm := ze_beq hm
      cases hc : (zcd (Nat.ble 2147483648 (zo_iv g v2).1) (Nat.ble (zo_iv g v2).2 2147483678) false) with
      | false => exact ⟨Nat.zero_le _, ze_b_top _⟩
      | true =>
        obtain ⟨c1, c2⟩ := ze_condf hc
        have c1 := ze_ble' c1
        have c2 := ze_ble' c2
        have a2 := zi_iv hG h2
        obtain ⟨e3, e4⟩ := zi_nn (x := y) (by omega)
        simp only [zcd]
        rw [zo_p2_eq, zo_p2_eq]
        generalize (zo_iv g v2).1 = L at a2 c1
        generalize (zo_iv g v2).2 = U at a2 c2
        have hk : ze_b y - 2147483648 < 31 := by omega
        have hl : L - 2147483648 ≤ ze_b y - 2147483648 := Nat.sub_le_sub_right a2.1 _
        have hu : ze_b y - 2147483648 ≤ U - 2147483648 := Nat.sub_le_sub_right a2.2 _
        obtain ⟨t, ht⟩ : ∃ t, ze_b y - 2147483648 = t := ⟨_, rfl⟩
        rw [ht] at e3 hk hl hu
        have hr : ze_b (x <<< (y &&& 31)) = 2147483648 + 2 ^ t := by
          rw [e, hm, e3]
          exact zi_1shl t hk
        rw [hr]
        exact ⟨Nat.add_le_add_left (Nat.pow_le_pow_right (by decide) hl) _, Nat.add_le_add_left (Nat.pow_le_pow_right (by decide) hu) _⟩
  · exact ⟨Nat.zero_le _, ze_b_top _⟩
theorem zi_ush {sp : Nat → Nat} {g : EG} {ρ : List Int32} {ad : List Nat} (v1 v2 : EV) (x y : Int32) (h1 : ze_V sp ρ ad v1 (.int x)) (h2 : ze_V sp ρ ad v2 (.int y)) : (zo_bush g v1 v2).1 ≤ ze_b ((x.toUInt32 >>> (y.toUInt32 &&& Int32.toUInt32 31)).toInt32) ∧ ze_b ((x.toUInt32 >>> (y.toUInt32 &&& Int32.toUInt32 31)).toInt32) ≤ (zo_bush g v1 v2).2 := by
  unfold zo_bush
  split
  · rename_i m
    have e := zi_c h2
    cases hc : Nat.beq m 16 with
    | false => exact ⟨Nat.zero_le _, ze_b_top _⟩
    | true =>
      have hm := ze_beq hc
      rw [e, hm]
      have h := pk_ushr x (nI 16) 16 (by decide +kernel)
      have hl := x.toBitVec.isLt
      show 2147483648 ≤ ze_b _ ∧ ze_b _ ≤ 2147549183
      unfold ze_b
      rw [h]
      omega
  · exact ⟨Nat.zero_le _, ze_b_top _⟩
theorem zi_add {sp : Nat → Nat} {g : EG} {ρ : List Int32} {ad : List Nat} (hG : ze_G g ρ) (v1 v2 : EV) (x y : Int32) (h1 : ze_V sp ρ ad v1 (.int x)) (h2 : ze_V sp ρ ad v2 (.int y)) : (zo_badd g v1 v2).1 ≤ ze_b (x + y) ∧ ze_b (x + y) ≤ (zo_badd g v1 v2).2 := by
  unfold zo_badd
  cases hc : (zcd (Nat.ble 2147483648 (Nat.add (zo_iv g v1).1 (zo_iv g v2).1)) (Nat.ble (Nat.add (zo_iv g v1).2 (zo_iv g v2).2) 6442450943) false) with
  | false => exact ⟨Nat.zero_le _, ze_b_top _⟩
  | true =>
    obtain ⟨c1, c2⟩ := ze_condf hc
    have c1 : 2147483648 ≤ (zo_iv g v1).1 + (zo_iv g v2).1 := ze_ble' c1
    have c2 : (zo_iv g v1).2 + (zo_iv g v2).2 ≤ 6442450943 := ze_ble' c2
    have a1 := zi_iv hG h1
    have a2 := zi_iv hG h2
    have hx : ze_b x = (x.toBitVec.toNat + 2147483648) % 4294967296 := rfl
    have hy : ze_b y = (y.toBitVec.toNat + 2147483648) % 4294967296 := rfl
    have hz : ze_b (x + y) = ((x + y).toBitVec.toNat + 2147483648) % 4294967296 := rfl
    have lx := x.toBitVec.isLt
    have ly := y.toBitVec.isLt
    have ht : (x + y).toBitVec.toNat = (x.toBitVec.toNat + y.toBitVec.toNat) % 4294967296 := by
      have e2 : (x + y).toBitVec = x.toBitVec + y.toBitVec := rfl
      rw [e2, BitVec.toNat_add]
    show (zo_iv g v1).1 + (zo_iv g v2).1 - 2147483648 ≤ ze_b (x + y) ∧ ze_b (x + y) ≤ (zo_iv g v1).2 + (zo_iv g v2).2 - 2147483648
    omega
theorem zi_sb {sp : Nat → Nat} {g : EG} {ρ : List Int32} {ad : List Nat} (hG : ze_G g ρ) (v1 v2 : EV) (x y : Int32) (h1 : ze_V sp ρ ad v1 (.int x)) (h2 : ze_V sp ρ ad v2 (.int y)) : (zo_bsb g v1 v2).1 ≤ ze_b (x - y) ∧ ze_b (x - y) ≤ (zo_bsb g v1 v2).2 := by
  unfold zo_bsb
  cases hc : (zcd (Nat.ble (zo_iv g v2).2 (Nat.add (zo_iv g v1).1 2147483648)) (Nat.ble (Nat.add (zo_iv g v1).2 2147483648) (Nat.add (zo_iv g v2).1 4294967295)) false) with
  | false => exact ⟨Nat.zero_le _, ze_b_top _⟩
  | true =>
    obtain ⟨c1, c2⟩ := ze_condf hc
    have c1 : (zo_iv g v2).2 ≤ (zo_iv g v1).1 + 2147483648 := ze_ble' c1
    have c2 : (zo_iv g v1).2 + 2147483648 ≤ (zo_iv g v2).1 + 4294967295 := ze_ble' c2
    have a1 := zi_iv hG h1
    have a2 := zi_iv hG h2
    have hx : ze_b x = (x.toBitVec.toNat + 2147483648) % 4294967296 := rfl
    have hy : ze_b y = (y.toBitVec.toNat + 2147483648) % 4294967296 := rfl
    have hz : ze_b (x - y) = ((x - y).toBitVec.toNat + 2147483648) % 4294967296 := rfl
    have lx := x.toBitVec.isLt
    have ly := y.toBitVec.isLt
    have ht : (x - y).toBitVec.toNat = (4294967296 - y.toBitVec.toNat + x.toBitVec.toNat) % 4294967296 := by
      have e2 : (x - y).toBitVec = x.toBitVec - y.toBitVec := rfl
      rw [e2, BitVec.toNat_sub]
    show (zo_iv g v1).1 + 2147483648 - (zo_iv g v2).2 ≤ ze_b (x - y) ∧ ze_b (x - y) ≤ (zo_iv g v1).2 + 2147483648 - (zo_iv g v2).1
    omega
theorem zi_ml {sp : Nat → Nat} {g : EG} {ρ : List Int32} {ad : List Nat} (hG : ze_G g ρ) (v1 v2 : EV) (x y : Int32) (h1 : ze_V sp ρ ad v1 (.int x)) (h2 : ze_V sp ρ ad v2 (.int y)) : (zo_bml g v1 v2).1 ≤ ze_b (x * y) ∧ ze_b (x * y) ≤ (zo_bml g v1 v2).2 := by
  unfold zo_bml
  cases hc : (zcd (Nat.ble 2147483648 (zo_iv g v1).1) (zcd (Nat.ble 2147483648 (zo_iv g v2).1) (Nat.ble (Nat.mul (Nat.sub (zo_iv g v1).2 2147483648) (Nat.sub (zo_iv g v2).2 2147483648)) 2147483647) false) false) with
  | false => exact ⟨Nat.zero_le _, ze_b_top _⟩
  | true =>
    obtain ⟨c1, hc⟩ := ze_condf hc
    obtain ⟨c2, c3⟩ := ze_condf hc
    have c1 := ze_ble' c1
    have c2 := ze_ble' c2
    have c3 : ((zo_iv g v1).2 - 2147483648) * ((zo_iv g v2).2 - 2147483648) ≤ 2147483647 := ze_ble' c3
    have a1 := zi_iv hG h1
    have a2 := zi_iv hG h2
    have hx : ze_b x = (x.toBitVec.toNat + 2147483648) % 4294967296 := rfl
    have hy : ze_b y = (y.toBitVec.toNat + 2147483648) % 4294967296 := rfl
    have hz : ze_b (x * y) = ((x * y).toBitVec.toNat + 2147483648) % 4294967296 := rfl
    have lx := x.toBitVec.isLt
    have ly := y.toBitVec.isLt
    have ht : (x * y).toBitVec.toNat = (x.toBitVec.toNat * y.toBitVec.toNat) % 4294967296 := by
      have e2 : (x * y).toBitVec = x.toBitVec * y.toBitVec := rfl
      rw [e2, BitVec.toNat_mul]
    have k1 : x.toBitVec.toNat ≤ (zo_iv g v1).2 - 2147483648 := by omega
    have k2 : y.toBitVec.toNat ≤ (zo_iv g v2).2 - 2147483648 := by omega
    have k3 := Nat.mul_le_mul k1 k2
    show 2147483648 ≤ ze_b (x * y) ∧ ze_b (x * y) ≤ 2147483648 + ((zo_iv g v1).2 - 2147483648) * ((zo_iv g v2).2 - 2147483648)
    generalize x.toBitVec.toNat * y.toBitVec.toNat = P at ht k3
    generalize ((zo_iv g v1).2 - 2147483648) * ((zo_iv g v2).2 - 2147483648) = M at c3 k3 ⊢
    omega
theorem zi_shr {sp : Nat → Nat} {g : EG} {ρ : List Int32} {ad : List Nat} (v1 v2 : EV) (x y : Int32) (h1 : ze_V sp ρ ad v1 (.int x)) (h2 : ze_V sp ρ ad v2 (.int y)) : (zo_bshr g v1 v2).1 ≤ ze_b (x >>> (y &&& 31)) ∧ ze_b (x >>> (y &&& 31)) ≤ (zo_bshr g v1 v2).2 := by
  unfold zo_bshr
  split
  · have e := zi_c h1
    have h := pk_shr x (y &&& 31) _ rfl
    have h0 : x.toInt = 0 := by rw [e, nI_0]; rfl
    rw [h0, Int.zero_shiftRight] at h
    have hb := ze_b_int (x >>> (y &&& 31))
    rw [h] at hb
    show 2147483648 ≤ _ ∧ _ ≤ 2147483648
    omega
  · exact ⟨Nat.zero_le _, ze_b_top _⟩
/-- a long that is an int -/
theorem zi_long (n : Nat) (h : (n + 2147483648) % 18446744073709551616 ≤ 4294967295) : lN n = (nI (n % 4294967296)).toInt64 := by
  apply Int64.toInt_inj.mp
  rw [Int32.toInt_toInt64]
  have e1 : (lN n).toInt = (BitVec.ofNat 64 n).toInt := rfl
  have e2 : (nI (n % 4294967296)).toInt = (BitVec.ofNat 32 (n % 4294967296)).toInt := rfl
  rw [e1, e2, BitVec.toInt_eq_toNat_cond, BitVec.toInt_eq_toNat_cond, BitVec.toNat_ofNat, BitVec.toNat_ofNat]
  split <;> split <;> omega
theorem zi_li {sp : Nat → Nat} {ρ : List Int32} {ad : List Nat} {ck : Nat → Bool} {cv : Nat → Nat} {v : Nat ⊕ Nat} {f : EV → Bool} {d : Bool} {X : Value} (hck : ∀ n, ck n = true → lN n = (nI (cv n)).toInt64) (h : ze_li ck cv v f d = true) (hv : ze_V sp ρ ad (.inr (.inl (.inr v))) X) : (∃ (x : Int32) (v2 : EV), X = .long x.toInt64 ∧ ze_V sp ρ ad v2 (.int x) ∧ f v2 = true) ∨ d = true := by
  cases v with
  | inl n =>
    have h : zcd (ck n) (f (.inl (.inl (cv n)))) d = true := h
    have hv : X = .long (lN n) := hv
    rcases ze_cond h with ⟨c1, c2⟩ | ⟨_, c2⟩
    · refine Or.inl ⟨nI (cv n), _, ?_, ?_, c2⟩
      · rw [hv, hck n c1]
      · rfl
    · exact Or.inr c2
  | inr i =>
    obtain ⟨z, hz, e⟩ := hv
    exact Or.inl ⟨z, eU i, e, ⟨z, hz, rfl⟩, h⟩
theorem zi_lr : ∀ n, ze_lr n = true → lN n = (nI (ze_l32 n)).toInt64 := fun n h => by rw [ze_l32_eq]; exact zi_long n (ze_lr_eq h)
section ZM
variable {p : Program} {l : Launch} {e : Env} {R : Room} {s : State} {m : MethodId} {args : Array Value} {below : List Frame} {meth : Method} {c : Code} {Q : State → Prop}
variable {z0 : List Int32 × List Nat} {dC : Nat → ClassId} {dI : Nat → Nat → Nat} {dA : Nat → ClassId} {sp : Nat → Nat} {xs : ZXs} {A : Nat → Prop} {nL : Nat} {V : List ECE → Prop}
variable {kk : EKn} {k : ERt} {cal : ECal} {mc ms pc pc2 ca cb cd nc ns : Nat} {nx : List ECE} {jp : EJp} {tl : List Nat} {ls st : List EV} {w : EW} {g : EG} {ρ : List Int32} {ws : va_W} {H : Heap} {locs : List Loc} {la : Array Slot} {vs : List Value}
variable {cc : ByteArray} {own : String} {idx : Nat}
theorem zi_lcc {x y : Nat ⊕ Nat} {rest : List EV} {vr : List Value} {X Y : Int64} (hK : ze_KK p l e R s m args below meth c Q z0 dC dI dA sp xs A nL V kk) (hn : ze_at V nx pc2) (hH : ze_H z0 dC dI dA sp xs A s nL ls rest w g ρ ws H locs la vr) (h : zo_lcc x y nx kk ls rest w g nc ns = true) (hx : ze_V sp ρ (ws.map (·.1)) (.inr (.inl (.inr x))) (.long X)) (hy : ze_V sp ρ (ws.map (·.1)) (.inr (.inl (.inr y))) (.long Y)) : W p l e R s m args below meth c H locs nc ns Q (F0 m pc2 la (.int (lg_cmp X Y) :: vr)) := by
  unfold zo_lcc at h
  split at h
  · rename_i n1 n2
    have ex : X = lN n1 := Value.long.inj hx
    have ey : Y = lN n2 := Value.long.inj hy
    rcases ze_cond h with ⟨c1, c2⟩ | ⟨c1, c2⟩
    · have c1 := of_decide_eq_true c1
      have e9 : lg_cmp X Y = nI 4294967295 := by
        unfold lg_cmp
        rw [ex, ey, if_neg (by intro q; exact absurd c1 (Int64.not_lt.mpr (Int64.le_of_lt q))), if_neg (by intro q; rw [q] at c1; exact Int64.lt_irrefl c1)]
        decide +kernel
      rw [e9]
      exact hK _ _ _ _ _ _ _ c2 _ hn _ _ _ _ _ _ (hH.stk ⟨rfl, hH.2.2.2.2.2.2.2⟩)
    · have c1 := of_decide_eq_false c1
      rcases ze_cond c2 with ⟨c3, c4⟩ | ⟨c3, c4⟩
      · have c3 := of_decide_eq_true c3
        have e9 : lg_cmp X Y = nI 1 := by
          unfold lg_cmp
          rw [ex, ey, if_pos c3]
          decide +kernel
        rw [e9]
        exact hK _ _ _ _ _ _ _ c4 _ hn _ _ _ _ _ _ (hH.stk ⟨rfl, hH.2.2.2.2.2.2.2⟩)
      · have c3 := of_decide_eq_false c3
        have e9 : lg_cmp X Y = nI 0 := by
          unfold lg_cmp
          rw [ex, ey, if_neg c3, if_pos (Int64.le_antisymm (Int64.not_lt.mp c3) (Int64.not_lt.mp c1))]
          decide +kernel
        rw [e9]
        exact hK _ _ _ _ _ _ _ c4 _ hn _ _ _ _ _ _ (hH.stk ⟨rfl, hH.2.2.2.2.2.2.2⟩)
  · cases h
theorem zi_l64 {x y : Int32} : x.toInt64 < y.toInt64 ↔ x < y := by
  rw [Int64.lt_iff_toInt_lt, Int32.toInt_toInt64, Int32.toInt_toInt64, Int32.lt_iff_toInt_lt]
theorem zs_lcmp (hx : p.tables.exec = Jvm.exec) (hb : c.code = cc) (hdg : decode cc pc = .ok (.lcmp, 1)) (hK : ze_KK p l e R s m args below meth c Q z0 dC dI dA sp xs A nL V kk) (hn : ze_at V nx (pc + 1)) (h : zo_lcmp nx ca cb cd tl jp kk k cal mc ms ls st w g nc ns = true) (hH : ze_H z0 dC dI dA sp xs A s nL ls st w g ρ ws H locs la vs) : W p l e R s m args below meth c H locs nc ns Q (F0 m pc la vs) := by
  unfold zo_lcmp at h
  split at h
  · rename_i y x rest
    obtain ⟨y2, r1, e1, V2, L1⟩ := hH.2.2.2.2.2.2.2.cons
    obtain ⟨y1, r2, e2, V1, L2⟩ := L1.cons
    subst e1; subst e2
    obtain ⟨X, eX⟩ := ze_longV V1
    obtain ⟨Y, eY⟩ := ze_longV V2
    subst eX; subst eY
    refine W.lcmp hx hb hdg ?_
    have hH2 := hH.stk L2
    have slow : zo_lcc x y nx kk ls rest w g nc ns = true → W p l e R s m args below meth c H locs nc ns Q (F0 m (pc + 1) la (.int (lg_cmp X Y) :: r2)) := fun q => zi_lcc hK hn hH2 q V1 V2
    rcases zi_li zi_lr h V1 with ⟨x9, vx, ex, hvx, hf⟩ | hd
    · rcases zi_li zi_lr hf V2 with ⟨y9, vy, ey, hvy, hf2⟩ | hd
      · have ex : X = x9.toInt64 := Value.long.inj ex
        have ey : Y = y9.toInt64 := Value.long.inj ey
        obtain ⟨x8, y8, q1, q2, q3, q4⟩ := ze_lt_spec hf2 hH.1 hvx hvy
        cases q1; cases q2
        by_cases hlt : x9 < y9
        · obtain ⟨g', hG, q⟩ := q3 hlt
          have e9 : lg_cmp X Y = nI 4294967295 := by
            unfold lg_cmp
            rw [ex, ey, if_neg (fun q => Int32.lt_irrefl (Int32.lt_trans hlt (zi_l64.mp q))), if_neg (fun q => by
              have h9 := zi_l64.mpr hlt
              rw [q] at h9
              exact Int64.lt_irrefl h9)]
            decide +kernel
          rw [e9]
          exact hK _ _ _ _ _ _ _ q _ hn _ _ _ _ _ _ ((hH2.gs hG).stk ⟨rfl, L2⟩)
        · obtain ⟨g', hG, q⟩ := q4 hlt
          obtain ⟨y7, x7, q5, q6, q7, q8⟩ := ze_lt_spec q hG hvy hvx
          cases q5; cases q6
          by_cases hlt2 : y9 < x9
          · obtain ⟨g2, hG2, q⟩ := q7 hlt2
            have e9 : lg_cmp X Y = nI 1 := by
              unfold lg_cmp
              rw [ex, ey, if_pos (zi_l64.mpr hlt2)]
              decide +kernel
            rw [e9]
            exact hK _ _ _ _ _ _ _ q _ hn _ _ _ _ _ _ ((hH2.gs hG2).stk ⟨rfl, L2⟩)
          · obtain ⟨g2, hG2, q⟩ := q8 hlt2
            have e9 : lg_cmp X Y = nI 0 := by
              unfold lg_cmp
              rw [ex, ey, if_neg (fun q => hlt2 (zi_l64.mp q)), if_pos (by rw [Int32.le_antisymm (Int32.not_lt.mp hlt2) (Int32.not_lt.mp hlt)])]
              decide +kernel
            rw [e9]
            exact hK _ _ _ _ _ _ _ q _ hn _ _ _ _ _ _ ((hH2.gs hG2).stk ⟨rfl, L2⟩)
      · exact slow hd
    · exact slow hd
  · cases h
theorem ze_cp_spec {s0 : List EV} : ∀ (n : Nat) (d : List EV) (i j : Nat) (f : List EV → Bool), ze_cp s0 d i j n f = true → ∃ l, f l = true ∧ l.length = d.length ∧ (0 < n → i + n ≤ s0.length ∧ j + n ≤ d.length) ∧ ∀ q : Nat, l[q]? = if j ≤ q ∧ q < j + n then s0[i + (q - j)]? else d[q]? := by
  intro n
  induction n with
  | zero => intro d i j f h; exact ⟨d, h, rfl, fun q => absurd q (Nat.lt_irrefl 0), fun q => by rw [if_neg (by omega)]⟩
  | succ n ih =>
    intro d i j f h
    have h : ze_n s0 i (fun v => ze_n d j (fun _ => ze_cp s0 (ze_s v d j) (Nat.succ i) (Nat.succ j) n f)) = true := h
    obtain ⟨v, h1, h2⟩ := ze_n_spec _ _ _ h
    obtain ⟨u, h3, h4⟩ := ze_n_spec _ _ _ h2
    rw [ze_s_eq] at h4
    obtain ⟨l, q1, q2, q3, q4⟩ := ih _ _ _ _ h4
    have hi := (List.getElem?_eq_some_iff.mp h1).1
    have hj := (List.getElem?_eq_some_iff.mp h3).1
    rw [List.length_set] at q2 q3
    refine ⟨l, q1, q2, fun _ => ?_, fun q => ?_⟩
    · by_cases hz : 0 < n
      · have := q3 hz
        omega
      · omega
    · rw [q4 q]
      by_cases hq : q = j
      · subst hq
        rw [if_neg (by omega), List.getElem?_set_self hj, if_pos (by omega), Nat.sub_self, Nat.add_zero, h1]
      · rw [List.getElem?_set_ne (Ne.symm hq)]
        by_cases hr : Nat.succ j ≤ q ∧ q < Nat.succ j + n
        · rw [if_pos hr, if_pos (by omega), show Nat.succ i + (q - Nat.succ j) = i + (q - j) by omega]
        · rw [if_neg hr, if_neg (by omega)]
theorem zs_mmax (hx : p.tables.exec = Jvm.exec) (hb : c.code = cc) (hml : c.maxLocals = nL) (hown : s.vm.findClass own = some m.cls) (hts : ∀ w ∈ zb_T, w.before args s = true) (hRR : R.cells = mc ∧ R.slots = ms) (hR : 1 ≤ R.frames ∧ 40 ≤ R.locals) (hw1 : Cond.methodLink own idx Lib.Math.max.name ∈ zb_T) (hw2 : Cond.static Lib.Math.max.name ∈ zb_T) (hw3 : Cond.initialized "java/lang/Math" ∈ zb_T) (hw4 : Cond.code Lib.Math.max.name Lib.Math.max.code 2 (some .int) ∈ zb_T)
    (hdg : decode cc pc = .ok (.invokestatic idx, 3)) (hK : ze_KK p l e R s m args below meth c Q z0 dC dI dA sp xs A nL V kk) (hn : ze_at V nx (pc + 3)) (h : zo_mm nx 0 cb cd tl jp kk k cal mc ms ls st w g nc ns = true) (hH : ze_H z0 dC dI dA sp xs A s nL ls st w g ρ ws H locs la vs) : W p l e R s m args below meth c H locs nc ns Q (F0 m pc la vs) := by
  match st, h, hH with
  | [], h, _ => exact absurd h (by intro q; cases q)
  | [_], h, _ => exact absurd h (by intro q; cases q)
  | v2 :: v1 :: rest, h, hH =>
    obtain ⟨c1, h⟩ := ze_condf (show zcd (Nat.ble (ze_cs rest) 8) (zcd (Nat.ble nc mc) (zcd (Nat.ble ns ms) (ze_lt g v1 v2 (fun g => kk nx ls (v2 :: rest) w g nc ns) (fun g => kk nx ls (v1 :: rest) w g nc ns)) false) false) false = true from h)
    obtain ⟨c2, h⟩ := ze_condf h
    obtain ⟨c3, h⟩ := ze_condf h
    obtain ⟨y1, r1, e1, V1, L1⟩ := hH.2.2.2.2.2.2.2.cons
    obtain ⟨y2, r2, e2, V2, L2⟩ := L1.cons
    subst e1; subst e2
    obtain ⟨x, y, ex, ey, q1, q2⟩ := zc_lt_ok g v1 v2 _ _ _ _ h hH.1 V2 V1
    subst ex; subst ey
    obtain ⟨lv, hl, -⟩ := hH.2.2.2.2.2.2.1
    have hc8 : (r2.map fun v => v.category).sum ≤ 8 := by rw [ze_cs_sum L2]; exact ze_ble' c1
    refine va_mmax hx hb (hml.trans hl.1.symm) hown (hts _ hw1) (hts _ hw2) (hts _ hw3) (hts _ hw4) hR.1 (by omega) (by rw [hRR.1]; exact ze_ble' c2) (by rw [hRR.2]; exact ze_ble' c3) hdg ?_
    by_cases hc : x < y
    · rw [if_pos hc]
      obtain ⟨g', hG, q⟩ := q1 hc
      exact hK _ _ _ _ _ _ _ q _ hn _ _ _ _ _ _ ((hH.stk (st' := v2 :: rest) (vs' := .int y :: r2) ⟨V1, L2⟩).gs hG)
    · rw [if_neg hc]
      obtain ⟨g', hG, q⟩ := q2 hc
      exact hK _ _ _ _ _ _ _ q _ hn _ _ _ _ _ _ ((hH.stk (st' := v1 :: rest) (vs' := .int x :: r2) ⟨V2, L2⟩).gs hG)
theorem zs_mmin (hx : p.tables.exec = Jvm.exec) (hb : c.code = cc) (hml : c.maxLocals = nL) (hown : s.vm.findClass own = some m.cls) (hts : ∀ w ∈ zb_T, w.before args s = true) (hRR : R.cells = mc ∧ R.slots = ms) (hR : 1 ≤ R.frames ∧ 40 ≤ R.locals) (hw1 : Cond.methodLink own idx Lib.Math.min.name ∈ zb_T) (hw2 : Cond.static Lib.Math.min.name ∈ zb_T) (hw3 : Cond.initialized "java/lang/Math" ∈ zb_T) (hw4 : Cond.code Lib.Math.min.name Lib.Math.min.code 2 (some .int) ∈ zb_T)
    (hdg : decode cc pc = .ok (.invokestatic idx, 3)) (hK : ze_KK p l e R s m args below meth c Q z0 dC dI dA sp xs A nL V kk) (hn : ze_at V nx (pc + 3)) (h : zo_mm nx 1 cb cd tl jp kk k cal mc ms ls st w g nc ns = true) (hH : ze_H z0 dC dI dA sp xs A s nL ls st w g ρ ws H locs la vs) : W p l e R s m args below meth c H locs nc ns Q (F0 m pc la vs) := by
  match st, h, hH with
  | [], h, _ => exact absurd h (by intro q; cases q)
  | [_], h, _ => exact absurd h (by intro q; cases q)
  | v2 :: v1 :: rest, h, hH =>
    obtain ⟨c1, h⟩ := ze_condf (show zcd (Nat.ble (ze_cs rest) 8) (zcd (Nat.ble nc mc) (zcd (Nat.ble ns ms) (ze_lt g v2 v1 (fun g => kk nx ls (v2 :: rest) w g nc ns) (fun g => kk nx ls (v1 :: rest) w g nc ns)) false) false) false = true from h)
    obtain ⟨c2, h⟩ := ze_condf h
    obtain ⟨c3, h⟩ := ze_condf h
    obtain ⟨y1, r1, e1, V1, L1⟩ := hH.2.2.2.2.2.2.2.cons
    obtain ⟨y2, r2, e2, V2, L2⟩ := L1.cons
    subst e1; subst e2
    obtain ⟨x, y, ex, ey, q1, q2⟩ := zc_gt_ok g v1 v2 _ _ _ _ (show zc_gt g v1 v2 _ _ = true from h) hH.1 V2 V1
    subst ex; subst ey
    obtain ⟨lv, hl, -⟩ := hH.2.2.2.2.2.2.1
    have hc8 : (r2.map fun v => v.category).sum ≤ 8 := by rw [ze_cs_sum L2]; exact ze_ble' c1
    refine va_mmin hx hb (hml.trans hl.1.symm) hown (hts _ hw1) (hts _ hw2) (hts _ hw3) (hts _ hw4) hR.1 (by omega) (by rw [hRR.1]; exact ze_ble' c2) (by rw [hRR.2]; exact ze_ble' c3) hdg ?_
    by_cases hc : y < x
    · rw [if_pos hc]
      obtain ⟨g', hG, q⟩ := q1 hc
      exact hK _ _ _ _ _ _ _ q _ hn _ _ _ _ _ _ ((hH.stk (st' := v2 :: rest) (vs' := .int y :: r2) ⟨V1, L2⟩).gs hG)
    · rw [if_neg hc]
      obtain ⟨g', hG, q⟩ := q2 hc
      exact hK _ _ _ _ _ _ _ q _ hn _ _ _ _ _ _ ((hH.stk (st' := v1 :: rest) (vs' := .int x :: r2) ⟨V2, L2⟩).gs hG)
theorem zs_copy0 (hx : p.tables.exec = Jvm.exec) (hb : c.code = cc) (hml : c.maxLocals = nL) (hown : s.vm.findClass own = some m.cls) (hKs : ze_K dC dI dA s) (hts : ∀ w ∈ zb_T, w.before args s = true) (hai : (100, FieldType.int) ∈ ze_arr) (hR : 1 ≤ R.frames ∧ 40 ≤ R.locals) (hw1 : Cond.methodLink own idx arraycopyName ∈ zb_T) (hw2 : Cond.native arraycopyName ∈ zb_T) (hw3 : Cond.static arraycopyName ∈ zb_T) (hw4 : Cond.initialized "java/lang/System" ∈ zb_T)
    (hdg : decode cc pc = .ok (.invokestatic idx, 3)) (hK : ze_KK p l e R s m args below meth c Q z0 dC dI dA sp xs A nL V kk) (hn : ze_at V nx (pc + 3)) (h : zo_copy0 nx ca cb cd [] jp kk k cal mc ms ls st w g nc ns = true) (hH : ze_H z0 dC dI dA sp xs A s nL ls st w g ρ ws H locs la vs) : W p l e R s m args below meth c H locs nc ns Q (F0 m pc la vs) := by
  unfold zo_copy0 at h
  split at h
  · rename_i n dp d p0 s0 rest
    obtain ⟨v1, r1, e1, V1, L1⟩ := hH.2.2.2.2.2.2.2.cons
    obtain ⟨v2, r2, e2, V2, L2⟩ := L1.cons
    obtain ⟨v3, r3, e3, V3, L3⟩ := L2.cons
    obtain ⟨v4, r4, e4, V4, L4⟩ := L3.cons
    obtain ⟨v5, r5, e5, V5, L5⟩ := L4.cons
    subst e1; subst e2; subst e3; subst e4; subst e5
    obtain ⟨h1, h⟩ := ze_condf h
    obtain ⟨h0, h1⟩ := ze_condf h1
    obtain ⟨h2, h⟩ := ze_condf h
    obtain ⟨h3, h⟩ := ze_condf h
    have h0 := ze_ble' h0
    have h1 := ze_ble' h1
    have h2 := ze_ble' h2
    have h3 := ze_ble' h3
    obtain ⟨h4, h⟩ := ze_condf h
    obtain ⟨cs, g1, h⟩ := ze_g_spec h
    obtain ⟨k1, h⟩ := ze_condf h
    obtain ⟨c2, g2, h⟩ := ze_g_spec h
    obtain ⟨k2, h⟩ := ze_condf h
    obtain ⟨l9, q1, q2, q3, q4⟩ := ze_cp_spec _ _ _ _ _ h
    have k1 := ze_beq k1
    have k2 := ze_beq k2
    obtain ⟨a5, e05, ex5, hw5, hC5⟩ := hH.2.2.1.ref g1 V5
    obtain ⟨a3, e03, ex3, hw3', hC3⟩ := hH.2.2.1.ref g2 V3
    obtain ⟨f5, ef5, hf5⟩ := hC5.ints (by omega) (by omega)
    obtain ⟨f3, ef3, hf3⟩ := hC3.ints (by omega) (by omega)
    rw [k1] at ef5
    rw [k2] at ef3
    subst ef5; subst ef3; subst ex5; subst ex3
    have z1 : v1 = .int (nI n) := V1
    have z2 : v2 = .int (nI dp) := V2
    have z4 : v4 = .int (nI p0) := V4
    subst z1; subst z2; subst z4
    · have hle := q3 (by omega)
      obtain ⟨lv, hl, hLL⟩ := hH.2.2.2.2.2.2.1
      refine va_copyi (D := (dC, dI)) hx hb (by rw [hml]; exact hl.1.symm) hown (hts _ hw1) (hts _ hw2) (hts _ hw3) (hts _ hw4) (hKs.k1 hai) hH.2.2.2.1 hH.2.2.2.2.1 hH.2.2.2.2.2.1 _ _ 0 0 hw5 hw3' rfl rfl rfl (nI_pos (by omega)) (nI_pos (by omega)) (nI_pos (by omega)) (by rw [ze_cln (by omega), ze_cln (by omega)]; exact hle.1) (by rw [ze_cln (by omega), ze_cln (by omega)]; exact hle.2) (fun _ _ => rfl) hR.1 ?_ hdg (fun H1 locs1 g1 g2 g3 => ?_)
      · rw [ze_cs_sum L5]
        have := ze_ble' h4
        show ze_cs rest + (7 + 11) ≤ R.locals
        omega
      · rw [ze_cln (by omega), ze_cln (by omega), ze_cln (by omega)] at g1 g2
        refine hK _ _ _ _ _ _ _ q1 _ hn _ _ _ _ _ _ (hH.put hw3' (c1 := (100, l9)) (Or.inr (Or.inl ⟨(by show 100 ≤ 100; decide), (by show 100 < 150; decide), va_cpy f5 f3 p0 dp n, ?_, fun j v hj => ?_⟩)) g1 g2 g3 L5)
        · show _ = Sum.inl (_, l9.length, _)
          rw [q2]
        · have hj : l9[j]? = some v := hj
          rw [q4 j] at hj
          unfold va_cpy
          by_cases hr : dp ≤ j ∧ j < dp + n
          · rw [if_pos hr] at hj ⊢
            exact hf5 _ _ hj
          · rw [if_neg hr] at hj ⊢
            exact hf3 _ _ hj
  · cases h
end ZM

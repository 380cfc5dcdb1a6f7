/-! pilot: the contract, for callers -/
theorem zb9_all : ∀ i, i < 21 → zb9_f i = true := by
  intro i hi
  match i, hi with
  | 0, _ => exact zb9_0
  | 1, _ => exact zb9_1
  | 2, _ => exact zb9_2
  | 3, _ => exact zb9_3
  | 4, _ => exact zb9_4
  | 5, _ => exact zb9_5
  | 6, _ => exact zb9_6
  | 7, _ => exact zb9_7
  | 8, _ => exact zb9_8
  | 9, _ => exact zb9_9
  | 10, _ => exact zb9_10
  | 11, _ => exact zb9_11
  | 12, _ => exact zb9_12
  | 13, _ => exact zb9_13
  | 14, _ => exact zb9_14
  | 15, _ => exact zb9_15
  | 16, _ => exact zb9_16
  | 17, _ => exact zb9_17
  | 18, _ => exact zb9_18
  | 19, _ => exact zb9_19
  | 20, _ => exact zb9_20
  | i + 21, h => omega
theorem zb9_len : zb9_KS.length = 21 := rfl
theorem zb9_at {i : Nat} {K : ZK} (h : zb9_KS[i]? = some K) : zy_hd zp_X9_bitsAt K = true ∧ zy_st zp_X9_bitsAt (ze_ex zp_all 5) 0 0 zb9_e [4] 1000 (zy_B 6 (zb9_KS.drop (i + 1))) K = true := by
  have hi : i < 21 := by
    have h9 := (List.getElem?_eq_some_iff.mp h).1
    rw [zb9_len] at h9
    exact h9
  obtain ⟨K2, h1, h2⟩ := ze_n_spec _ _ _ (show ze_n zb9_KS i _ = true from zb9_all i hi)
  rw [h] at h1
  cases h1
  exact ze_condf h2
noncomputable def zb9_cal : ECal := zf_cal 98 6 [.inl 0, .inr (0, 0), .inr (0, 1), .inr (0, 2)] [1] zb9_p [eR 0, eU 6] (zb9_w 7) (zb9_g [(0, 4294967295)]) (some (eU 6)) (zb9_w 7) (zb9_g [(2147483648, 2147483668)])
theorem zb9_ok {l : Launch} {dC : Nat → ClassId} {dI : Nat → Nat → Nat} {dA : Nat → ClassId} {sp : Nat → Nat} {xs : Nat → Int32} {A : Nat → Prop} {D : Nat} (hD : 6 ≤ D) : ze_Cal l dC dI dA sp xs A zb9_cal 98 D yX9_bitsAt cX9_bitsAt 4 (some .int) 0 0 :=
  zf_cal_ok (q := (yX9_bitsAt, cX9_bitsAt, 4, (some .int), 9, 0, 0)) ⟨rfl, rfl⟩ (by decide) (fun h => by cases h) (fun A ρ ws avs h1 h2 h3 h4 h5 => zy_met (y0 := 98) (q := (yX9_bitsAt, cX9_bitsAt, 4, (some .int), 9, 0, 0)) rfl (m9 := (zp_X9_bitsAt, 4, 0, 0)) rfl rfl (by decide) (fun y q hy => zF_ex 5 y q hy) zb9_E (fun K hK => by obtain ⟨i, hi⟩ := List.getElem?_of_mem hK; exact (zb9_at hi).1) (fun i K hi => (zb9_at hi).2) hD h1 h2 h3 h4 h5)

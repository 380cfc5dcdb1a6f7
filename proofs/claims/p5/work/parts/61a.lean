/-! contracts, level 1 -/
noncomputable def zq3_w0 : EW := (0, [])
def zq3_g1 : EG := [(0, 4294967295), (0, 4294967295), (0, 4294967295), (0, 4294967295), (0, 4294967295), (0, 4294967295), (0, 4294967295), (0, 4294967295), (0, 4294967295), (0, 4294967295), (0, 4294967295)]
def zq3_p2 : List (Nat × Nat) := []
noncomputable def zq3_g3 : EG := zq3_g1 ++ [(2147483648, 2147483668)]
noncomputable def zq3_n4 : List ZN := [(some (eU 11), [0], zq3_p2, zq3_w0, zq3_g3)]
noncomputable def zq3_S0 : List ZC := ((2, 2, [], zq3_p2, [eU 10, eC 0], zq3_w0, zq3_g1), [1], []) :: ((2, 2, [], zq3_p2, [eU 10, eC 1], zq3_w0, zq3_g1), [2], []) :: ((2, 2, [], zq3_p2, [eU 10, eC 2], zq3_w0, zq3_g1), [3], []) :: ((2, 2, [], zq3_p2, [eU 10, eC 3], zq3_w0, zq3_g1), [4], []) :: ((2, 2, [], zq3_p2, [eU 10, eC 4], zq3_w0, zq3_g1), [5], []) :: ((2, 2, [], zq3_p2, [eU 10, eC 5], zq3_w0, zq3_g1), [6], []) :: ((2, 2, [], zq3_p2, [eU 10, eC 6], zq3_w0, zq3_g1), [7], []) :: ((2, 2, [], zq3_p2, [eU 10, eC 7], zq3_w0, zq3_g1), [8], []) :: ((2, 2, [], zq3_p2, [eU 10, eC 8], zq3_w0, zq3_g1), [9], []) :: ((2, 2, [], zq3_p2, [eU 10, eC 9], zq3_w0, zq3_g1), [10], []) :: ((2, 2, [], zq3_p2, [eU 10, eC 10], zq3_w0, zq3_g1), [11], []) :: ((2, 2, [], zq3_p2, [eU 10, eC 11], zq3_w0, zq3_g1), [12], []) :: ((2, 2, [], zq3_p2, [eU 10, eC 12], zq3_w0, zq3_g1), [13], []) :: ((2, 2, [], zq3_p2, [eU 10, eC 13], zq3_w0, zq3_g1), [14], []) :: ((2, 2, [], zq3_p2, [eU 10, eC 14], zq3_w0, zq3_g1), [15], []) :: ((2, 2, [], zq3_p2, [eU 10, eC 15], zq3_w0, zq3_g1), [16], []) :: ((2, 2, [], zq3_p2, [eU 10, eC 16], zq3_w0, zq3_g1), [17], []) :: ((2, 2, [], zq3_p2, [eU 10, eC 17], zq3_w0, zq3_g1), [18], []) :: ((2, 2, [], zq3_p2, [eU 10, eC 18], zq3_w0, zq3_g1), [19], []) :: ((2, 2, [], zq3_p2, [eU 10, eC 19], zq3_w0, zq3_g1), [20], []) :: ((2, 2, [], zq3_p2, [eU 10, eC 20], zq3_w0, zq3_g1), [], []) :: []
noncomputable def zq3_K : List ZC := zq3_S0
noncomputable def zq3_e : ERt := zy_ends 11 zq3_n4
theorem zq3_E : zy_spl (fun g => zy_en (zp_X0_firstOf, 2, 0, 0) (zX zS_no 8) zq3_e [2] 100000 (zy_B 11 zq3_K [0]) ([eU 10] : List EV) zq3_w0 g) [] zq3_g1 = true := by decide +kernel
noncomputable def zq3_f (i : Nat) : Bool := zy_f 11 zp_X0_firstOf (zX zS_no 8) 0 0 zq3_e [2] 100000 zq3_K i
theorem zq3_0 : zy_ch zq3_f 0 21 = true := by decide +kernel
theorem zq3_n : zq3_K.length = 21 := by decide +kernel
noncomputable def zc3 : ECal := zf_cal 3 10 [] [0] zq3_p2 [] ([eU 10] : List EV) zq3_w0 zq3_g1 zq3_n4
theorem zc3_ok : ZE zc3 12 := ZE.met (n := 8) (es := zq3_n4) (hd := [2]) (F := 100000) (KS := zq3_K) (js := [0]) (sp0 := []) (by decide) zS_no_ok (y0 := 3) (q := (yX0_firstOf, cX0_firstOf, 2, (some .int), 0, 0, 0)) rfl ⟨rfl, rfl⟩ (m9 := (zp_X0_firstOf, 2, 0, 0)) rfl rfl (zy_nx_ok (by decide +kernel)) (N2 := 11) (by decide +kernel) (by decide) zq3_E (fun i hi => (show ∀ i, i < 21 → zq3_f i = true from fun i hi => zy_ch_ok zq3_0 i (by omega) (by omega)) i (by have h9 := hi; rw [zq3_n] at h9; exact h9))
noncomputable def zq6_e0 : EC := (0, [eR 1])
noncomputable def zq6_e1 : EC := (2, [eR 2, eU 11, eU 12])
noncomputable def zq6_e2 : EC := (1100, [eC 36, eC 0, eC 4294967295])
noncomputable def zq6_c3 : List EC := [zq6_e0, zq6_e1, zq6_e2]
noncomputable def zq6_w4 : EW := (3, [zq6_c3])
def zq6_g5 : EG := [(0, 4294967295), (0, 4294967295), (0, 4294967295), (0, 4294967295), (0, 4294967295), (0, 4294967295), (0, 4294967295), (0, 4294967295), (0, 4294967295), (0, 4294967295), (0, 4294967295), (2147483658, 2147483660), (2147483648, 2147483660)]
def zq6_p6 : List (Nat × Nat) := []
noncomputable def zq6_g7 : EG := zq6_g5 ++ [(2147483648, 2147483649)]
noncomputable def zq6_n8 : List ZN := [(some (eU 13), [0], zq6_p6, zq6_w4, zq6_g7)]
noncomputable def zq6_g9 : EG := zy_su [(12, 2147483649, 2147483660)] zq6_g5
noncomputable def zq6_g10 : EG := zy_su [(12, 2147483650, 2147483660)] zq6_g5
noncomputable def zq6_g11 : EG := zy_su [(12, 2147483651, 2147483660)] zq6_g5
noncomputable def zq6_g12 : EG := zy_su [(12, 2147483652, 2147483660)] zq6_g5
noncomputable def zq6_g13 : EG := zy_su [(12, 2147483653, 2147483660)] zq6_g5
noncomputable def zq6_g14 : EG := zy_su [(12, 2147483654, 2147483660)] zq6_g5
noncomputable def zq6_g15 : EG := zy_su [(12, 2147483655, 2147483660)] zq6_g5
noncomputable def zq6_g16 : EG := zy_su [(12, 2147483656, 2147483660)] zq6_g5
noncomputable def zq6_g17 : EG := zy_su [(12, 2147483657, 2147483660)] zq6_g5
noncomputable def zq6_g18 : EG := zy_su [(12, 2147483658, 2147483660)] zq6_g5
noncomputable def zq6_g19 : EG := zy_su [(12, 2147483659, 2147483660)] zq6_g5
noncomputable def zq6_g20 : EG := zy_su [(12, 2147483660, 2147483660)] zq6_g5
noncomputable def zq6_S0 : List ZC := ((2, 2, [], zq6_p6, [eR 0, eU 10, eC 0], zq6_w4, zq6_g5), [1], []) :: ((2, 2, [], zq6_p6, [eR 0, eU 10, eC 1], zq6_w4, zq6_g9), [2], []) :: ((2, 2, [], zq6_p6, [eR 0, eU 10, eC 2], zq6_w4, zq6_g10), [3], []) :: ((2, 2, [], zq6_p6, [eR 0, eU 10, eC 3], zq6_w4, zq6_g11), [4], []) :: ((2, 2, [], zq6_p6, [eR 0, eU 10, eC 4], zq6_w4, zq6_g12), [5], []) :: ((2, 2, [], zq6_p6, [eR 0, eU 10, eC 5], zq6_w4, zq6_g13), [6], []) :: ((2, 2, [], zq6_p6, [eR 0, eU 10, eC 6], zq6_w4, zq6_g14), [7], []) :: ((2, 2, [], zq6_p6, [eR 0, eU 10, eC 7], zq6_w4, zq6_g15), [8], []) :: ((2, 2, [], zq6_p6, [eR 0, eU 10, eC 8], zq6_w4, zq6_g16), [9], []) :: ((2, 2, [], zq6_p6, [eR 0, eU 10, eC 9], zq6_w4, zq6_g17), [10], []) :: ((2, 2, [], zq6_p6, [eR 0, eU 10, eC 10], zq6_w4, zq6_g18), [11], []) :: ((2, 2, [], zq6_p6, [eR 0, eU 10, eC 11], zq6_w4, zq6_g19), [12], []) :: ((2, 2, [], zq6_p6, [eR 0, eU 10, eC 12], zq6_w4, zq6_g20), [], []) :: []
noncomputable def zq6_K : List ZC := zq6_S0
noncomputable def zq6_e : ERt := zy_ends 13 zq6_n8
theorem zq6_E : zy_spl (fun g => zy_en (zp_X0_suits, 3, 0, 0) (zX zS_no 8) zq6_e [2] 100000 (zy_B 13 zq6_K [0]) ([eR 0, eU 10] : List EV) zq6_w4 g) [] zq6_g5 = true := by decide +kernel
noncomputable def zq6_f (i : Nat) : Bool := zy_f 13 zp_X0_suits (zX zS_no 8) 0 0 zq6_e [2] 100000 zq6_K i
theorem zq6_0 : zy_ch zq6_f 0 13 = true := by decide +kernel
theorem zq6_n : zq6_K.length = 13 := by decide +kernel
def zq6_p21 : List (Nat × Nat) := [(1, 1), (1, 2)]
noncomputable def zc6 : ECal := zf_cal 6 10 [.inl 0, .inr (0, 0), .inr (1, 0)] [1] zq6_p21 [] ([eR 0, eU 10] : List EV) zq6_w4 zq6_g5 zq6_n8
theorem zc6_ok : ZE zc6 12 := ZE.met (n := 8) (es := zq6_n8) (hd := [2]) (F := 100000) (KS := zq6_K) (js := [0]) (sp0 := []) (by decide) zS_no_ok (y0 := 6) (q := (yX0_suits, cX0_suits, 3, (some .boolean), 0, 0, 0)) rfl ⟨rfl, rfl⟩ (m9 := (zp_X0_suits, 3, 0, 0)) rfl rfl (zy_nx_ok (by decide +kernel)) (N2 := 13) (by decide +kernel) (by decide) zq6_E (fun i hi => (show ∀ i, i < 13 → zq6_f i = true from fun i hi => zy_ch_ok zq6_0 i (by omega) (by omega)) i (by have h9 := hi; rw [zq6_n] at h9; exact h9))

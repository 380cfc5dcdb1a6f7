/-! contracts, level 1 -/
noncomputable def zq100_e0 : EC := (9, [eX 42, eX 43, eR 1, eU 11, eU 12, eU 13, eU 14, eU 15, eU 16])
noncomputable def zq100_e1 : EC := (1100, [eC 20, eC 0, eC 4294967295])
noncomputable def zq100_c2 : List EC := [zq100_e0, zq100_e1]
noncomputable def zq100_w3 : EW := (2, [zq100_c2])
def zq100_g4 : EG := [(0, 4294967295), (0, 4294967295), (0, 4294967295), (0, 4294967295), (0, 4294967295), (0, 4294967295), (0, 4294967295), (0, 4294967295), (0, 4294967295), (0, 4294967295), (0, 4294967295), (2147483648, 2147483653), (2147483648, 2147483653), (0, 4294967295), (0, 4294967295), (0, 4294967295), (0, 4294967295)]
def zq100_p5 : List (Nat × Nat) := []
noncomputable def zq100_g6 : EG := zq100_g4 ++ [(2147483648, 2147483652)]
noncomputable def zq100_n7 : List ZN := [(some (eU 17), [0], zq100_p5, zq100_w3, zq100_g6)]
noncomputable def zq100_g8 : EG := zq100_g4 ++ [(2147483648, 2147483649)]
noncomputable def zq100_g9 : EG := zq100_g4 ++ [(2147483648, 2147483650)]
noncomputable def zq100_g10 : EG := zq100_g4 ++ [(2147483648, 2147483651)]
noncomputable def zq100_S0 : List ZC := ((4, 4, [], zq100_p5, [eR 0, eU 10, eC 0, eC 0], zq100_w3, zq100_g4), [1], []) :: ((4, 4, [2], zq100_p5, [eR 0, eU 10, eU 17, eC 1], zq100_w3, zq100_g8), [2], []) :: ((4, 4, [2], zq100_p5, [eR 0, eU 10, eU 17, eC 2], zq100_w3, zq100_g9), [3], []) :: ((4, 4, [2], zq100_p5, [eR 0, eU 10, eU 17, eC 3], zq100_w3, zq100_g10), [4], []) :: ((4, 4, [2], zq100_p5, [eR 0, eU 10, eU 17, eC 4], zq100_w3, zq100_g6), [], []) :: []
noncomputable def zq100_K : List ZC := zq100_S0
noncomputable def zq100_e : ERt := zy_ends 17 zq100_n7
theorem zq100_E : zy_spl (fun g => zy_en (zp_X9_heldOf, 4, 0, 0) (zX zS_no 8) zq100_e [4] 100000 (zy_B 17 zq100_K [0]) ([eR 0, eU 10] : List EV) zq100_w3 g) [] zq100_g4 = true := by decide +kernel
noncomputable def zq100_f (i : Nat) : Bool := zy_f 17 zp_X9_heldOf (zX zS_no 8) 0 0 zq100_e [4] 100000 zq100_K i
theorem zq100_0 : zy_ch zq100_f 0 5 = true := by decide +kernel
theorem zq100_n : zq100_K.length = 5 := by decide +kernel
def zq100_p11 : List (Nat × Nat) := [(0, 3), (0, 4), (0, 5), (0, 6), (0, 7), (0, 8)]
noncomputable def zc100 : ECal := zf_cal 100 10 [.inl 0, .inr (0, 2)] [1] zq100_p11 [(0, 0), (0, 1)] ([eR 0, eU 10] : List EV) zq100_w3 zq100_g4 zq100_n7
theorem zc100_ok : ZE zc100 12 := ZE.met (n := 8) (es := zq100_n7) (hd := [4]) (F := 100000) (KS := zq100_K) (js := [0]) (sp0 := []) (by decide) zS_no_ok (y0 := 100) (q := (yX9_heldOf, cX9_heldOf, 4, (some .int), 9, 0, 0)) rfl ⟨rfl, rfl⟩ (m9 := (zp_X9_heldOf, 4, 0, 0)) rfl rfl (zy_nx_ok (by decide +kernel)) (N2 := 17) (by decide +kernel) (by decide) zq100_E (fun i hi => (show ∀ i, i < 5 → zq100_f i = true from fun i hi => zy_ch_ok zq100_0 i (by omega) (by omega)) i (by have h9 := hi; rw [zq100_n] at h9; exact h9))
noncomputable def zq66_e0 : EC := (7, [eR 1, eX 42, eX 43, eU 11])
noncomputable def zq66_e1 : EC := (1100, [eC 5, eC 0, eC 4294967295])
noncomputable def zq66_c2 : List EC := [zq66_e0, zq66_e1]
noncomputable def zq66_w3 : EW := (2, [zq66_c2])
def zq66_g4 : EG := [(0, 4294967295), (0, 4294967295), (0, 4294967295), (0, 4294967295), (0, 4294967295), (0, 4294967295), (0, 4294967295), (0, 4294967295), (0, 4294967295), (0, 4294967295), (0, 4294967295), (0, 4294967295)]
def zq66_p5 : List (Nat × Nat) := []
noncomputable def zq66_g6 : EG := zq66_g4 ++ [(2147483648, 2147483649)]
noncomputable def zq66_n7 : List ZN := [(some (eU 12), [0], zq66_p5, zq66_w3, zq66_g6)]
noncomputable def zq66_S0 : List ZC := ((2, 2, [], zq66_p5, [eR 0, eU 10, eC 0], zq66_w3, zq66_g4), [1], []) :: ((2, 2, [], zq66_p5, [eR 0, eU 10, eC 1], zq66_w3, zq66_g4), [2], []) :: ((2, 2, [], zq66_p5, [eR 0, eU 10, eC 2], zq66_w3, zq66_g4), [3], []) :: ((2, 2, [], zq66_p5, [eR 0, eU 10, eC 3], zq66_w3, zq66_g4), [4], []) :: ((2, 2, [], zq66_p5, [eR 0, eU 10, eC 4], zq66_w3, zq66_g4), [5], []) :: ((2, 2, [], zq66_p5, [eR 0, eU 10, eC 5], zq66_w3, zq66_g4), [], []) :: []
noncomputable def zq66_K : List ZC := zq66_S0
noncomputable def zq66_e : ERt := zy_ends 12 zq66_n7
theorem zq66_E : zy_spl (fun g => zy_en (zp_X7_hitsAll, 3, 0, 0) (zX zS_no 8) zq66_e [2] 100000 (zy_B 12 zq66_K [0]) ([eR 0, eU 10] : List EV) zq66_w3 g) [] zq66_g4 = true := by decide +kernel
noncomputable def zq66_f (i : Nat) : Bool := zy_f 12 zp_X7_hitsAll (zX zS_no 8) 0 0 zq66_e [2] 100000 zq66_K i
theorem zq66_0 : zy_ch zq66_f 0 6 = true := by decide +kernel
theorem zq66_n : zq66_K.length = 6 := by decide +kernel
def zq66_p8 : List (Nat × Nat) := [(0, 3)]
noncomputable def zc66 : ECal := zf_cal 66 10 [.inl 0, .inr (0, 0)] [1] zq66_p8 [(0, 1), (0, 2)] ([eR 0, eU 10] : List EV) zq66_w3 zq66_g4 zq66_n7
theorem zc66_ok : ZE zc66 12 := ZE.met (n := 8) (es := zq66_n7) (hd := [2]) (F := 100000) (KS := zq66_K) (js := [0]) (sp0 := []) (by decide) zS_no_ok (y0 := 66) (q := (yX7_hitsAll, cX7_hitsAll, 3, (some .boolean), 7, 0, 0)) rfl ⟨rfl, rfl⟩ (m9 := (zp_X7_hitsAll, 3, 0, 0)) rfl rfl (zy_nx_ok (by decide +kernel)) (N2 := 12) (by decide +kernel) (by decide) zq66_E (fun i hi => (show ∀ i, i < 6 → zq66_f i = true from fun i hi => zy_ch_ok zq66_0 i (by omega) (by omega)) i (by have h9 := hi; rw [zq66_n] at h9; exact h9))
noncomputable def zq97_e0 : EC := (9, [eX 42, eX 43, eR 1, eU 10, eU 11, eU 12, eU 13, eU 14, eU 15])
noncomputable def zq97_e1 : EC := (1100, [eC 20, eC 0, eC 4294967295])
noncomputable def zq97_c2 : List EC := [zq97_e0, zq97_e1]
noncomputable def zq97_w3 : EW := (2, [zq97_c2])
def zq97_g4 : EG := [(0, 4294967295), (0, 4294967295), (0, 4294967295), (0, 4294967295), (0, 4294967295), (0, 4294967295), (0, 4294967295), (0, 4294967295), (0, 4294967295), (0, 4294967295), (2147483648, 2147483653), (2147483648, 2147483653), (0, 4294967295), (0, 4294967295), (0, 4294967295), (0, 4294967295)]
def zq97_p5 : List (Nat × Nat) := []
noncomputable def zq97_g6 : EG := zq97_g4 ++ [(2147483648, 2147483668)]
noncomputable def zq97_n7 : List ZN := [(some (eU 16), [0], zq97_p5, zq97_w3, zq97_g6)]
noncomputable def zq97_g8 : EG := zq97_g4 ++ [(2147483648, 2147483649)]
noncomputable def zq97_g9 : EG := zq97_g4 ++ [(2147483648, 2147483650)]
noncomputable def zq97_g10 : EG := zq97_g4 ++ [(2147483648, 2147483651)]
noncomputable def zq97_g11 : EG := zq97_g4 ++ [(2147483648, 2147483652)]
noncomputable def zq97_g12 : EG := zq97_g4 ++ [(2147483648, 2147483653)]
noncomputable def zq97_g13 : EG := zq97_g4 ++ [(2147483648, 2147483654)]
noncomputable def zq97_g14 : EG := zq97_g4 ++ [(2147483648, 2147483655)]
noncomputable def zq97_g15 : EG := zq97_g4 ++ [(2147483648, 2147483656)]
noncomputable def zq97_g16 : EG := zq97_g4 ++ [(2147483648, 2147483657)]
noncomputable def zq97_g17 : EG := zq97_g4 ++ [(2147483648, 2147483658)]
noncomputable def zq97_g18 : EG := zq97_g4 ++ [(2147483648, 2147483659)]
noncomputable def zq97_g19 : EG := zq97_g4 ++ [(2147483648, 2147483660)]
noncomputable def zq97_g20 : EG := zq97_g4 ++ [(2147483648, 2147483661)]
noncomputable def zq97_g21 : EG := zq97_g4 ++ [(2147483648, 2147483662)]
noncomputable def zq97_g22 : EG := zq97_g4 ++ [(2147483648, 2147483663)]
noncomputable def zq97_g23 : EG := zq97_g4 ++ [(2147483648, 2147483664)]
noncomputable def zq97_g24 : EG := zq97_g4 ++ [(2147483648, 2147483665)]
noncomputable def zq97_g25 : EG := zq97_g4 ++ [(2147483648, 2147483666)]
noncomputable def zq97_g26 : EG := zq97_g4 ++ [(2147483648, 2147483667)]
noncomputable def zq97_S0 : List ZC := ((4, 4, [], zq97_p5, [eR 0, eC 0, eC 0], zq97_w3, zq97_g4), [1], []) :: ((4, 4, [1], zq97_p5, [eR 0, eU 16, eC 1], zq97_w3, zq97_g8), [2], []) :: ((4, 4, [1], zq97_p5, [eR 0, eU 16, eC 2], zq97_w3, zq97_g9), [3], []) :: ((4, 4, [1], zq97_p5, [eR 0, eU 16, eC 3], zq97_w3, zq97_g10), [4], []) :: ((4, 4, [1], zq97_p5, [eR 0, eU 16, eC 4], zq97_w3, zq97_g11), [5], []) :: ((4, 4, [1], zq97_p5, [eR 0, eU 16, eC 5], zq97_w3, zq97_g12), [6], []) :: ((4, 4, [1], zq97_p5, [eR 0, eU 16, eC 6], zq97_w3, zq97_g13), [7], []) :: ((4, 4, [1], zq97_p5, [eR 0, eU 16, eC 7], zq97_w3, zq97_g14), [8], []) :: ((4, 4, [1], zq97_p5, [eR 0, eU 16, eC 8], zq97_w3, zq97_g15), [9], []) :: ((4, 4, [1], zq97_p5, [eR 0, eU 16, eC 9], zq97_w3, zq97_g16), [10], []) :: ((4, 4, [1], zq97_p5, [eR 0, eU 16, eC 10], zq97_w3, zq97_g17), [11], []) :: ((4, 4, [1], zq97_p5, [eR 0, eU 16, eC 11], zq97_w3, zq97_g18), [12], []) :: ((4, 4, [1], zq97_p5, [eR 0, eU 16, eC 12], zq97_w3, zq97_g19), [13], []) :: ((4, 4, [1], zq97_p5, [eR 0, eU 16, eC 13], zq97_w3, zq97_g20), [14], []) :: ((4, 4, [1], zq97_p5, [eR 0, eU 16, eC 14], zq97_w3, zq97_g21), [15], []) :: ((4, 4, [1], zq97_p5, [eR 0, eU 16, eC 15], zq97_w3, zq97_g22), [16], []) :: ((4, 4, [1], zq97_p5, [eR 0, eU 16, eC 16], zq97_w3, zq97_g23), [17], []) :: ((4, 4, [1], zq97_p5, [eR 0, eU 16, eC 17], zq97_w3, zq97_g24), [18], []) :: ((4, 4, [1], zq97_p5, [eR 0, eU 16, eC 18], zq97_w3, zq97_g25), [19], []) :: ((4, 4, [1], zq97_p5, [eR 0, eU 16, eC 19], zq97_w3, zq97_g26), [20], []) :: ((4, 4, [1], zq97_p5, [eR 0, eU 16, eC 20], zq97_w3, zq97_g6), [], []) :: []
noncomputable def zq97_K : List ZC := zq97_S0
noncomputable def zq97_e : ERt := zy_ends 16 zq97_n7
theorem zq97_E : zy_spl (fun g => zy_en (zp_X9_heldCount, 3, 0, 0) (zX zS_no 8) zq97_e [4] 100000 (zy_B 16 zq97_K [0]) ([eR 0] : List EV) zq97_w3 g) [] zq97_g4 = true := by decide +kernel
noncomputable def zq97_f (i : Nat) : Bool := zy_f 16 zp_X9_heldCount (zX zS_no 8) 0 0 zq97_e [4] 100000 zq97_K i
theorem zq97_0 : zy_ch zq97_f 0 21 = true := by decide +kernel
theorem zq97_n : zq97_K.length = 21 := by decide +kernel
def zq97_p27 : List (Nat × Nat) := [(0, 3), (0, 4), (0, 5), (0, 6), (0, 7), (0, 8)]
noncomputable def zc97 : ECal := zf_cal 97 10 [.inl 0, .inr (0, 2)] [] zq97_p27 [(0, 0), (0, 1)] ([eR 0] : List EV) zq97_w3 zq97_g4 zq97_n7
theorem zc97_ok : ZE zc97 12 := ZE.met (n := 8) (es := zq97_n7) (hd := [4]) (F := 100000) (KS := zq97_K) (js := [0]) (sp0 := []) (by decide) zS_no_ok (y0 := 97) (q := (yX9_heldCount, cX9_heldCount, 3, (some .int), 9, 0, 0)) rfl ⟨rfl, rfl⟩ (m9 := (zp_X9_heldCount, 3, 0, 0)) rfl rfl (zy_nx_ok (by decide +kernel)) (N2 := 16) (by decide +kernel) (by decide) zq97_E (fun i hi => (show ∀ i, i < 21 → zq97_f i = true from fun i hi => zy_ch_ok zq97_0 i (by omega) (by omega)) i (by have h9 := hi; rw [zq97_n] at h9; exact h9))
noncomputable def zq75_e0 : EC := (7, [eX 42, eR 1, eX 43, eU 11])
noncomputable def zq75_e1 : EC := (1100, [eC 5, eC 0, eC 4294967295])
noncomputable def zq75_c2 : List EC := [zq75_e0, zq75_e1]
noncomputable def zq75_w3 : EW := (2, [zq75_c2])
def zq75_g4 : EG := [(0, 4294967295), (0, 4294967295), (0, 4294967295), (0, 4294967295), (0, 4294967295), (0, 4294967295), (0, 4294967295), (0, 4294967295), (0, 4294967295), (0, 4294967295), (0, 4294967295), (0, 4294967295)]
def zq75_p5 : List (Nat × Nat) := []
noncomputable def zq75_g6 : EG := zq75_g4 ++ [(2147483648, 2147483649)]
noncomputable def zq75_n7 : List ZN := [(some (eU 12), [0], zq75_p5, zq75_w3, zq75_g6)]
noncomputable def zq75_g8 : EG := zq75_g4 ++ [(0, 4294967295)]
noncomputable def zq75_S0 : List ZC := ((4, 4, [], zq75_p5, [eR 0, eU 10, eC 0, eC 0], zq75_w3, zq75_g4), [1], []) :: ((4, 4, [2], zq75_p5, [eR 0, eU 10, eU 12, eC 1], zq75_w3, zq75_g8), [2], []) :: ((4, 4, [2], zq75_p5, [eR 0, eU 10, eU 12, eC 2], zq75_w3, zq75_g8), [3], []) :: ((4, 4, [2], zq75_p5, [eR 0, eU 10, eU 12, eC 3], zq75_w3, zq75_g8), [4], []) :: ((4, 4, [2], zq75_p5, [eR 0, eU 10, eU 12, eC 4], zq75_w3, zq75_g8), [5], []) :: ((4, 4, [2], zq75_p5, [eR 0, eU 10, eU 12, eC 5], zq75_w3, zq75_g8), [], []) :: []
noncomputable def zq75_K : List ZC := zq75_S0
noncomputable def zq75_e : ERt := zy_ends 12 zq75_n7
theorem zq75_E : zy_spl (fun g => zy_en (zp_X7_prevails, 4, 0, 0) (zX zS_no 8) zq75_e [4] 100000 (zy_B 12 zq75_K [0]) ([eR 0, eU 10] : List EV) zq75_w3 g) [] zq75_g4 = true := by decide +kernel
noncomputable def zq75_f (i : Nat) : Bool := zy_f 12 zp_X7_prevails (zX zS_no 8) 0 0 zq75_e [4] 100000 zq75_K i
theorem zq75_0 : zy_ch zq75_f 0 6 = true := by decide +kernel
theorem zq75_n : zq75_K.length = 6 := by decide +kernel
def zq75_p9 : List (Nat × Nat) := [(0, 3)]
noncomputable def zc75 : ECal := zf_cal 75 10 [.inl 0, .inr (0, 1)] [1] zq75_p9 [(0, 0), (0, 2)] ([eR 0, eU 10] : List EV) zq75_w3 zq75_g4 zq75_n7
theorem zc75_ok : ZE zc75 12 := ZE.met (n := 8) (es := zq75_n7) (hd := [4]) (F := 100000) (KS := zq75_K) (js := [0]) (sp0 := []) (by decide) zS_no_ok (y0 := 75) (q := (yX7_prevails, cX7_prevails, 4, (some .boolean), 7, 0, 0)) rfl ⟨rfl, rfl⟩ (m9 := (zp_X7_prevails, 4, 0, 0)) rfl rfl (zy_nx_ok (by decide +kernel)) (N2 := 12) (by decide +kernel) (by decide) zq75_E (fun i hi => (show ∀ i, i < 6 → zq75_f i = true from fun i hi => zy_ch_ok zq75_0 i (by omega) (by omega)) i (by have h9 := hi; rw [zq75_n] at h9; exact h9))
noncomputable def zq121_e0 : EC := (10, [eR 1, eX 42, eU 10])
noncomputable def zq121_e1 : EC := (1100, [eC 8, eC 0, eC 4294967295])
noncomputable def zq121_e2 : EC := (9, [eX 43, eX 44, eR 3, eU 11, eU 12, eU 13, eU 14, eU 15, eU 16])
noncomputable def zq121_e3 : EC := (1100, [eC 20, eC 0, eC 4294967295])
noncomputable def zq121_c4 : List EC := [zq121_e0, zq121_e1, zq121_e2, zq121_e3]
noncomputable def zq121_w5 : EW := (4, [zq121_c4])
def zq121_g6 : EG := [(0, 4294967295), (0, 4294967295), (0, 4294967295), (0, 4294967295), (0, 4294967295), (0, 4294967295), (0, 4294967295), (0, 4294967295), (0, 4294967295), (0, 4294967295), (0, 4294967295), (2147483648, 2147483653), (2147483648, 2147483653), (0, 4294967295), (0, 4294967295), (0, 4294967295), (0, 4294967295)]
def zq121_p7 : List (Nat × Nat) := []
noncomputable def zq121_n8 : List ZN := [(none, [], zq121_p7, zq121_w5, zq121_g6)]
noncomputable def zq121_g9 : EG := zq121_g6 ++ [(0, 4294967295)]
noncomputable def zq121_S0 : List ZC := ((2, 2, [], zq121_p7, [eR 0, eR 2, eC 0, eX 1], zq121_w5, zq121_g6), [1], []) :: ((2, 2, [], zq121_p7, [eR 0, eR 2, eC 1, eX 1], zq121_w5, zq121_g6), [2], []) :: ((2, 2, [], zq121_p7, [eR 0, eR 2, eC 2, eX 1], zq121_w5, zq121_g6), [3], []) :: ((2, 2, [], zq121_p7, [eR 0, eR 2, eC 3, eX 1], zq121_w5, zq121_g6), [4], []) :: ((2, 2, [], zq121_p7, [eR 0, eR 2, eC 4, eX 1], zq121_w5, zq121_g6), [5], []) :: ((2, 2, [], zq121_p7, [eR 0, eR 2, eC 5, eX 1], zq121_w5, zq121_g6), [6], []) :: ((2, 2, [], zq121_p7, [eR 0, eR 2, eC 6, eX 1], zq121_w5, zq121_g6), [7], []) :: ((2, 2, [], zq121_p7, [eR 0, eR 2, eC 7, eX 1], zq121_w5, zq121_g6), [8], []) :: ((2, 2, [], zq121_p7, [eR 0, eR 2, eC 8, eX 1], zq121_w5, zq121_g6), [9], []) :: ((14, 23, [], zq121_p7, [eR 0, eR 2, eC 0, eX 1], zq121_w5, zq121_g6), [10], []) :: ((14, 23, [3], zq121_p7, [eR 0, eR 2, eC 1, eU 17], zq121_w5, zq121_g9), [11], []) :: ((14, 23, [3], zq121_p7, [eR 0, eR 2, eC 2, eU 17], zq121_w5, zq121_g9), [12], []) :: ((14, 23, [3], zq121_p7, [eR 0, eR 2, eC 3, eU 17], zq121_w5, zq121_g9), [13], []) :: ((14, 23, [3], zq121_p7, [eR 0, eR 2, eC 4, eU 17], zq121_w5, zq121_g9), [14], []) :: ((14, 23, [3], zq121_p7, [eR 0, eR 2, eC 5, eU 17], zq121_w5, zq121_g9), [15], []) :: ((14, 23, [3], zq121_p7, [eR 0, eR 2, eC 6, eU 17], zq121_w5, zq121_g9), [16], []) :: ((14, 23, [3], zq121_p7, [eR 0, eR 2, eC 7, eU 17], zq121_w5, zq121_g9), [17], []) :: ((14, 23, [3], zq121_p7, [eR 0, eR 2, eC 8, eU 17], zq121_w5, zq121_g9), [18], []) :: ((14, 23, [3], zq121_p7, [eR 0, eR 2, eC 9, eU 17], zq121_w5, zq121_g9), [19], []) :: ((14, 23, [3], zq121_p7, [eR 0, eR 2, eC 10, eU 17], zq121_w5, zq121_g9), [20], []) :: ((14, 23, [3], zq121_p7, [eR 0, eR 2, eC 11, eU 17], zq121_w5, zq121_g9), [21], []) :: ((14, 23, [3], zq121_p7, [eR 0, eR 2, eC 12, eU 17], zq121_w5, zq121_g9), [22], []) :: ((14, 23, [3], zq121_p7, [eR 0, eR 2, eC 13, eU 17], zq121_w5, zq121_g9), [23], []) :: ((14, 23, [3], zq121_p7, [eR 0, eR 2, eC 14, eU 17], zq121_w5, zq121_g9), [24], []) :: ((14, 23, [3], zq121_p7, [eR 0, eR 2, eC 15, eU 17], zq121_w5, zq121_g9), [25], []) :: ((14, 23, [3], zq121_p7, [eR 0, eR 2, eC 16, eU 17], zq121_w5, zq121_g9), [26], []) :: ((14, 23, [3], zq121_p7, [eR 0, eR 2, eC 17, eU 17], zq121_w5, zq121_g9), [27], []) :: ((14, 23, [3], zq121_p7, [eR 0, eR 2, eC 18, eU 17], zq121_w5, zq121_g9), [28], []) :: ((14, 23, [3], zq121_p7, [eR 0, eR 2, eC 19, eU 17], zq121_w5, zq121_g9), [29], []) :: ((14, 23, [3], zq121_p7, [eR 0, eR 2, eC 20, eU 17], zq121_w5, zq121_g9), [], []) :: []
noncomputable def zq121_K : List ZC := zq121_S0
noncomputable def zq121_e : ERt := zy_ends 17 zq121_n8
theorem zq121_E : zy_spl (fun g => zy_en (zp_X10_countCrowd, 4, 0, 0) (zX zS_no 8) zq121_e [2, 23] 100000 (zy_B 17 zq121_K [0]) ([eR 0, eR 2] : List EV) zq121_w5 g) [] zq121_g6 = true := by decide +kernel
noncomputable def zq121_f (i : Nat) : Bool := zy_f 17 zp_X10_countCrowd (zX zS_no 8) 0 0 zq121_e [2, 23] 100000 zq121_K i
theorem zq121_0 : zy_ch zq121_f 0 30 = true := by decide +kernel
theorem zq121_n : zq121_K.length = 30 := by decide +kernel
def zq121_p10 : List (Nat × Nat) := [(0, 2), (2, 3), (2, 4), (2, 5), (2, 6), (2, 7), (2, 8)]
noncomputable def zc121 : ECal := zf_cal 121 10 [.inl 0, .inr (0, 0), .inl 1, .inr (2, 2)] [] zq121_p10 [(0, 1), (2, 0), (2, 1)] ([eR 0, eR 2] : List EV) zq121_w5 zq121_g6 zq121_n8
theorem zc121_ok : ZE zc121 12 := ZE.met (n := 8) (es := zq121_n8) (hd := [2, 23]) (F := 100000) (KS := zq121_K) (js := [0]) (sp0 := []) (by decide) zS_no_ok (y0 := 121) (q := (yX10_countCrowd, cX10_countCrowd, 4, none, 10, 0, 0)) rfl ⟨rfl, rfl⟩ (m9 := (zp_X10_countCrowd, 4, 0, 0)) rfl rfl (zy_nx_ok (by decide +kernel)) (N2 := 17) (by decide +kernel) (by decide) zq121_E (fun i hi => (show ∀ i, i < 30 → zq121_f i = true from fun i hi => zy_ch_ok zq121_0 i (by omega) (by omega)) i (by have h9 := hi; rw [zq121_n] at h9; exact h9))
noncomputable def zq96_e0 : EC := (9, [eX 42, eX 43, eR 1, eU 10, eU 11, eU 12, eU 13, eU 14, eU 15])
noncomputable def zq96_e1 : EC := (1100, [eC 20, eC 0, eC 4294967295])
noncomputable def zq96_c2 : List EC := [zq96_e0, zq96_e1]
noncomputable def zq96_w3 : EW := (2, [zq96_c2])
def zq96_g4 : EG := [(0, 4294967295), (0, 4294967295), (0, 4294967295), (0, 4294967295), (0, 4294967295), (0, 4294967295), (0, 4294967295), (0, 4294967295), (0, 4294967295), (0, 4294967295), (2147483648, 2147483653), (2147483648, 2147483653), (0, 4294967295), (0, 4294967295), (0, 4294967295), (0, 4294967295)]
def zq96_p5 : List (Nat × Nat) := []
noncomputable def zq96_g6 : EG := zq96_g4 ++ [(2147483648, 2147483668)]
noncomputable def zq96_n7 : List ZN := [(some (eU 16), [0], zq96_p5, zq96_w3, zq96_g6)]
noncomputable def zq96_g8 : EG := zq96_g4 ++ [(2147483648, 2147483649)]
noncomputable def zq96_g9 : EG := zq96_g4 ++ [(2147483648, 2147483650)]
noncomputable def zq96_g10 : EG := zq96_g4 ++ [(2147483648, 2147483651)]
noncomputable def zq96_g11 : EG := zq96_g4 ++ [(2147483648, 2147483652)]
noncomputable def zq96_g12 : EG := zq96_g4 ++ [(2147483648, 2147483653)]
noncomputable def zq96_g13 : EG := zq96_g4 ++ [(2147483648, 2147483654)]
noncomputable def zq96_g14 : EG := zq96_g4 ++ [(2147483648, 2147483655)]
noncomputable def zq96_g15 : EG := zq96_g4 ++ [(2147483648, 2147483656)]
noncomputable def zq96_g16 : EG := zq96_g4 ++ [(2147483648, 2147483657)]
noncomputable def zq96_g17 : EG := zq96_g4 ++ [(2147483648, 2147483658)]
noncomputable def zq96_g18 : EG := zq96_g4 ++ [(2147483648, 2147483659)]
noncomputable def zq96_g19 : EG := zq96_g4 ++ [(2147483648, 2147483660)]
noncomputable def zq96_g20 : EG := zq96_g4 ++ [(2147483648, 2147483661)]
noncomputable def zq96_g21 : EG := zq96_g4 ++ [(2147483648, 2147483662)]
noncomputable def zq96_g22 : EG := zq96_g4 ++ [(2147483648, 2147483663)]
noncomputable def zq96_g23 : EG := zq96_g4 ++ [(2147483648, 2147483664)]
noncomputable def zq96_g24 : EG := zq96_g4 ++ [(2147483648, 2147483665)]
noncomputable def zq96_g25 : EG := zq96_g4 ++ [(2147483648, 2147483666)]
noncomputable def zq96_g26 : EG := zq96_g4 ++ [(2147483648, 2147483667)]
noncomputable def zq96_S0 : List ZC := ((4, 4, [], zq96_p5, [eR 0, eC 0, eC 0], zq96_w3, zq96_g4), [1], []) :: ((4, 4, [1], zq96_p5, [eR 0, eU 16, eC 1], zq96_w3, zq96_g8), [2], []) :: ((4, 4, [1], zq96_p5, [eR 0, eU 16, eC 2], zq96_w3, zq96_g9), [3], []) :: ((4, 4, [1], zq96_p5, [eR 0, eU 16, eC 3], zq96_w3, zq96_g10), [4], []) :: ((4, 4, [1], zq96_p5, [eR 0, eU 16, eC 4], zq96_w3, zq96_g11), [5], []) :: ((4, 4, [1], zq96_p5, [eR 0, eU 16, eC 5], zq96_w3, zq96_g12), [6], []) :: ((4, 4, [1], zq96_p5, [eR 0, eU 16, eC 6], zq96_w3, zq96_g13), [7], []) :: ((4, 4, [1], zq96_p5, [eR 0, eU 16, eC 7], zq96_w3, zq96_g14), [8], []) :: ((4, 4, [1], zq96_p5, [eR 0, eU 16, eC 8], zq96_w3, zq96_g15), [9], []) :: ((4, 4, [1], zq96_p5, [eR 0, eU 16, eC 9], zq96_w3, zq96_g16), [10], []) :: ((4, 4, [1], zq96_p5, [eR 0, eU 16, eC 10], zq96_w3, zq96_g17), [11], []) :: ((4, 4, [1], zq96_p5, [eR 0, eU 16, eC 11], zq96_w3, zq96_g18), [12], []) :: ((4, 4, [1], zq96_p5, [eR 0, eU 16, eC 12], zq96_w3, zq96_g19), [13], []) :: ((4, 4, [1], zq96_p5, [eR 0, eU 16, eC 13], zq96_w3, zq96_g20), [14], []) :: ((4, 4, [1], zq96_p5, [eR 0, eU 16, eC 14], zq96_w3, zq96_g21), [15], []) :: ((4, 4, [1], zq96_p5, [eR 0, eU 16, eC 15], zq96_w3, zq96_g22), [16], []) :: ((4, 4, [1], zq96_p5, [eR 0, eU 16, eC 16], zq96_w3, zq96_g23), [17], []) :: ((4, 4, [1], zq96_p5, [eR 0, eU 16, eC 17], zq96_w3, zq96_g24), [18], []) :: ((4, 4, [1], zq96_p5, [eR 0, eU 16, eC 18], zq96_w3, zq96_g25), [19], []) :: ((4, 4, [1], zq96_p5, [eR 0, eU 16, eC 19], zq96_w3, zq96_g26), [20], []) :: ((4, 4, [1], zq96_p5, [eR 0, eU 16, eC 20], zq96_w3, zq96_g6), [], []) :: []
noncomputable def zq96_K : List ZC := zq96_S0
noncomputable def zq96_e : ERt := zy_ends 16 zq96_n7
theorem zq96_E : zy_spl (fun g => zy_en (zp_X9_lyingCount, 3, 0, 0) (zX zS_no 8) zq96_e [4] 100000 (zy_B 16 zq96_K [0]) ([eR 0] : List EV) zq96_w3 g) [] zq96_g4 = true := by decide +kernel
noncomputable def zq96_f (i : Nat) : Bool := zy_f 16 zp_X9_lyingCount (zX zS_no 8) 0 0 zq96_e [4] 100000 zq96_K i
theorem zq96_0 : zy_ch zq96_f 0 21 = true := by decide +kernel
theorem zq96_n : zq96_K.length = 21 := by decide +kernel
def zq96_p27 : List (Nat × Nat) := [(0, 3), (0, 4), (0, 5), (0, 6), (0, 7), (0, 8)]
noncomputable def zc96 : ECal := zf_cal 96 10 [.inl 0, .inr (0, 2)] [] zq96_p27 [(0, 0), (0, 1)] ([eR 0] : List EV) zq96_w3 zq96_g4 zq96_n7
theorem zc96_ok : ZE zc96 12 := ZE.met (n := 8) (es := zq96_n7) (hd := [4]) (F := 100000) (KS := zq96_K) (js := [0]) (sp0 := []) (by decide) zS_no_ok (y0 := 96) (q := (yX9_lyingCount, cX9_lyingCount, 3, (some .int), 9, 0, 0)) rfl ⟨rfl, rfl⟩ (m9 := (zp_X9_lyingCount, 3, 0, 0)) rfl rfl (zy_nx_ok (by decide +kernel)) (N2 := 16) (by decide +kernel) (by decide) zq96_E (fun i hi => (show ∀ i, i < 21 → zq96_f i = true from fun i hi => zy_ch_ok zq96_0 i (by omega) (by omega)) i (by have h9 := hi; rw [zq96_n] at h9; exact h9))
noncomputable def zq99_e0 : EC := (9, [eX 42, eX 43, eR 1, eU 11, eU 12, eU 13, eU 14, eU 15, eU 16])
noncomputable def zq99_e1 : EC := (1100, [eC 20, eC 0, eC 4294967295])
noncomputable def zq99_c2 : List EC := [zq99_e0, zq99_e1]
noncomputable def zq99_w3 : EW := (2, [zq99_c2])
def zq99_g4 : EG := [(0, 4294967295), (0, 4294967295), (0, 4294967295), (0, 4294967295), (0, 4294967295), (0, 4294967295), (0, 4294967295), (0, 4294967295), (0, 4294967295), (0, 4294967295), (0, 4294967295), (2147483648, 2147483653), (2147483648, 2147483653), (0, 4294967295), (0, 4294967295), (0, 4294967295), (0, 4294967295)]
def zq99_p5 : List (Nat × Nat) := []
noncomputable def zq99_g6 : EG := zq99_g4 ++ [(0, 4294967295)]
noncomputable def zq99_n7 : List ZN := [(some (eU 17), [0], zq99_p5, zq99_w3, zq99_g6)]
noncomputable def zq99_g8 : EG := zq99_g4 ++ [(2147483648, 2147483649)]
noncomputable def zq99_S0 : List ZC := ((4, 4, [], zq99_p5, [eR 0, eU 10, eC 0, eC 0], zq99_w3, zq99_g4), [1], []) :: ((4, 4, [2], zq99_p5, [eR 0, eU 10, eU 17, eC 1], zq99_w3, zq99_g8), [2], []) :: ((4, 4, [2], zq99_p5, [eR 0, eU 10, eU 17, eC 2], zq99_w3, zq99_g6), [3], []) :: ((4, 4, [2], zq99_p5, [eR 0, eU 10, eU 17, eC 3], zq99_w3, zq99_g6), [4], []) :: ((4, 4, [2], zq99_p5, [eR 0, eU 10, eU 17, eC 4], zq99_w3, zq99_g6), [], []) :: []
noncomputable def zq99_K : List ZC := zq99_S0
noncomputable def zq99_e : ERt := zy_ends 17 zq99_n7
theorem zq99_E : zy_spl (fun g => zy_en (zp_X9_lyingOf, 4, 0, 0) (zX zS_no 8) zq99_e [4] 100000 (zy_B 17 zq99_K [0]) ([eR 0, eU 10] : List EV) zq99_w3 g) [] zq99_g4 = true := by decide +kernel
noncomputable def zq99_f (i : Nat) : Bool := zy_f 17 zp_X9_lyingOf (zX zS_no 8) 0 0 zq99_e [4] 100000 zq99_K i
theorem zq99_0 : zy_ch zq99_f 0 5 = true := by decide +kernel
theorem zq99_n : zq99_K.length = 5 := by decide +kernel
def zq99_p9 : List (Nat × Nat) := [(0, 3), (0, 4), (0, 5), (0, 6), (0, 7), (0, 8)]
noncomputable def zc99 : ECal := zf_cal 99 10 [.inl 0, .inr (0, 2)] [1] zq99_p9 [(0, 0), (0, 1)] ([eR 0, eU 10] : List EV) zq99_w3 zq99_g4 zq99_n7
theorem zc99_ok : ZE zc99 12 := ZE.met (n := 8) (es := zq99_n7) (hd := [4]) (F := 100000) (KS := zq99_K) (js := [0]) (sp0 := []) (by decide) zS_no_ok (y0 := 99) (q := (yX9_lyingOf, cX9_lyingOf, 4, (some .int), 9, 0, 0)) rfl ⟨rfl, rfl⟩ (m9 := (zp_X9_lyingOf, 4, 0, 0)) rfl rfl (zy_nx_ok (by decide +kernel)) (N2 := 17) (by decide +kernel) (by decide) zq99_E (fun i hi => (show ∀ i, i < 5 → zq99_f i = true from fun i hi => zy_ch_ok zq99_0 i (by omega) (by omega)) i (by have h9 := hi; rw [zq99_n] at h9; exact h9))
noncomputable def zq111_e0 : EC := (9, [eR 1, eX 42, eR 2, eU 12, eU 13, eU 14, eU 15, eU 16, eU 17])
noncomputable def zq111_e1 : EC := (1100, [eC 5, eC 2147483600, eC 2147483855])
noncomputable def zq111_e2 : EC := (1100, [eC 20, eC 0, eC 4294967295])
noncomputable def zq111_c3 : List EC := [zq111_e0, zq111_e1, zq111_e2]
noncomputable def zq111_w4 : EW := (3, [zq111_c3])
def zq111_g5 : EG := [(0, 4294967295), (0, 4294967295), (0, 4294967295), (0, 4294967295), (0, 4294967295), (0, 4294967295), (0, 4294967295), (0, 4294967295), (0, 4294967295), (0, 4294967295), (0, 4294967295), (0, 4294967295), (2147483648, 2147483653), (2147483648, 2147483653), (0, 4294967295), (0, 4294967295), (0, 4294967295), (0, 4294967295)]
def zq111_p6 : List (Nat × Nat) := []
noncomputable def zq111_n7 : List ZN := [(none, [], zq111_p6, zq111_w4, zq111_g5)]
noncomputable def zq111_g8 : EG := zy_su [(10, 2147483648, 2147483652)] zq111_g5
noncomputable def zq111_S5 : List ZC := ((2, 2, [], zq111_p6, [eR 0, eU 10, eU 11, eC 200], zq111_w4, zq111_g8), [201], []) :: ((2, 2, [], zq111_p6, [eR 0, eU 10, eU 11, eC 201], zq111_w4, zq111_g8), [202], []) :: ((2, 2, [], zq111_p6, [eR 0, eU 10, eU 11, eC 202], zq111_w4, zq111_g8), [203], []) :: ((2, 2, [], zq111_p6, [eR 0, eU 10, eU 11, eC 203], zq111_w4, zq111_g8), [204], []) :: ((2, 2, [], zq111_p6, [eR 0, eU 10, eU 11, eC 204], zq111_w4, zq111_g8), [205], []) :: ((2, 2, [], zq111_p6, [eR 0, eU 10, eU 11, eC 205], zq111_w4, zq111_g8), [206], []) :: ((2, 2, [], zq111_p6, [eR 0, eU 10, eU 11, eC 206], zq111_w4, zq111_g8), [207], []) :: ((2, 2, [], zq111_p6, [eR 0, eU 10, eU 11, eC 207], zq111_w4, zq111_g8), [], []) :: []
noncomputable def zq111_S4 : List ZC := ((2, 2, [], zq111_p6, [eR 0, eU 10, eU 11, eC 160], zq111_w4, zq111_g8), [161], []) :: ((2, 2, [], zq111_p6, [eR 0, eU 10, eU 11, eC 161], zq111_w4, zq111_g8), [162], []) :: ((2, 2, [], zq111_p6, [eR 0, eU 10, eU 11, eC 162], zq111_w4, zq111_g8), [163], []) :: ((2, 2, [], zq111_p6, [eR 0, eU 10, eU 11, eC 163], zq111_w4, zq111_g8), [164], []) :: ((2, 2, [], zq111_p6, [eR 0, eU 10, eU 11, eC 164], zq111_w4, zq111_g8), [165], []) :: ((2, 2, [], zq111_p6, [eR 0, eU 10, eU 11, eC 165], zq111_w4, zq111_g8), [166], []) :: ((2, 2, [], zq111_p6, [eR 0, eU 10, eU 11, eC 166], zq111_w4, zq111_g8), [167], []) :: ((2, 2, [], zq111_p6, [eR 0, eU 10, eU 11, eC 167], zq111_w4, zq111_g8), [168], []) :: ((2, 2, [], zq111_p6, [eR 0, eU 10, eU 11, eC 168], zq111_w4, zq111_g8), [169], []) :: ((2, 2, [], zq111_p6, [eR 0, eU 10, eU 11, eC 169], zq111_w4, zq111_g8), [170], []) :: ((2, 2, [], zq111_p6, [eR 0, eU 10, eU 11, eC 170], zq111_w4, zq111_g8), [171], []) :: ((2, 2, [], zq111_p6, [eR 0, eU 10, eU 11, eC 171], zq111_w4, zq111_g8), [172], []) :: ((2, 2, [], zq111_p6, [eR 0, eU 10, eU 11, eC 172], zq111_w4, zq111_g8), [173], []) :: ((2, 2, [], zq111_p6, [eR 0, eU 10, eU 11, eC 173], zq111_w4, zq111_g8), [174], []) :: ((2, 2, [], zq111_p6, [eR 0, eU 10, eU 11, eC 174], zq111_w4, zq111_g8), [175], []) :: ((2, 2, [], zq111_p6, [eR 0, eU 10, eU 11, eC 175], zq111_w4, zq111_g8), [176], []) :: ((2, 2, [], zq111_p6, [eR 0, eU 10, eU 11, eC 176], zq111_w4, zq111_g8), [177], []) :: ((2, 2, [], zq111_p6, [eR 0, eU 10, eU 11, eC 177], zq111_w4, zq111_g8), [178], []) :: ((2, 2, [], zq111_p6, [eR 0, eU 10, eU 11, eC 178], zq111_w4, zq111_g8), [179], []) :: ((2, 2, [], zq111_p6, [eR 0, eU 10, eU 11, eC 179], zq111_w4, zq111_g8), [180], []) :: ((2, 2, [], zq111_p6, [eR 0, eU 10, eU 11, eC 180], zq111_w4, zq111_g8), [181], []) :: ((2, 2, [], zq111_p6, [eR 0, eU 10, eU 11, eC 181], zq111_w4, zq111_g8), [182], []) :: ((2, 2, [], zq111_p6, [eR 0, eU 10, eU 11, eC 182], zq111_w4, zq111_g8), [183], []) :: ((2, 2, [], zq111_p6, [eR 0, eU 10, eU 11, eC 183], zq111_w4, zq111_g8), [184], []) :: ((2, 2, [], zq111_p6, [eR 0, eU 10, eU 11, eC 184], zq111_w4, zq111_g8), [185], []) :: ((2, 2, [], zq111_p6, [eR 0, eU 10, eU 11, eC 185], zq111_w4, zq111_g8), [186], []) :: ((2, 2, [], zq111_p6, [eR 0, eU 10, eU 11, eC 186], zq111_w4, zq111_g8), [187], []) :: ((2, 2, [], zq111_p6, [eR 0, eU 10, eU 11, eC 187], zq111_w4, zq111_g8), [188], []) :: ((2, 2, [], zq111_p6, [eR 0, eU 10, eU 11, eC 188], zq111_w4, zq111_g8), [189], []) :: ((2, 2, [], zq111_p6, [eR 0, eU 10, eU 11, eC 189], zq111_w4, zq111_g8), [190], []) :: ((2, 2, [], zq111_p6, [eR 0, eU 10, eU 11, eC 190], zq111_w4, zq111_g8), [191], []) :: ((2, 2, [], zq111_p6, [eR 0, eU 10, eU 11, eC 191], zq111_w4, zq111_g8), [192], []) :: ((2, 2, [], zq111_p6, [eR 0, eU 10, eU 11, eC 192], zq111_w4, zq111_g8), [193], []) :: ((2, 2, [], zq111_p6, [eR 0, eU 10, eU 11, eC 193], zq111_w4, zq111_g8), [194], []) :: ((2, 2, [], zq111_p6, [eR 0, eU 10, eU 11, eC 194], zq111_w4, zq111_g8), [195], []) :: ((2, 2, [], zq111_p6, [eR 0, eU 10, eU 11, eC 195], zq111_w4, zq111_g8), [196], []) :: ((2, 2, [], zq111_p6, [eR 0, eU 10, eU 11, eC 196], zq111_w4, zq111_g8), [197], []) :: ((2, 2, [], zq111_p6, [eR 0, eU 10, eU 11, eC 197], zq111_w4, zq111_g8), [198], []) :: ((2, 2, [], zq111_p6, [eR 0, eU 10, eU 11, eC 198], zq111_w4, zq111_g8), [199], []) :: ((2, 2, [], zq111_p6, [eR 0, eU 10, eU 11, eC 199], zq111_w4, zq111_g8), [200], []) :: zq111_S5
noncomputable def zq111_S3 : List ZC := ((2, 2, [], zq111_p6, [eR 0, eU 10, eU 11, eC 120], zq111_w4, zq111_g8), [121], []) :: ((2, 2, [], zq111_p6, [eR 0, eU 10, eU 11, eC 121], zq111_w4, zq111_g8), [122], []) :: ((2, 2, [], zq111_p6, [eR 0, eU 10, eU 11, eC 122], zq111_w4, zq111_g8), [123], []) :: ((2, 2, [], zq111_p6, [eR 0, eU 10, eU 11, eC 123], zq111_w4, zq111_g8), [124], []) :: ((2, 2, [], zq111_p6, [eR 0, eU 10, eU 11, eC 124], zq111_w4, zq111_g8), [125], []) :: ((2, 2, [], zq111_p6, [eR 0, eU 10, eU 11, eC 125], zq111_w4, zq111_g8), [126], []) :: ((2, 2, [], zq111_p6, [eR 0, eU 10, eU 11, eC 126], zq111_w4, zq111_g8), [127], []) :: ((2, 2, [], zq111_p6, [eR 0, eU 10, eU 11, eC 127], zq111_w4, zq111_g8), [128], []) :: ((2, 2, [], zq111_p6, [eR 0, eU 10, eU 11, eC 128], zq111_w4, zq111_g8), [129], []) :: ((2, 2, [], zq111_p6, [eR 0, eU 10, eU 11, eC 129], zq111_w4, zq111_g8), [130], []) :: ((2, 2, [], zq111_p6, [eR 0, eU 10, eU 11, eC 130], zq111_w4, zq111_g8), [131], []) :: ((2, 2, [], zq111_p6, [eR 0, eU 10, eU 11, eC 131], zq111_w4, zq111_g8), [132], []) :: ((2, 2, [], zq111_p6, [eR 0, eU 10, eU 11, eC 132], zq111_w4, zq111_g8), [133], []) :: ((2, 2, [], zq111_p6, [eR 0, eU 10, eU 11, eC 133], zq111_w4, zq111_g8), [134], []) :: ((2, 2, [], zq111_p6, [eR 0, eU 10, eU 11, eC 134], zq111_w4, zq111_g8), [135], []) :: ((2, 2, [], zq111_p6, [eR 0, eU 10, eU 11, eC 135], zq111_w4, zq111_g8), [136], []) :: ((2, 2, [], zq111_p6, [eR 0, eU 10, eU 11, eC 136], zq111_w4, zq111_g8), [137], []) :: ((2, 2, [], zq111_p6, [eR 0, eU 10, eU 11, eC 137], zq111_w4, zq111_g8), [138], []) :: ((2, 2, [], zq111_p6, [eR 0, eU 10, eU 11, eC 138], zq111_w4, zq111_g8), [139], []) :: ((2, 2, [], zq111_p6, [eR 0, eU 10, eU 11, eC 139], zq111_w4, zq111_g8), [140], []) :: ((2, 2, [], zq111_p6, [eR 0, eU 10, eU 11, eC 140], zq111_w4, zq111_g8), [141], []) :: ((2, 2, [], zq111_p6, [eR 0, eU 10, eU 11, eC 141], zq111_w4, zq111_g8), [142], []) :: ((2, 2, [], zq111_p6, [eR 0, eU 10, eU 11, eC 142], zq111_w4, zq111_g8), [143], []) :: ((2, 2, [], zq111_p6, [eR 0, eU 10, eU 11, eC 143], zq111_w4, zq111_g8), [144], []) :: ((2, 2, [], zq111_p6, [eR 0, eU 10, eU 11, eC 144], zq111_w4, zq111_g8), [145], []) :: ((2, 2, [], zq111_p6, [eR 0, eU 10, eU 11, eC 145], zq111_w4, zq111_g8), [146], []) :: ((2, 2, [], zq111_p6, [eR 0, eU 10, eU 11, eC 146], zq111_w4, zq111_g8), [147], []) :: ((2, 2, [], zq111_p6, [eR 0, eU 10, eU 11, eC 147], zq111_w4, zq111_g8), [148], []) :: ((2, 2, [], zq111_p6, [eR 0, eU 10, eU 11, eC 148], zq111_w4, zq111_g8), [149], []) :: ((2, 2, [], zq111_p6, [eR 0, eU 10, eU 11, eC 149], zq111_w4, zq111_g8), [150], []) :: ((2, 2, [], zq111_p6, [eR 0, eU 10, eU 11, eC 150], zq111_w4, zq111_g8), [151], []) :: ((2, 2, [], zq111_p6, [eR 0, eU 10, eU 11, eC 151], zq111_w4, zq111_g8), [152], []) :: ((2, 2, [], zq111_p6, [eR 0, eU 10, eU 11, eC 152], zq111_w4, zq111_g8), [153], []) :: ((2, 2, [], zq111_p6, [eR 0, eU 10, eU 11, eC 153], zq111_w4, zq111_g8), [154], []) :: ((2, 2, [], zq111_p6, [eR 0, eU 10, eU 11, eC 154], zq111_w4, zq111_g8), [155], []) :: ((2, 2, [], zq111_p6, [eR 0, eU 10, eU 11, eC 155], zq111_w4, zq111_g8), [156], []) :: ((2, 2, [], zq111_p6, [eR 0, eU 10, eU 11, eC 156], zq111_w4, zq111_g8), [157], []) :: ((2, 2, [], zq111_p6, [eR 0, eU 10, eU 11, eC 157], zq111_w4, zq111_g8), [158], []) :: ((2, 2, [], zq111_p6, [eR 0, eU 10, eU 11, eC 158], zq111_w4, zq111_g8), [159], []) :: ((2, 2, [], zq111_p6, [eR 0, eU 10, eU 11, eC 159], zq111_w4, zq111_g8), [160], []) :: zq111_S4
noncomputable def zq111_S2 : List ZC := ((2, 2, [], zq111_p6, [eR 0, eU 10, eU 11, eC 80], zq111_w4, zq111_g8), [81], []) :: ((2, 2, [], zq111_p6, [eR 0, eU 10, eU 11, eC 81], zq111_w4, zq111_g8), [82], []) :: ((2, 2, [], zq111_p6, [eR 0, eU 10, eU 11, eC 82], zq111_w4, zq111_g8), [83], []) :: ((2, 2, [], zq111_p6, [eR 0, eU 10, eU 11, eC 83], zq111_w4, zq111_g8), [84], []) :: ((2, 2, [], zq111_p6, [eR 0, eU 10, eU 11, eC 84], zq111_w4, zq111_g8), [85], []) :: ((2, 2, [], zq111_p6, [eR 0, eU 10, eU 11, eC 85], zq111_w4, zq111_g8), [86], []) :: ((2, 2, [], zq111_p6, [eR 0, eU 10, eU 11, eC 86], zq111_w4, zq111_g8), [87], []) :: ((2, 2, [], zq111_p6, [eR 0, eU 10, eU 11, eC 87], zq111_w4, zq111_g8), [88], []) :: ((2, 2, [], zq111_p6, [eR 0, eU 10, eU 11, eC 88], zq111_w4, zq111_g8), [89], []) :: ((2, 2, [], zq111_p6, [eR 0, eU 10, eU 11, eC 89], zq111_w4, zq111_g8), [90], []) :: ((2, 2, [], zq111_p6, [eR 0, eU 10, eU 11, eC 90], zq111_w4, zq111_g8), [91], []) :: ((2, 2, [], zq111_p6, [eR 0, eU 10, eU 11, eC 91], zq111_w4, zq111_g8), [92], []) :: ((2, 2, [], zq111_p6, [eR 0, eU 10, eU 11, eC 92], zq111_w4, zq111_g8), [93], []) :: ((2, 2, [], zq111_p6, [eR 0, eU 10, eU 11, eC 93], zq111_w4, zq111_g8), [94], []) :: ((2, 2, [], zq111_p6, [eR 0, eU 10, eU 11, eC 94], zq111_w4, zq111_g8), [95], []) :: ((2, 2, [], zq111_p6, [eR 0, eU 10, eU 11, eC 95], zq111_w4, zq111_g8), [96], []) :: ((2, 2, [], zq111_p6, [eR 0, eU 10, eU 11, eC 96], zq111_w4, zq111_g8), [97], []) :: ((2, 2, [], zq111_p6, [eR 0, eU 10, eU 11, eC 97], zq111_w4, zq111_g8), [98], []) :: ((2, 2, [], zq111_p6, [eR 0, eU 10, eU 11, eC 98], zq111_w4, zq111_g8), [99], []) :: ((2, 2, [], zq111_p6, [eR 0, eU 10, eU 11, eC 99], zq111_w4, zq111_g8), [100], []) :: ((2, 2, [], zq111_p6, [eR 0, eU 10, eU 11, eC 100], zq111_w4, zq111_g8), [101], []) :: ((2, 2, [], zq111_p6, [eR 0, eU 10, eU 11, eC 101], zq111_w4, zq111_g8), [102], []) :: ((2, 2, [], zq111_p6, [eR 0, eU 10, eU 11, eC 102], zq111_w4, zq111_g8), [103], []) :: ((2, 2, [], zq111_p6, [eR 0, eU 10, eU 11, eC 103], zq111_w4, zq111_g8), [104], []) :: ((2, 2, [], zq111_p6, [eR 0, eU 10, eU 11, eC 104], zq111_w4, zq111_g8), [105], []) :: ((2, 2, [], zq111_p6, [eR 0, eU 10, eU 11, eC 105], zq111_w4, zq111_g8), [106], []) :: ((2, 2, [], zq111_p6, [eR 0, eU 10, eU 11, eC 106], zq111_w4, zq111_g8), [107], []) :: ((2, 2, [], zq111_p6, [eR 0, eU 10, eU 11, eC 107], zq111_w4, zq111_g8), [108], []) :: ((2, 2, [], zq111_p6, [eR 0, eU 10, eU 11, eC 108], zq111_w4, zq111_g8), [109], []) :: ((2, 2, [], zq111_p6, [eR 0, eU 10, eU 11, eC 109], zq111_w4, zq111_g8), [110], []) :: ((2, 2, [], zq111_p6, [eR 0, eU 10, eU 11, eC 110], zq111_w4, zq111_g8), [111], []) :: ((2, 2, [], zq111_p6, [eR 0, eU 10, eU 11, eC 111], zq111_w4, zq111_g8), [112], []) :: ((2, 2, [], zq111_p6, [eR 0, eU 10, eU 11, eC 112], zq111_w4, zq111_g8), [113], []) :: ((2, 2, [], zq111_p6, [eR 0, eU 10, eU 11, eC 113], zq111_w4, zq111_g8), [114], []) :: ((2, 2, [], zq111_p6, [eR 0, eU 10, eU 11, eC 114], zq111_w4, zq111_g8), [115], []) :: ((2, 2, [], zq111_p6, [eR 0, eU 10, eU 11, eC 115], zq111_w4, zq111_g8), [116], []) :: ((2, 2, [], zq111_p6, [eR 0, eU 10, eU 11, eC 116], zq111_w4, zq111_g8), [117], []) :: ((2, 2, [], zq111_p6, [eR 0, eU 10, eU 11, eC 117], zq111_w4, zq111_g8), [118], []) :: ((2, 2, [], zq111_p6, [eR 0, eU 10, eU 11, eC 118], zq111_w4, zq111_g8), [119], []) :: ((2, 2, [], zq111_p6, [eR 0, eU 10, eU 11, eC 119], zq111_w4, zq111_g8), [120], []) :: zq111_S3
noncomputable def zq111_S1 : List ZC := ((2, 2, [], zq111_p6, [eR 0, eU 10, eU 11, eC 40], zq111_w4, zq111_g8), [41], []) :: ((2, 2, [], zq111_p6, [eR 0, eU 10, eU 11, eC 41], zq111_w4, zq111_g8), [42], []) :: ((2, 2, [], zq111_p6, [eR 0, eU 10, eU 11, eC 42], zq111_w4, zq111_g8), [43], []) :: ((2, 2, [], zq111_p6, [eR 0, eU 10, eU 11, eC 43], zq111_w4, zq111_g8), [44], []) :: ((2, 2, [], zq111_p6, [eR 0, eU 10, eU 11, eC 44], zq111_w4, zq111_g8), [45], []) :: ((2, 2, [], zq111_p6, [eR 0, eU 10, eU 11, eC 45], zq111_w4, zq111_g8), [46], []) :: ((2, 2, [], zq111_p6, [eR 0, eU 10, eU 11, eC 46], zq111_w4, zq111_g8), [47], []) :: ((2, 2, [], zq111_p6, [eR 0, eU 10, eU 11, eC 47], zq111_w4, zq111_g8), [48], []) :: ((2, 2, [], zq111_p6, [eR 0, eU 10, eU 11, eC 48], zq111_w4, zq111_g8), [49], []) :: ((2, 2, [], zq111_p6, [eR 0, eU 10, eU 11, eC 49], zq111_w4, zq111_g8), [50], []) :: ((2, 2, [], zq111_p6, [eR 0, eU 10, eU 11, eC 50], zq111_w4, zq111_g8), [51], []) :: ((2, 2, [], zq111_p6, [eR 0, eU 10, eU 11, eC 51], zq111_w4, zq111_g8), [52], []) :: ((2, 2, [], zq111_p6, [eR 0, eU 10, eU 11, eC 52], zq111_w4, zq111_g8), [53], []) :: ((2, 2, [], zq111_p6, [eR 0, eU 10, eU 11, eC 53], zq111_w4, zq111_g8), [54], []) :: ((2, 2, [], zq111_p6, [eR 0, eU 10, eU 11, eC 54], zq111_w4, zq111_g8), [55], []) :: ((2, 2, [], zq111_p6, [eR 0, eU 10, eU 11, eC 55], zq111_w4, zq111_g8), [56], []) :: ((2, 2, [], zq111_p6, [eR 0, eU 10, eU 11, eC 56], zq111_w4, zq111_g8), [57], []) :: ((2, 2, [], zq111_p6, [eR 0, eU 10, eU 11, eC 57], zq111_w4, zq111_g8), [58], []) :: ((2, 2, [], zq111_p6, [eR 0, eU 10, eU 11, eC 58], zq111_w4, zq111_g8), [59], []) :: ((2, 2, [], zq111_p6, [eR 0, eU 10, eU 11, eC 59], zq111_w4, zq111_g8), [60], []) :: ((2, 2, [], zq111_p6, [eR 0, eU 10, eU 11, eC 60], zq111_w4, zq111_g8), [61], []) :: ((2, 2, [], zq111_p6, [eR 0, eU 10, eU 11, eC 61], zq111_w4, zq111_g8), [62], []) :: ((2, 2, [], zq111_p6, [eR 0, eU 10, eU 11, eC 62], zq111_w4, zq111_g8), [63], []) :: ((2, 2, [], zq111_p6, [eR 0, eU 10, eU 11, eC 63], zq111_w4, zq111_g8), [64], []) :: ((2, 2, [], zq111_p6, [eR 0, eU 10, eU 11, eC 64], zq111_w4, zq111_g8), [65], []) :: ((2, 2, [], zq111_p6, [eR 0, eU 10, eU 11, eC 65], zq111_w4, zq111_g8), [66], []) :: ((2, 2, [], zq111_p6, [eR 0, eU 10, eU 11, eC 66], zq111_w4, zq111_g8), [67], []) :: ((2, 2, [], zq111_p6, [eR 0, eU 10, eU 11, eC 67], zq111_w4, zq111_g8), [68], []) :: ((2, 2, [], zq111_p6, [eR 0, eU 10, eU 11, eC 68], zq111_w4, zq111_g8), [69], []) :: ((2, 2, [], zq111_p6, [eR 0, eU 10, eU 11, eC 69], zq111_w4, zq111_g8), [70], []) :: ((2, 2, [], zq111_p6, [eR 0, eU 10, eU 11, eC 70], zq111_w4, zq111_g8), [71], []) :: ((2, 2, [], zq111_p6, [eR 0, eU 10, eU 11, eC 71], zq111_w4, zq111_g8), [72], []) :: ((2, 2, [], zq111_p6, [eR 0, eU 10, eU 11, eC 72], zq111_w4, zq111_g8), [73], []) :: ((2, 2, [], zq111_p6, [eR 0, eU 10, eU 11, eC 73], zq111_w4, zq111_g8), [74], []) :: ((2, 2, [], zq111_p6, [eR 0, eU 10, eU 11, eC 74], zq111_w4, zq111_g8), [75], []) :: ((2, 2, [], zq111_p6, [eR 0, eU 10, eU 11, eC 75], zq111_w4, zq111_g8), [76], []) :: ((2, 2, [], zq111_p6, [eR 0, eU 10, eU 11, eC 76], zq111_w4, zq111_g8), [77], []) :: ((2, 2, [], zq111_p6, [eR 0, eU 10, eU 11, eC 77], zq111_w4, zq111_g8), [78], []) :: ((2, 2, [], zq111_p6, [eR 0, eU 10, eU 11, eC 78], zq111_w4, zq111_g8), [79], []) :: ((2, 2, [], zq111_p6, [eR 0, eU 10, eU 11, eC 79], zq111_w4, zq111_g8), [80], []) :: zq111_S2
noncomputable def zq111_S0 : List ZC := ((2, 2, [], zq111_p6, [eR 0, eU 10, eU 11, eC 0], zq111_w4, zq111_g5), [1], []) :: ((2, 2, [], zq111_p6, [eR 0, eU 10, eU 11, eC 1], zq111_w4, zq111_g8), [2], []) :: ((2, 2, [], zq111_p6, [eR 0, eU 10, eU 11, eC 2], zq111_w4, zq111_g8), [3], []) :: ((2, 2, [], zq111_p6, [eR 0, eU 10, eU 11, eC 3], zq111_w4, zq111_g8), [4], []) :: ((2, 2, [], zq111_p6, [eR 0, eU 10, eU 11, eC 4], zq111_w4, zq111_g8), [5], []) :: ((2, 2, [], zq111_p6, [eR 0, eU 10, eU 11, eC 5], zq111_w4, zq111_g8), [6], []) :: ((2, 2, [], zq111_p6, [eR 0, eU 10, eU 11, eC 6], zq111_w4, zq111_g8), [7], []) :: ((2, 2, [], zq111_p6, [eR 0, eU 10, eU 11, eC 7], zq111_w4, zq111_g8), [8], []) :: ((2, 2, [], zq111_p6, [eR 0, eU 10, eU 11, eC 8], zq111_w4, zq111_g8), [9], []) :: ((2, 2, [], zq111_p6, [eR 0, eU 10, eU 11, eC 9], zq111_w4, zq111_g8), [10], []) :: ((2, 2, [], zq111_p6, [eR 0, eU 10, eU 11, eC 10], zq111_w4, zq111_g8), [11], []) :: ((2, 2, [], zq111_p6, [eR 0, eU 10, eU 11, eC 11], zq111_w4, zq111_g8), [12], []) :: ((2, 2, [], zq111_p6, [eR 0, eU 10, eU 11, eC 12], zq111_w4, zq111_g8), [13], []) :: ((2, 2, [], zq111_p6, [eR 0, eU 10, eU 11, eC 13], zq111_w4, zq111_g8), [14], []) :: ((2, 2, [], zq111_p6, [eR 0, eU 10, eU 11, eC 14], zq111_w4, zq111_g8), [15], []) :: ((2, 2, [], zq111_p6, [eR 0, eU 10, eU 11, eC 15], zq111_w4, zq111_g8), [16], []) :: ((2, 2, [], zq111_p6, [eR 0, eU 10, eU 11, eC 16], zq111_w4, zq111_g8), [17], []) :: ((2, 2, [], zq111_p6, [eR 0, eU 10, eU 11, eC 17], zq111_w4, zq111_g8), [18], []) :: ((2, 2, [], zq111_p6, [eR 0, eU 10, eU 11, eC 18], zq111_w4, zq111_g8), [19], []) :: ((2, 2, [], zq111_p6, [eR 0, eU 10, eU 11, eC 19], zq111_w4, zq111_g8), [20], []) :: ((2, 2, [], zq111_p6, [eR 0, eU 10, eU 11, eC 20], zq111_w4, zq111_g8), [21], []) :: ((2, 2, [], zq111_p6, [eR 0, eU 10, eU 11, eC 21], zq111_w4, zq111_g8), [22], []) :: ((2, 2, [], zq111_p6, [eR 0, eU 10, eU 11, eC 22], zq111_w4, zq111_g8), [23], []) :: ((2, 2, [], zq111_p6, [eR 0, eU 10, eU 11, eC 23], zq111_w4, zq111_g8), [24], []) :: ((2, 2, [], zq111_p6, [eR 0, eU 10, eU 11, eC 24], zq111_w4, zq111_g8), [25], []) :: ((2, 2, [], zq111_p6, [eR 0, eU 10, eU 11, eC 25], zq111_w4, zq111_g8), [26], []) :: ((2, 2, [], zq111_p6, [eR 0, eU 10, eU 11, eC 26], zq111_w4, zq111_g8), [27], []) :: ((2, 2, [], zq111_p6, [eR 0, eU 10, eU 11, eC 27], zq111_w4, zq111_g8), [28], []) :: ((2, 2, [], zq111_p6, [eR 0, eU 10, eU 11, eC 28], zq111_w4, zq111_g8), [29], []) :: ((2, 2, [], zq111_p6, [eR 0, eU 10, eU 11, eC 29], zq111_w4, zq111_g8), [30], []) :: ((2, 2, [], zq111_p6, [eR 0, eU 10, eU 11, eC 30], zq111_w4, zq111_g8), [31], []) :: ((2, 2, [], zq111_p6, [eR 0, eU 10, eU 11, eC 31], zq111_w4, zq111_g8), [32], []) :: ((2, 2, [], zq111_p6, [eR 0, eU 10, eU 11, eC 32], zq111_w4, zq111_g8), [33], []) :: ((2, 2, [], zq111_p6, [eR 0, eU 10, eU 11, eC 33], zq111_w4, zq111_g8), [34], []) :: ((2, 2, [], zq111_p6, [eR 0, eU 10, eU 11, eC 34], zq111_w4, zq111_g8), [35], []) :: ((2, 2, [], zq111_p6, [eR 0, eU 10, eU 11, eC 35], zq111_w4, zq111_g8), [36], []) :: ((2, 2, [], zq111_p6, [eR 0, eU 10, eU 11, eC 36], zq111_w4, zq111_g8), [37], []) :: ((2, 2, [], zq111_p6, [eR 0, eU 10, eU 11, eC 37], zq111_w4, zq111_g8), [38], []) :: ((2, 2, [], zq111_p6, [eR 0, eU 10, eU 11, eC 38], zq111_w4, zq111_g8), [39], []) :: ((2, 2, [], zq111_p6, [eR 0, eU 10, eU 11, eC 39], zq111_w4, zq111_g8), [40], []) :: zq111_S1
noncomputable def zq111_K : List ZC := zq111_S0
noncomputable def zq111_e : ERt := zy_ends 18 zq111_n7
theorem zq111_E : zy_spl (fun g => zy_en (zp_X9_layAll, 4, 0, 0) (zX zS_no 8) zq111_e [2] 100000 (zy_B 18 zq111_K [0]) ([eR 0, eU 10, eU 11] : List EV) zq111_w4 g) [] zq111_g5 = true := by decide +kernel
noncomputable def zq111_f (i : Nat) : Bool := zy_f 18 zp_X9_layAll (zX zS_no 8) 0 0 zq111_e [2] 100000 zq111_K i
theorem zq111_0 : zy_ch zq111_f 0 60 = true := by decide +kernel
theorem zq111_60 : zy_ch zq111_f 60 60 = true := by decide +kernel
theorem zq111_120 : zy_ch zq111_f 120 60 = true := by decide +kernel
theorem zq111_180 : zy_ch zq111_f 180 28 = true := by decide +kernel
theorem zq111_n : zq111_K.length = 208 := by decide +kernel
def zq111_p9 : List (Nat × Nat) := [(0, 3), (0, 4), (0, 5), (0, 6), (0, 7), (0, 8)]
noncomputable def zc111 : ECal := zf_cal 111 10 [.inl 0, .inr (0, 0), .inr (0, 2)] [1, 2] zq111_p9 [(0, 1)] ([eR 0, eU 10, eU 11] : List EV) zq111_w4 zq111_g5 zq111_n7
theorem zc111_ok : ZE zc111 12 := ZE.met (n := 8) (es := zq111_n7) (hd := [2]) (F := 100000) (KS := zq111_K) (js := [0]) (sp0 := []) (by decide) zS_no_ok (y0 := 111) (q := (yX9_layAll, cX9_layAll, 4, none, 9, 0, 0)) rfl ⟨rfl, rfl⟩ (m9 := (zp_X9_layAll, 4, 0, 0)) rfl rfl (zy_nx_ok (by decide +kernel)) (N2 := 18) (by decide +kernel) (by decide) zq111_E (fun i hi => (show ∀ i, i < 208 → zq111_f i = true from fun i hi => if h0 : i < 60 then zy_ch_ok zq111_0 i (by omega) (by omega) else if h60 : i < 120 then zy_ch_ok zq111_60 i (by omega) (by omega) else if h120 : i < 180 then zy_ch_ok zq111_120 i (by omega) (by omega) else zy_ch_ok zq111_180 i (by omega) (by omega)) i (by have h9 := hi; rw [zq111_n] at h9; exact h9))
noncomputable def zq114_e0 : EC := (9, [eX 42, eX 43, eR 1, eU 13, eU 14, eU 15, eU 16, eU 17, eU 18])
noncomputable def zq114_e1 : EC := (1100, [eC 20, eC 0, eC 4294967295])
noncomputable def zq114_c2 : List EC := [zq114_e0, zq114_e1]
noncomputable def zq114_w3 : EW := (2, [zq114_c2])
def zq114_g4 : EG := [(0, 4294967295), (0, 4294967295), (0, 4294967295), (0, 4294967295), (0, 4294967295), (0, 4294967295), (0, 4294967295), (0, 4294967295), (0, 4294967295), (0, 4294967295), (0, 4294967295), (0, 4294967295), (0, 4294967295), (2147483648, 2147483653), (2147483648, 2147483653), (0, 4294967295), (0, 4294967295), (0, 4294967295), (0, 4294967295)]
def zq114_p5 : List (Nat × Nat) := []
noncomputable def zq114_g6 : EG := zq114_g4 ++ [(2147483646, 2147483652)]
noncomputable def zq114_n7 : List ZN := [(some (eU 19), [0], zq114_p5, zq114_w3, zq114_g6)]
noncomputable def zq114_g8 : EG := zy_su [(10, 2147483648, 2147483652), (11, 2147483648, 2147483652), (12, 2147483648, 2147483652), (13, 2147483649, 2147483653), (14, 2147483649, 2147483653)] zq114_g4
noncomputable def zq114_g9 : EG := zy_su [(10, 2147483648, 2147483652), (11, 2147483648, 2147483652), (12, 2147483648, 2147483652), (13, 2147483649, 2147483653), (14, 2147483649, 2147483653)] zq114_g4 ++ [(2147483648, 2147483649), (2147483648, 2147483664)]
noncomputable def zq114_g10 : EG := zy_su [(10, 2147483648, 2147483652), (11, 2147483648, 2147483652), (12, 2147483648, 2147483652), (13, 2147483649, 2147483653), (14, 2147483649, 2147483653)] zq114_g4 ++ [(2147483648, 2147483650), (2147483649, 2147483665)]
noncomputable def zq114_g11 : EG := zy_su [(10, 2147483648, 2147483652), (11, 2147483648, 2147483652), (12, 2147483648, 2147483652), (13, 2147483649, 2147483653), (14, 2147483649, 2147483653)] zq114_g4 ++ [(2147483648, 2147483651), (2147483650, 2147483666)]
noncomputable def zq114_g12 : EG := zy_su [(10, 2147483648, 2147483652), (11, 2147483648, 2147483652), (12, 2147483648, 2147483652), (13, 2147483649, 2147483653), (14, 2147483649, 2147483653)] zq114_g4 ++ [(2147483648, 2147483652), (2147483651, 2147483667)]
noncomputable def zq114_S0 : List ZC := ((21, 37, [], zq114_p5, [eR 0, eU 10, eU 11, eU 12, eC 0, eC 0, eX 1], zq114_w3, zq114_g8), [1], []) :: ((21, 37, [4, 6], zq114_p5, [eR 0, eU 10, eU 11, eU 12, eU 19, eC 1, eU 20], zq114_w3, zq114_g9), [2], []) :: ((21, 37, [4, 6], zq114_p5, [eR 0, eU 10, eU 11, eU 12, eU 19, eC 2, eU 20], zq114_w3, zq114_g10), [3], []) :: ((21, 37, [4, 6], zq114_p5, [eR 0, eU 10, eU 11, eU 12, eU 19, eC 3, eU 20], zq114_w3, zq114_g11), [4], []) :: ((21, 37, [4, 6], zq114_p5, [eR 0, eU 10, eU 11, eU 12, eU 19, eC 4, eU 20], zq114_w3, zq114_g12), [], []) :: []
noncomputable def zq114_K : List ZC := zq114_S0
noncomputable def zq114_e : ERt := zy_ends 19 zq114_n7
theorem zq114_E : zy_spl (fun g => zy_en (zp_X9_give, 7, 0, 0) (zX zS_no 8) zq114_e [37] 100000 (zy_B 19 zq114_K [0]) ([eR 0, eU 10, eU 11, eU 12] : List EV) zq114_w3 g) [] zq114_g4 = true := by decide +kernel
noncomputable def zq114_f (i : Nat) : Bool := zy_f 19 zp_X9_give (zX zS_no 8) 0 0 zq114_e [37] 100000 zq114_K i
theorem zq114_0 : zy_ch zq114_f 0 5 = true := by decide +kernel
theorem zq114_n : zq114_K.length = 5 := by decide +kernel
def zq114_p13 : List (Nat × Nat) := [(0, 3), (0, 4), (0, 5), (0, 6), (0, 7), (0, 8)]
noncomputable def zc114 : ECal := zf_cal 114 10 [.inl 0, .inr (0, 2)] [1, 2, 3] zq114_p13 [(0, 0), (0, 1)] ([eR 0, eU 10, eU 11, eU 12] : List EV) zq114_w3 zq114_g4 zq114_n7
theorem zc114_ok : ZE zc114 12 := ZE.met (n := 8) (es := zq114_n7) (hd := [37]) (F := 100000) (KS := zq114_K) (js := [0]) (sp0 := []) (by decide) zS_no_ok (y0 := 114) (q := (yX9_give, cX9_give, 7, (some .int), 9, 0, 0)) rfl ⟨rfl, rfl⟩ (m9 := (zp_X9_give, 7, 0, 0)) rfl rfl (zy_nx_ok (by decide +kernel)) (N2 := 19) (by decide +kernel) (by decide) zq114_E (fun i hi => (show ∀ i, i < 5 → zq114_f i = true from fun i hi => zy_ch_ok zq114_0 i (by omega) (by omega)) i (by have h9 := hi; rw [zq114_n] at h9; exact h9))
noncomputable def zq115_e0 : EC := (9, [eX 42, eR 1, eR 2, eU 11, eU 12, eU 13, eU 14, eU 15, eU 16])
noncomputable def zq115_e1 : EC := (1100, [eC 5, eC 0, eC 4294967295])
noncomputable def zq115_e2 : EC := (1100, [eC 20, eC 0, eC 4294967295])
noncomputable def zq115_c3 : List EC := [zq115_e0, zq115_e1, zq115_e2]
noncomputable def zq115_w4 : EW := (3, [zq115_c3])
def zq115_g5 : EG := [(0, 4294967295), (0, 4294967295), (0, 4294967295), (0, 4294967295), (0, 4294967295), (0, 4294967295), (0, 4294967295), (0, 4294967295), (0, 4294967295), (0, 4294967295), (0, 4294967295), (2147483648, 2147483653), (2147483648, 2147483653), (0, 4294967295), (0, 4294967295), (0, 4294967295), (0, 4294967295)]
def zq115_p6 : List (Nat × Nat) := []
noncomputable def zq115_g7 : EG := zq115_g5 ++ [(2147483646, 2147483668)]
noncomputable def zq115_n8 : List ZN := [(some (eU 17), [0], zq115_p6, zq115_w4, zq115_g7)]
noncomputable def zq115_g9 : EG := zy_su [(10, 2147483648, 2147483652), (12, 2147483649, 2147483653)] zq115_g5
noncomputable def zq115_g10 : EG := zy_su [(10, 2147483648, 2147483652), (12, 2147483649, 2147483653)] zq115_g5 ++ [(2147483648, 2147483649)]
noncomputable def zq115_g11 : EG := zy_su [(10, 2147483648, 2147483652), (12, 2147483649, 2147483653)] zq115_g5 ++ [(2147483648, 2147483650)]
noncomputable def zq115_g12 : EG := zy_su [(10, 2147483648, 2147483652), (12, 2147483649, 2147483653)] zq115_g5 ++ [(2147483648, 2147483651)]
noncomputable def zq115_g13 : EG := zy_su [(10, 2147483648, 2147483652), (12, 2147483649, 2147483653)] zq115_g5 ++ [(2147483648, 2147483652)]
noncomputable def zq115_g14 : EG := zy_su [(10, 2147483648, 2147483652), (12, 2147483649, 2147483653)] zq115_g5 ++ [(2147483648, 2147483653)]
noncomputable def zq115_g15 : EG := zy_su [(10, 2147483648, 2147483652), (12, 2147483649, 2147483653)] zq115_g5 ++ [(2147483648, 2147483654)]
noncomputable def zq115_g16 : EG := zy_su [(10, 2147483648, 2147483652), (12, 2147483649, 2147483653)] zq115_g5 ++ [(2147483648, 2147483655)]
noncomputable def zq115_g17 : EG := zy_su [(10, 2147483648, 2147483652), (12, 2147483649, 2147483653)] zq115_g5 ++ [(2147483648, 2147483656)]
noncomputable def zq115_g18 : EG := zy_su [(10, 2147483648, 2147483652), (12, 2147483649, 2147483653)] zq115_g5 ++ [(2147483648, 2147483657)]
noncomputable def zq115_g19 : EG := zy_su [(10, 2147483648, 2147483652), (12, 2147483649, 2147483653)] zq115_g5 ++ [(2147483648, 2147483658)]
noncomputable def zq115_g20 : EG := zy_su [(10, 2147483648, 2147483652), (12, 2147483649, 2147483653)] zq115_g5 ++ [(2147483648, 2147483659)]
noncomputable def zq115_g21 : EG := zy_su [(10, 2147483648, 2147483652), (12, 2147483649, 2147483653)] zq115_g5 ++ [(2147483648, 2147483660)]
noncomputable def zq115_g22 : EG := zy_su [(10, 2147483648, 2147483652), (12, 2147483649, 2147483653)] zq115_g5 ++ [(2147483648, 2147483661)]
noncomputable def zq115_g23 : EG := zy_su [(10, 2147483648, 2147483652), (12, 2147483649, 2147483653)] zq115_g5 ++ [(2147483648, 2147483662)]
noncomputable def zq115_g24 : EG := zy_su [(10, 2147483648, 2147483652), (12, 2147483649, 2147483653)] zq115_g5 ++ [(2147483648, 2147483663)]
noncomputable def zq115_g25 : EG := zy_su [(10, 2147483648, 2147483652), (12, 2147483649, 2147483653)] zq115_g5 ++ [(2147483648, 2147483664)]
noncomputable def zq115_g26 : EG := zy_su [(10, 2147483648, 2147483652), (12, 2147483649, 2147483653)] zq115_g5 ++ [(2147483648, 2147483665)]
noncomputable def zq115_g27 : EG := zy_su [(10, 2147483648, 2147483652), (12, 2147483649, 2147483653)] zq115_g5 ++ [(2147483648, 2147483666)]
noncomputable def zq115_g28 : EG := zy_su [(10, 2147483648, 2147483652), (12, 2147483649, 2147483653)] zq115_g5 ++ [(2147483648, 2147483667)]
noncomputable def zq115_g29 : EG := zy_su [(10, 2147483648, 2147483652), (12, 2147483649, 2147483653)] zq115_g5 ++ [(2147483648, 2147483668)]
noncomputable def zq115_S0 : List ZC := ((10, 14, [], zq115_p6, [eR 0, eU 10, eC 0, eC 0], zq115_w4, zq115_g9), [1], []) :: ((10, 14, [2], zq115_p6, [eR 0, eU 10, eU 17, eC 1], zq115_w4, zq115_g10), [2], []) :: ((10, 14, [2], zq115_p6, [eR 0, eU 10, eU 17, eC 2], zq115_w4, zq115_g11), [3], []) :: ((10, 14, [2], zq115_p6, [eR 0, eU 10, eU 17, eC 3], zq115_w4, zq115_g12), [4], []) :: ((10, 14, [2], zq115_p6, [eR 0, eU 10, eU 17, eC 4], zq115_w4, zq115_g13), [5], []) :: ((10, 14, [2], zq115_p6, [eR 0, eU 10, eU 17, eC 5], zq115_w4, zq115_g14), [6], []) :: ((10, 14, [2], zq115_p6, [eR 0, eU 10, eU 17, eC 6], zq115_w4, zq115_g15), [7], []) :: ((10, 14, [2], zq115_p6, [eR 0, eU 10, eU 17, eC 7], zq115_w4, zq115_g16), [8], []) :: ((10, 14, [2], zq115_p6, [eR 0, eU 10, eU 17, eC 8], zq115_w4, zq115_g17), [9], []) :: ((10, 14, [2], zq115_p6, [eR 0, eU 10, eU 17, eC 9], zq115_w4, zq115_g18), [10], []) :: ((10, 14, [2], zq115_p6, [eR 0, eU 10, eU 17, eC 10], zq115_w4, zq115_g19), [11], []) :: ((10, 14, [2], zq115_p6, [eR 0, eU 10, eU 17, eC 11], zq115_w4, zq115_g20), [12], []) :: ((10, 14, [2], zq115_p6, [eR 0, eU 10, eU 17, eC 12], zq115_w4, zq115_g21), [13], []) :: ((10, 14, [2], zq115_p6, [eR 0, eU 10, eU 17, eC 13], zq115_w4, zq115_g22), [14], []) :: ((10, 14, [2], zq115_p6, [eR 0, eU 10, eU 17, eC 14], zq115_w4, zq115_g23), [15], []) :: ((10, 14, [2], zq115_p6, [eR 0, eU 10, eU 17, eC 15], zq115_w4, zq115_g24), [16], []) :: ((10, 14, [2], zq115_p6, [eR 0, eU 10, eU 17, eC 16], zq115_w4, zq115_g25), [17], []) :: ((10, 14, [2], zq115_p6, [eR 0, eU 10, eU 17, eC 17], zq115_w4, zq115_g26), [18], []) :: ((10, 14, [2], zq115_p6, [eR 0, eU 10, eU 17, eC 18], zq115_w4, zq115_g27), [19], []) :: ((10, 14, [2], zq115_p6, [eR 0, eU 10, eU 17, eC 19], zq115_w4, zq115_g28), [20], []) :: ((10, 14, [2], zq115_p6, [eR 0, eU 10, eU 17, eC 20], zq115_w4, zq115_g29), [], []) :: []
noncomputable def zq115_K : List ZC := zq115_S0
noncomputable def zq115_e : ERt := zy_ends 17 zq115_n8
theorem zq115_E : zy_spl (fun g => zy_en (zp_X9_letFall, 4, 0, 0) (zX zS_no 8) zq115_e [14] 100000 (zy_B 17 zq115_K [0]) ([eR 0, eU 10] : List EV) zq115_w4 g) [] zq115_g5 = true := by decide +kernel
noncomputable def zq115_f (i : Nat) : Bool := zy_f 17 zp_X9_letFall (zX zS_no 8) 0 0 zq115_e [14] 100000 zq115_K i
theorem zq115_0 : zy_ch zq115_f 0 21 = true := by decide +kernel
theorem zq115_n : zq115_K.length = 21 := by decide +kernel
def zq115_p30 : List (Nat × Nat) := [(0, 3), (0, 4), (0, 5), (0, 6), (0, 7), (0, 8)]
noncomputable def zc115 : ECal := zf_cal 115 10 [.inl 0, .inr (0, 1), .inr (0, 2)] [1] zq115_p30 [(0, 0)] ([eR 0, eU 10] : List EV) zq115_w4 zq115_g5 zq115_n8
theorem zc115_ok : ZE zc115 12 := ZE.met (n := 8) (es := zq115_n8) (hd := [14]) (F := 100000) (KS := zq115_K) (js := [0]) (sp0 := []) (by decide) zS_no_ok (y0 := 115) (q := (yX9_letFall, cX9_letFall, 4, (some .int), 9, 0, 0)) rfl ⟨rfl, rfl⟩ (m9 := (zp_X9_letFall, 4, 0, 0)) rfl rfl (zy_nx_ok (by decide +kernel)) (N2 := 17) (by decide +kernel) (by decide) zq115_E (fun i hi => (show ∀ i, i < 21 → zq115_f i = true from fun i hi => zy_ch_ok zq115_0 i (by omega) (by omega)) i (by have h9 := hi; rw [zq115_n] at h9; exact h9))
noncomputable def zq117_e0 : EC := (9, [eX 42, eR 1, eR 2, eU 11, eU 12, eU 13, eU 14, eU 15, eU 16])
noncomputable def zq117_e1 : EC := (1100, [eC 5, eC 0, eC 4294967295])
noncomputable def zq117_e2 : EC := (1100, [eC 20, eC 0, eC 4294967295])
noncomputable def zq117_c3 : List EC := [zq117_e0, zq117_e1, zq117_e2]
noncomputable def zq117_w4 : EW := (3, [zq117_c3])
def zq117_g5 : EG := [(0, 4294967295), (0, 4294967295), (0, 4294967295), (0, 4294967295), (0, 4294967295), (0, 4294967295), (0, 4294967295), (0, 4294967295), (0, 4294967295), (0, 4294967295), (0, 4294967295), (2147483648, 2147483653), (2147483648, 2147483653), (0, 4294967295), (0, 4294967295), (0, 4294967295), (0, 4294967295)]
def zq117_p6 : List (Nat × Nat) := []
noncomputable def zq117_g7 : EG := zq117_g5 ++ [(2147483648, 2147483649)]
noncomputable def zq117_n8 : List ZN := [(some (eU 17), [0], zq117_p6, zq117_w4, zq117_g7)]
noncomputable def zq117_g9 : EG := zq117_g5 ++ [(0, 4294967295)]
noncomputable def zq117_S0 : List ZC := ((6, 8, [2], zq117_p6, [eR 0, eU 10, eU 17, eC 0], zq117_w4, zq117_g9), [1], []) :: ((6, 8, [2], zq117_p6, [eR 0, eU 10, eU 17, eC 1], zq117_w4, zq117_g9), [2], []) :: ((6, 8, [2], zq117_p6, [eR 0, eU 10, eU 17, eC 2], zq117_w4, zq117_g9), [3], []) :: ((6, 8, [2], zq117_p6, [eR 0, eU 10, eU 17, eC 3], zq117_w4, zq117_g9), [4], []) :: ((6, 8, [2], zq117_p6, [eR 0, eU 10, eU 17, eC 4], zq117_w4, zq117_g9), [5], []) :: ((6, 8, [2], zq117_p6, [eR 0, eU 10, eU 17, eC 5], zq117_w4, zq117_g9), [6], []) :: ((6, 8, [2], zq117_p6, [eR 0, eU 10, eU 17, eC 6], zq117_w4, zq117_g9), [7], []) :: ((6, 8, [2], zq117_p6, [eR 0, eU 10, eU 17, eC 7], zq117_w4, zq117_g9), [8], []) :: ((6, 8, [2], zq117_p6, [eR 0, eU 10, eU 17, eC 8], zq117_w4, zq117_g9), [9], []) :: ((6, 8, [2], zq117_p6, [eR 0, eU 10, eU 17, eC 9], zq117_w4, zq117_g9), [10], []) :: ((6, 8, [2], zq117_p6, [eR 0, eU 10, eU 17, eC 10], zq117_w4, zq117_g9), [11], []) :: ((6, 8, [2], zq117_p6, [eR 0, eU 10, eU 17, eC 11], zq117_w4, zq117_g9), [12], []) :: ((6, 8, [2], zq117_p6, [eR 0, eU 10, eU 17, eC 12], zq117_w4, zq117_g9), [13], []) :: ((6, 8, [2], zq117_p6, [eR 0, eU 10, eU 17, eC 13], zq117_w4, zq117_g9), [14], []) :: ((6, 8, [2], zq117_p6, [eR 0, eU 10, eU 17, eC 14], zq117_w4, zq117_g9), [15], []) :: ((6, 8, [2], zq117_p6, [eR 0, eU 10, eU 17, eC 15], zq117_w4, zq117_g9), [16], []) :: ((6, 8, [2], zq117_p6, [eR 0, eU 10, eU 17, eC 16], zq117_w4, zq117_g9), [17], []) :: ((6, 8, [2], zq117_p6, [eR 0, eU 10, eU 17, eC 17], zq117_w4, zq117_g9), [18], []) :: ((6, 8, [2], zq117_p6, [eR 0, eU 10, eU 17, eC 18], zq117_w4, zq117_g9), [19], []) :: ((6, 8, [2], zq117_p6, [eR 0, eU 10, eU 17, eC 19], zq117_w4, zq117_g9), [20], []) :: ((6, 8, [2], zq117_p6, [eR 0, eU 10, eU 17, eC 20], zq117_w4, zq117_g9), [], []) :: []
noncomputable def zq117_K : List ZC := zq117_S0
noncomputable def zq117_e : ERt := zy_ends 17 zq117_n8
theorem zq117_E : zy_spl (fun g => zy_en (zp_X9_pickUp, 4, 0, 0) (zX zS_no 8) zq117_e [8] 100000 (zy_B 17 zq117_K [0]) ([eR 0, eU 10] : List EV) zq117_w4 g) [] zq117_g5 = true := by decide +kernel
noncomputable def zq117_f (i : Nat) : Bool := zy_f 17 zp_X9_pickUp (zX zS_no 8) 0 0 zq117_e [8] 100000 zq117_K i
theorem zq117_0 : zy_ch zq117_f 0 21 = true := by decide +kernel
theorem zq117_n : zq117_K.length = 21 := by decide +kernel
def zq117_p10 : List (Nat × Nat) := [(0, 3), (0, 4), (0, 5), (0, 6), (0, 7), (0, 8)]
noncomputable def zc117 : ECal := zf_cal 117 10 [.inl 0, .inr (0, 1), .inr (0, 2)] [1] zq117_p10 [(0, 0)] ([eR 0, eU 10] : List EV) zq117_w4 zq117_g5 zq117_n8
theorem zc117_ok : ZE zc117 12 := ZE.met (n := 8) (es := zq117_n8) (hd := [8]) (F := 100000) (KS := zq117_K) (js := [0]) (sp0 := []) (by decide) zS_no_ok (y0 := 117) (q := (yX9_pickUp, cX9_pickUp, 4, (some .int), 9, 0, 0)) rfl ⟨rfl, rfl⟩ (m9 := (zp_X9_pickUp, 4, 0, 0)) rfl rfl (zy_nx_ok (by decide +kernel)) (N2 := 17) (by decide +kernel) (by decide) zq117_E (fun i hi => (show ∀ i, i < 21 → zq117_f i = true from fun i hi => zy_ch_ok zq117_0 i (by omega) (by omega)) i (by have h9 := hi; rw [zq117_n] at h9; exact h9))
noncomputable def zq127_e0 : EC := (11, [eR 1, eX 43, eX 44, eX 45, eX 46, eX 47, eX 48, eX 49, eX 50, eX 51, eX 52, eX 53, eX 54])
noncomputable def zq127_e1 : EC := (6, [eX 42, eU 11])
noncomputable def zq127_c2 : List EC := [zq127_e0, zq127_e1]
noncomputable def zq127_w3 : EW := (2, [zq127_c2])
def zq127_g4 : EG := [(0, 4294967295), (0, 4294967295), (0, 4294967295), (0, 4294967295), (0, 4294967295), (0, 4294967295), (0, 4294967295), (0, 4294967295), (0, 4294967295), (0, 4294967295), (0, 4294967295), (2147483648, 2147483728)]
def zq127_p5 : List (Nat × Nat) := [(1, 1)]
noncomputable def zq127_e6 : EC := (6, [eX 42, eU 13])
noncomputable def zq127_c7 : List EC := [zq127_e0, zq127_e6]
noncomputable def zq127_w8 : EW := (2, [zq127_c7])
noncomputable def zq127_g9 : EG := zq127_g4 ++ [(2147483648, 2147483649), (2147483648, 2147483728)]
noncomputable def zq127_n10 : List ZN := [(some (eU 12), [0], zq127_p5, zq127_w8, zq127_g9)]
noncomputable def zq127_K : List ZC := []
noncomputable def zq127_e : ERt := zy_ends 12 zq127_n10
theorem zq127_E : zy_spl (fun g => zy_en (zp_X11_end, 2, 0, 0) (zX zS_no 8) zq127_e [] 100000 (zy_B 12 zq127_K []) ([eR 0, eU 10] : List EV) zq127_w3 g) [] zq127_g4 = true := by decide +kernel
noncomputable def zq127_f (i : Nat) : Bool := zy_f 12 zp_X11_end (zX zS_no 8) 0 0 zq127_e [] 100000 zq127_K i
noncomputable def zc127 : ECal := zf_cal 127 10 [.inl 0, .inr (0, 0)] [1] zq127_p5 [(1, 0), (0, 1), (0, 2), (0, 3), (0, 4), (0, 5), (0, 6), (0, 7), (0, 8), (0, 9), (0, 10), (0, 11), (0, 12)] ([eR 0, eU 10] : List EV) zq127_w3 zq127_g4 zq127_n10
theorem zc127_ok : ZE zc127 12 := ZE.met (n := 8) (es := zq127_n10) (hd := []) (F := 100000) (KS := zq127_K) (js := []) (sp0 := []) (by decide) zS_no_ok (y0 := 127) (q := (yX11_end, cX11_end, 2, (some .boolean), 11, 0, 0)) rfl ⟨rfl, rfl⟩ (m9 := (zp_X11_end, 2, 0, 0)) rfl rfl (zy_nx_ok (by decide +kernel)) (N2 := 12) (by decide +kernel) (by decide) zq127_E (fun i hi => absurd (show i < 0 from hi) (Nat.not_lt_zero i))
noncomputable def zq134_e0 : EC := (11, [eX 42, eX 43, eR 1, eX 46, eX 47, eX 48, eX 49, eX 50, eX 51, eX 52, eX 53, eX 54, eX 55])
noncomputable def zq134_e1 : EC := (9, [eX 44, eR 2, eX 45, eU 14, eU 15, eU 16, eU 17, eU 18, eU 19])
noncomputable def zq134_e2 : EC := (1100, [eC 5, eC 0, eC 4294967295])
noncomputable def zq134_c3 : List EC := [zq134_e0, zq134_e1, zq134_e2]
noncomputable def zq134_w4 : EW := (3, [zq134_c3])
def zq134_g5 : EG := [(0, 4294967295), (0, 4294967295), (0, 4294967295), (0, 4294967295), (0, 4294967295), (0, 4294967295), (0, 4294967295), (0, 4294967295), (0, 4294967295), (0, 4294967295), (0, 4294967295), (0, 4294967295), (0, 4294967295), (0, 4294967295), (2147483648, 2147483653), (2147483648, 2147483653), (0, 4294967295), (0, 4294967295), (0, 4294967295), (0, 4294967295)]
def zq134_p6 : List (Nat × Nat) := []
noncomputable def zq134_g7 : EG := zq134_g5 ++ [(2147483645, 2147483683)]
noncomputable def zq134_n8 : List ZN := [(some (eU 20), [0], zq134_p6, zq134_w4, zq134_g7)]
noncomputable def zq134_g9 : EG := zy_su [(10, 2147483648, 2147483651), (11, 0, 2147483653)] zq134_g5 ++ [(2147483648, 2147483649)]
noncomputable def zq134_g10 : EG := zy_su [(10, 2147483648, 2147483651), (11, 0, 2147483653), (15, 2147483649, 2147483653)] zq134_g5 ++ [(2147483648, 2147483649), (2147483648, 2147483655), (2147483648, 2147483655)]
noncomputable def zq134_g11 : EG := zy_su [(10, 2147483648, 2147483651), (11, 0, 2147483653), (15, 2147483650, 2147483653)] zq134_g5 ++ [(2147483648, 2147483649), (2147483648, 2147483662), (2147483648, 2147483655)]
noncomputable def zq134_g12 : EG := zy_su [(10, 2147483648, 2147483651), (11, 0, 2147483653), (15, 2147483651, 2147483653)] zq134_g5 ++ [(2147483648, 2147483649), (2147483648, 2147483669), (2147483648, 2147483655)]
noncomputable def zq134_g13 : EG := zy_su [(10, 2147483648, 2147483651), (11, 0, 2147483653), (15, 2147483652, 2147483653)] zq134_g5 ++ [(2147483648, 2147483649), (2147483648, 2147483676), (2147483648, 2147483655)]
noncomputable def zq134_g14 : EG := zy_su [(10, 2147483648, 2147483651), (11, 0, 2147483653), (15, 2147483653, 2147483653)] zq134_g5 ++ [(2147483648, 2147483649), (2147483648, 2147483683), (2147483648, 2147483655)]
noncomputable def zq134_S0 : List ZC := ((27, 46, [5], zq134_p6, [eR 0, eU 10, eU 11, eU 12, eU 13, eU 20, eC 0, eC 0, eX 1], zq134_w4, zq134_g9), [1], []) :: ((27, 46, [5, 6, 8], zq134_p6, [eR 0, eU 10, eU 11, eU 12, eU 13, eU 20, eU 21, eC 1, eU 22], zq134_w4, zq134_g10), [2], []) :: ((27, 46, [5, 6, 8], zq134_p6, [eR 0, eU 10, eU 11, eU 12, eU 13, eU 20, eU 21, eC 2, eU 22], zq134_w4, zq134_g11), [3], []) :: ((27, 46, [5, 6, 8], zq134_p6, [eR 0, eU 10, eU 11, eU 12, eU 13, eU 20, eU 21, eC 3, eU 22], zq134_w4, zq134_g12), [4], []) :: ((27, 46, [5, 6, 8], zq134_p6, [eR 0, eU 10, eU 11, eU 12, eU 13, eU 20, eU 21, eC 4, eU 22], zq134_w4, zq134_g13), [5], []) :: ((27, 46, [5, 6, 8], zq134_p6, [eR 0, eU 10, eU 11, eU 12, eU 13, eU 20, eU 21, eC 5, eU 22], zq134_w4, zq134_g14), [], []) :: []
noncomputable def zq134_K : List ZC := zq134_S0
noncomputable def zq134_e : ERt := zy_ends 20 zq134_n8
theorem zq134_E : zy_spl (fun g => zy_en (zp_X11_sheet, 9, 0, 0) (zX zS_no 8) zq134_e [46] 100000 (zy_B 20 zq134_K [0]) ([eR 0, eU 10, eU 11, eU 12, eU 13] : List EV) zq134_w4 g) [] zq134_g5 = true := by decide +kernel
noncomputable def zq134_f (i : Nat) : Bool := zy_f 20 zp_X11_sheet (zX zS_no 8) 0 0 zq134_e [46] 100000 zq134_K i
theorem zq134_0 : zy_ch zq134_f 0 6 = true := by decide +kernel
theorem zq134_n : zq134_K.length = 6 := by decide +kernel
def zq134_p15 : List (Nat × Nat) := [(1, 3), (1, 4), (1, 5), (1, 6), (1, 7), (1, 8)]
noncomputable def zc134 : ECal := zf_cal 134 10 [.inl 0, .inr (0, 2), .inr (1, 1)] [1, 2, 3, 4] zq134_p15 [(0, 0), (0, 1), (1, 0), (1, 2), (0, 3), (0, 4), (0, 5), (0, 6), (0, 7), (0, 8), (0, 9), (0, 10), (0, 11), (0, 12)] ([eR 0, eU 10, eU 11, eU 12, eU 13] : List EV) zq134_w4 zq134_g5 zq134_n8
theorem zc134_ok : ZE zc134 12 := ZE.met (n := 8) (es := zq134_n8) (hd := [46]) (F := 100000) (KS := zq134_K) (js := [0]) (sp0 := []) (by decide) zS_no_ok (y0 := 134) (q := (yX11_sheet, cX11_sheet, 9, (some .int), 11, 0, 0)) rfl ⟨rfl, rfl⟩ (m9 := (zp_X11_sheet, 9, 0, 0)) rfl rfl (zy_nx_ok (by decide +kernel)) (N2 := 20) (by decide +kernel) (by decide) zq134_E (fun i hi => (show ∀ i, i < 6 → zq134_f i = true from fun i hi => zy_ch_ok zq134_0 i (by omega) (by omega)) i (by have h9 := hi; rw [zq134_n] at h9; exact h9))
noncomputable def zq159_e0 : EC := (11, [eX 42, eX 43, eR 1, eX 45, eX 46, eX 47, eX 48, eX 49, eR 4, eX 51, eX 52, eX 53, eX 54])
noncomputable def zq159_e1 : EC := (9, [eR 2, eX 44, eR 3, eU 13, eU 14, eU 15, eU 16, eU 17, eU 18])
noncomputable def zq159_e2 : EC := (1100, [eC 5, eC 2147483600, eC 2147483855])
noncomputable def zq159_e3 : EC := (1100, [eC 20, eC 0, eC 4294967295])
noncomputable def zq159_e4 : EC := (8, [eR 5, eX 50])
noncomputable def zq159_e5 : EC := (2, [eR 6, eU 19, eU 20])
noncomputable def zq159_e6 : EC := (1100, [eC 36, eC 0, eC 4294967295])
noncomputable def zq159_c7 : List EC := [zq159_e0, zq159_e1, zq159_e2, zq159_e3, zq159_e4, zq159_e5, zq159_e6]
noncomputable def zq159_w8 : EW := (7, [zq159_c7])
def zq159_g9 : EG := [(0, 4294967295), (0, 4294967295), (0, 4294967295), (0, 4294967295), (0, 4294967295), (0, 4294967295), (0, 4294967295), (0, 4294967295), (0, 4294967295), (0, 4294967295), (0, 4294967295), (0, 4294967295), (0, 4294967295), (2147483648, 2147483653), (2147483648, 2147483653), (0, 4294967295), (0, 4294967295), (0, 4294967295), (0, 4294967295), (2147483658, 2147483660), (2147483648, 2147483660)]
def zq159_p10 : List (Nat × Nat) := [(5, 2)]
noncomputable def zq159_e11 : EC := (2, [eR 6, eU 19, eU 22])
noncomputable def zq159_c12 : List EC := [zq159_e0, zq159_e1, zq159_e2, zq159_e3, zq159_e4, zq159_e11, zq159_e6]
noncomputable def zq159_w13 : EW := (7, [zq159_c12])
noncomputable def zq159_g14 : EG := zq159_g9 ++ [(2147483646, 2147483660), (2147483648, 2147483660)]
noncomputable def zq159_n15 : List ZN := [(some (eU 21), [0], zq159_p10, zq159_w13, zq159_g14)]
noncomputable def zq159_K : List ZC := []
noncomputable def zq159_e : ERt := zy_ends 21 zq159_n15
theorem zq159_E : zy_spl (fun g => zy_en (zp_X11_seen, 4, 0, 0) (zX zS_no 8) zq159_e [] 100000 (zy_B 21 zq159_K []) ([eR 0, eU 10, eU 11, eU 12] : List EV) zq159_w8 g) [] zq159_g9 = true := by decide +kernel
noncomputable def zq159_f (i : Nat) : Bool := zy_f 21 zp_X11_seen (zX zS_no 8) 0 0 zq159_e [] 100000 zq159_K i
def zq159_p16 : List (Nat × Nat) := [(1, 3), (1, 4), (1, 5), (1, 6), (1, 7), (1, 8), (5, 1), (5, 2)]
noncomputable def zc159 : ECal := zf_cal 159 10 [.inl 0, .inr (0, 2), .inr (1, 0), .inr (1, 2), .inr (0, 8), .inr (4, 0), .inr (5, 0)] [1, 2, 3] zq159_p16 [(0, 0), (0, 1), (1, 1), (0, 3), (0, 4), (0, 5), (0, 6), (0, 7), (4, 1), (0, 9), (0, 10), (0, 11), (0, 12)] ([eR 0, eU 10, eU 11, eU 12] : List EV) zq159_w8 zq159_g9 zq159_n15
theorem zc159_ok : ZE zc159 12 := ZE.met (n := 8) (es := zq159_n15) (hd := []) (F := 100000) (KS := zq159_K) (js := []) (sp0 := []) (by decide) zS_no_ok (y0 := 159) (q := (yX11_seen, cX11_seen, 4, (some .int), 11, 0, 0)) rfl ⟨rfl, rfl⟩ (m9 := (zp_X11_seen, 4, 0, 0)) rfl rfl (zy_nx_ok (by decide +kernel)) (N2 := 21) (by decide +kernel) (by decide) zq159_E (fun i hi => absurd (show i < 0 from hi) (Nat.not_lt_zero i))
noncomputable def zq160_e0 : EC := (11, [eX 42, eX 43, eX 44, eX 45, eX 46, eX 47, eX 48, eX 49, eR 1, eX 52, eX 53, eX 54, eX 55])
noncomputable def zq160_e1 : EC := (8, [eR 2, eX 51])
noncomputable def zq160_e2 : EC := (2, [eX 50, eU 10, eU 11])
noncomputable def zq160_c3 : List EC := [zq160_e0, zq160_e1, zq160_e2]
noncomputable def zq160_w4 : EW := (3, [zq160_c3])
def zq160_g5 : EG := [(0, 4294967295), (0, 4294967295), (0, 4294967295), (0, 4294967295), (0, 4294967295), (0, 4294967295), (0, 4294967295), (0, 4294967295), (0, 4294967295), (0, 4294967295), (2147483658, 2147483660), (2147483648, 2147483660)]
def zq160_p6 : List (Nat × Nat) := []
noncomputable def zq160_e7 : EC := (2, [eX 50, eU 10, eC 0])
noncomputable def zq160_c8 : List EC := [zq160_e0, zq160_e1, zq160_e7]
noncomputable def zq160_w9 : EW := (3, [zq160_c8])
noncomputable def zq160_n10 : List ZN := [(some (eU 11), [], zq160_p6, zq160_w9, zq160_g5)]
noncomputable def zq160_K : List ZC := []
noncomputable def zq160_e : ERt := zy_ends 12 zq160_n10
theorem zq160_E : zy_spl (fun g => zy_en (zp_X11_forget, 1, 0, 0) (zX zS_no 8) zq160_e [] 100000 (zy_B 12 zq160_K []) ([eR 0] : List EV) zq160_w4 g) [] zq160_g5 = true := by decide +kernel
noncomputable def zq160_f (i : Nat) : Bool := zy_f 12 zp_X11_forget (zX zS_no 8) 0 0 zq160_e [] 100000 zq160_K i
def zq160_p11 : List (Nat × Nat) := [(2, 1), (2, 2)]
noncomputable def zc160 : ECal := zf_cal 160 10 [.inl 0, .inr (0, 8), .inr (1, 0)] [] zq160_p11 [(0, 0), (0, 1), (0, 2), (0, 3), (0, 4), (0, 5), (0, 6), (0, 7), (2, 0), (1, 1), (0, 9), (0, 10), (0, 11), (0, 12)] ([eR 0] : List EV) zq160_w4 zq160_g5 zq160_n10
theorem zc160_ok : ZE zc160 12 := ZE.met (n := 8) (es := zq160_n10) (hd := []) (F := 100000) (KS := zq160_K) (js := []) (sp0 := []) (by decide) zS_no_ok (y0 := 160) (q := (yX11_forget, cX11_forget, 1, (some .int), 11, 0, 0)) rfl ⟨rfl, rfl⟩ (m9 := (zp_X11_forget, 1, 0, 0)) rfl rfl (zy_nx_ok (by decide +kernel)) (N2 := 12) (by decide +kernel) (by decide) zq160_E (fun i hi => absurd (show i < 0 from hi) (Nat.not_lt_zero i))
noncomputable def zq163_e0 : EC := (11, [eX 42, eX 43, eX 44, eX 45, eX 46, eX 47, eX 48, eX 49, eX 50, eR 1, eX 51, eX 52, eX 53])
noncomputable def zq163_e1 : EC := (1, [eR 2])
noncomputable def zq163_e2 : EC := (2, [eR 3, eU 12, eU 13])
noncomputable def zq163_e3 : EC := (1100, [eC 36, eC 0, eC 4294967295])
noncomputable def zq163_c4 : List EC := [zq163_e0, zq163_e1, zq163_e2, zq163_e3]
noncomputable def zq163_w5 : EW := (4, [zq163_c4])
def zq163_g6 : EG := [(0, 4294967295), (0, 4294967295), (0, 4294967295), (0, 4294967295), (0, 4294967295), (0, 4294967295), (0, 4294967295), (0, 4294967295), (0, 4294967295), (0, 4294967295), (0, 4294967295), (0, 4294967295), (2147483658, 2147483660), (2147483648, 2147483660)]
def zq163_p7 : List (Nat × Nat) := [(2, 2)]
noncomputable def zq163_e8 : EC := (2, [eR 3, eU 12, eU 15])
noncomputable def zq163_c9 : List EC := [zq163_e0, zq163_e1, zq163_e8, zq163_e3]
noncomputable def zq163_w10 : EW := (4, [zq163_c9])
noncomputable def zq163_g11 : EG := zq163_g6 ++ [(2147483647, 2147483660), (2147483648, 2147483660)]
noncomputable def zq163_n12 : List ZN := [(some (eU 14), [0], zq163_p7, zq163_w10, zq163_g11)]
noncomputable def zq163_K : List ZC := []
noncomputable def zq163_e : ERt := zy_ends 14 zq163_n12
theorem zq163_E : zy_spl (fun g => zy_en (zp_X11_heard, 3, 0, 0) (zX zS_no 8) zq163_e [] 100000 (zy_B 14 zq163_K []) ([eR 0, eU 10, eU 11] : List EV) zq163_w5 g) [] zq163_g6 = true := by decide +kernel
noncomputable def zq163_f (i : Nat) : Bool := zy_f 14 zp_X11_heard (zX zS_no 8) 0 0 zq163_e [] 100000 zq163_K i
def zq163_p13 : List (Nat × Nat) := [(2, 1), (2, 2)]
noncomputable def zc163 : ECal := zf_cal 163 10 [.inl 0, .inr (0, 9), .inr (1, 0), .inr (2, 0)] [1, 2] zq163_p13 [(0, 0), (0, 1), (0, 2), (0, 3), (0, 4), (0, 5), (0, 6), (0, 7), (0, 8), (0, 10), (0, 11), (0, 12)] ([eR 0, eU 10, eU 11] : List EV) zq163_w5 zq163_g6 zq163_n12
theorem zc163_ok : ZE zc163 12 := ZE.met (n := 8) (es := zq163_n12) (hd := []) (F := 100000) (KS := zq163_K) (js := []) (sp0 := []) (by decide) zS_no_ok (y0 := 163) (q := (yX11_heard, cX11_heard, 3, (some .int), 11, 0, 0)) rfl ⟨rfl, rfl⟩ (m9 := (zp_X11_heard, 3, 0, 0)) rfl rfl (zy_nx_ok (by decide +kernel)) (N2 := 14) (by decide +kernel) (by decide) zq163_E (fun i hi => absurd (show i < 0 from hi) (Nat.not_lt_zero i))
noncomputable def zq164_e0 : EC := (11, [eX 42, eX 43, eX 44, eX 45, eX 46, eX 47, eX 48, eX 49, eX 50, eR 1, eX 52, eX 53, eX 54])
noncomputable def zq164_e1 : EC := (1, [eR 2])
noncomputable def zq164_e2 : EC := (2, [eX 51, eU 10, eU 11])
noncomputable def zq164_c3 : List EC := [zq164_e0, zq164_e1, zq164_e2]
noncomputable def zq164_w4 : EW := (3, [zq164_c3])
def zq164_g5 : EG := [(0, 4294967295), (0, 4294967295), (0, 4294967295), (0, 4294967295), (0, 4294967295), (0, 4294967295), (0, 4294967295), (0, 4294967295), (0, 4294967295), (0, 4294967295), (2147483658, 2147483660), (2147483648, 2147483660)]
def zq164_p6 : List (Nat × Nat) := []
noncomputable def zq164_e7 : EC := (2, [eX 51, eU 10, eC 0])
noncomputable def zq164_c8 : List EC := [zq164_e0, zq164_e1, zq164_e7]
noncomputable def zq164_w9 : EW := (3, [zq164_c8])
noncomputable def zq164_n10 : List ZN := [(some (eU 11), [], zq164_p6, zq164_w9, zq164_g5)]
noncomputable def zq164_K : List ZC := []
noncomputable def zq164_e : ERt := zy_ends 12 zq164_n10
theorem zq164_E : zy_spl (fun g => zy_en (zp_X11_denies, 1, 0, 0) (zX zS_no 8) zq164_e [] 100000 (zy_B 12 zq164_K []) ([eR 0] : List EV) zq164_w4 g) [] zq164_g5 = true := by decide +kernel
noncomputable def zq164_f (i : Nat) : Bool := zy_f 12 zp_X11_denies (zX zS_no 8) 0 0 zq164_e [] 100000 zq164_K i
def zq164_p11 : List (Nat × Nat) := [(2, 1), (2, 2)]
noncomputable def zc164 : ECal := zf_cal 164 10 [.inl 0, .inr (0, 9), .inr (1, 0)] [] zq164_p11 [(0, 0), (0, 1), (0, 2), (0, 3), (0, 4), (0, 5), (0, 6), (0, 7), (0, 8), (2, 0), (0, 10), (0, 11), (0, 12)] ([eR 0] : List EV) zq164_w4 zq164_g5 zq164_n10
theorem zc164_ok : ZE zc164 12 := ZE.met (n := 8) (es := zq164_n10) (hd := []) (F := 100000) (KS := zq164_K) (js := []) (sp0 := []) (by decide) zS_no_ok (y0 := 164) (q := (yX11_denies, cX11_denies, 1, (some .int), 11, 0, 0)) rfl ⟨rfl, rfl⟩ (m9 := (zp_X11_denies, 1, 0, 0)) rfl rfl (zy_nx_ok (by decide +kernel)) (N2 := 12) (by decide +kernel) (by decide) zq164_E (fun i hi => absurd (show i < 0 from hi) (Nat.not_lt_zero i))
noncomputable def zq186_w0 : EW := (0, [])
def zq186_g1 : EG := [(0, 4294967295), (0, 4294967295), (0, 4294967295), (0, 4294967295), (0, 4294967295), (0, 4294967295), (0, 4294967295), (0, 4294967295), (0, 4294967295), (0, 4294967295), (0, 4294967295), (2147483648, 2147483652), (2147483648, 2147483658)]
def zq186_p2 : List (Nat × Nat) := []
noncomputable def zq186_g3 : EG := zq186_g1 ++ [(2147483648, 2147493648)]
noncomputable def zq186_n4 : List ZN := [(some (eU 13), [0], zq186_p2, zq186_w0, zq186_g3)]
noncomputable def zq186_g5 : EG := zy_su [(11, 2147483649, 2147483652)] zq186_g1 ++ [(2147483648, 2147483658)]
noncomputable def zq186_g6 : EG := zy_su [(11, 2147483650, 2147483652)] zq186_g1 ++ [(2147483648, 2147483748)]
noncomputable def zq186_g7 : EG := zy_su [(11, 2147483651, 2147483652)] zq186_g1 ++ [(2147483648, 2147484648)]
noncomputable def zq186_g8 : EG := zy_su [(11, 2147483652, 2147483652)] zq186_g1 ++ [(2147483648, 2147493648)]
noncomputable def zq186_S0 : List ZC := ((4, 5, [], zq186_p2, [eU 10, eU 11, eU 12, eC 1, eC 0], zq186_w0, zq186_g1), [1], []) :: ((4, 5, [3], zq186_p2, [eU 10, eU 11, eU 12, eU 13, eC 1], zq186_w0, zq186_g5), [2], []) :: ((4, 5, [3], zq186_p2, [eU 10, eU 11, eU 12, eU 13, eC 2], zq186_w0, zq186_g6), [3], []) :: ((4, 5, [3], zq186_p2, [eU 10, eU 11, eU 12, eU 13, eC 3], zq186_w0, zq186_g7), [4], []) :: ((4, 5, [3], zq186_p2, [eU 10, eU 11, eU 12, eU 13, eC 4], zq186_w0, zq186_g8), [], []) :: []
noncomputable def zq186_K : List ZC := zq186_S0
noncomputable def zq186_e : ERt := zy_ends 13 zq186_n4
theorem zq186_E : zy_spl (fun g => zy_en (zp_X11_waysOfLoss, 5, 0, 0) (zX zS_no 8) zq186_e [5] 100000 (zy_B 13 zq186_K [0]) ([eU 10, eU 11, eU 12] : List EV) zq186_w0 g) [] zq186_g1 = true := by decide +kernel
noncomputable def zq186_f (i : Nat) : Bool := zy_f 13 zp_X11_waysOfLoss (zX zS_no 8) 0 0 zq186_e [5] 100000 zq186_K i
theorem zq186_0 : zy_ch zq186_f 0 5 = true := by decide +kernel
theorem zq186_n : zq186_K.length = 5 := by decide +kernel
noncomputable def zc186 : ECal := zf_cal 186 10 [] [0, 1, 2] zq186_p2 [] ([eU 10, eU 11, eU 12] : List EV) zq186_w0 zq186_g1 zq186_n4
theorem zc186_ok : ZE zc186 12 := ZE.met (n := 8) (es := zq186_n4) (hd := [5]) (F := 100000) (KS := zq186_K) (js := [0]) (sp0 := []) (by decide) zS_no_ok (y0 := 186) (q := (yX11_waysOfLoss, cX11_waysOfLoss, 5, (some .int), 11, 0, 0)) rfl ⟨rfl, rfl⟩ (m9 := (zp_X11_waysOfLoss, 5, 0, 0)) rfl rfl (zy_nx_ok (by decide +kernel)) (N2 := 13) (by decide +kernel) (by decide) zq186_E (fun i hi => (show ∀ i, i < 5 → zq186_f i = true from fun i hi => zy_ch_ok zq186_0 i (by omega) (by omega)) i (by have h9 := hi; rw [zq186_n] at h9; exact h9))
noncomputable def zq168_e0 : EC := (11, [eX 42, eX 43, eX 44, eX 45, eX 46, eX 47, eX 48, eX 49, eX 50, eX 51, eR 1, eX 52, eX 53])
noncomputable def zq168_e1 : EC := (0, [eR 2])
noncomputable def zq168_e2 : EC := (2, [eR 3, eU 13, eU 14])
noncomputable def zq168_e3 : EC := (1100, [eC 36, eC 0, eC 4294967295])
noncomputable def zq168_c4 : List EC := [zq168_e0, zq168_e1, zq168_e2, zq168_e3]
noncomputable def zq168_w5 : EW := (4, [zq168_c4])
def zq168_g6 : EG := [(0, 4294967295), (0, 4294967295), (0, 4294967295), (0, 4294967295), (0, 4294967295), (0, 4294967295), (0, 4294967295), (0, 4294967295), (0, 4294967295), (0, 4294967295), (0, 4294967295), (0, 4294967295), (0, 4294967295), (2147483658, 2147483660), (2147483648, 2147483660)]
def zq168_p7 : List (Nat × Nat) := [(2, 2)]
noncomputable def zq168_e8 : EC := (2, [eR 3, eU 13, eU 16])
noncomputable def zq168_c9 : List EC := [zq168_e0, zq168_e1, zq168_e8, zq168_e3]
noncomputable def zq168_w10 : EW := (4, [zq168_c9])
noncomputable def zq168_g11 : EG := zq168_g6 ++ [(2147483647, 2147483660), (2147483648, 2147483660)]
noncomputable def zq168_n12 : List ZN := [(some (eU 15), [0], zq168_p7, zq168_w10, zq168_g11)]
noncomputable def zq168_K : List ZC := []
noncomputable def zq168_e : ERt := zy_ends 15 zq168_n12
theorem zq168_E : zy_spl (fun g => zy_en (zp_X11_went, 5, 0, 0) (zX zS_no 8) zq168_e [] 100000 (zy_B 15 zq168_K []) ([eR 0, eU 10, eU 11, eU 12] : List EV) zq168_w5 g) [] zq168_g6 = true := by decide +kernel
noncomputable def zq168_f (i : Nat) : Bool := zy_f 15 zp_X11_went (zX zS_no 8) 0 0 zq168_e [] 100000 zq168_K i
def zq168_p13 : List (Nat × Nat) := [(2, 1), (2, 2)]
noncomputable def zc168 : ECal := zf_cal 168 10 [.inl 0, .inr (0, 10), .inr (1, 0), .inr (2, 0)] [1, 2, 3] zq168_p13 [(0, 0), (0, 1), (0, 2), (0, 3), (0, 4), (0, 5), (0, 6), (0, 7), (0, 8), (0, 9), (0, 11), (0, 12)] ([eR 0, eU 10, eU 11, eU 12] : List EV) zq168_w5 zq168_g6 zq168_n12
theorem zc168_ok : ZE zc168 12 := ZE.met (n := 8) (es := zq168_n12) (hd := []) (F := 100000) (KS := zq168_K) (js := []) (sp0 := []) (by decide) zS_no_ok (y0 := 168) (q := (yX11_went, cX11_went, 5, (some .int), 11, 0, 0)) rfl ⟨rfl, rfl⟩ (m9 := (zp_X11_went, 5, 0, 0)) rfl rfl (zy_nx_ok (by decide +kernel)) (N2 := 15) (by decide +kernel) (by decide) zq168_E (fun i hi => absurd (show i < 0 from hi) (Nat.not_lt_zero i))
noncomputable def zq169_e0 : EC := (11, [eX 42, eX 43, eX 44, eX 45, eX 46, eX 47, eX 48, eX 49, eX 50, eX 51, eR 1, eX 53, eX 54])
noncomputable def zq169_e1 : EC := (0, [eR 2])
noncomputable def zq169_e2 : EC := (2, [eX 52, eU 10, eU 11])
noncomputable def zq169_c3 : List EC := [zq169_e0, zq169_e1, zq169_e2]
noncomputable def zq169_w4 : EW := (3, [zq169_c3])
def zq169_g5 : EG := [(0, 4294967295), (0, 4294967295), (0, 4294967295), (0, 4294967295), (0, 4294967295), (0, 4294967295), (0, 4294967295), (0, 4294967295), (0, 4294967295), (0, 4294967295), (2147483658, 2147483660), (2147483648, 2147483660)]
def zq169_p6 : List (Nat × Nat) := []
noncomputable def zq169_e7 : EC := (2, [eX 52, eU 10, eC 0])
noncomputable def zq169_c8 : List EC := [zq169_e0, zq169_e1, zq169_e7]
noncomputable def zq169_w9 : EW := (3, [zq169_c8])
noncomputable def zq169_n10 : List ZN := [(some (eU 11), [], zq169_p6, zq169_w9, zq169_g5)]
noncomputable def zq169_K : List ZC := []
noncomputable def zq169_e : ERt := zy_ends 12 zq169_n10
theorem zq169_E : zy_spl (fun g => zy_en (zp_X11_clears, 1, 0, 0) (zX zS_no 8) zq169_e [] 100000 (zy_B 12 zq169_K []) ([eR 0] : List EV) zq169_w4 g) [] zq169_g5 = true := by decide +kernel
noncomputable def zq169_f (i : Nat) : Bool := zy_f 12 zp_X11_clears (zX zS_no 8) 0 0 zq169_e [] 100000 zq169_K i
def zq169_p11 : List (Nat × Nat) := [(2, 1), (2, 2)]
noncomputable def zc169 : ECal := zf_cal 169 10 [.inl 0, .inr (0, 10), .inr (1, 0)] [] zq169_p11 [(0, 0), (0, 1), (0, 2), (0, 3), (0, 4), (0, 5), (0, 6), (0, 7), (0, 8), (0, 9), (2, 0), (0, 11), (0, 12)] ([eR 0] : List EV) zq169_w4 zq169_g5 zq169_n10
theorem zc169_ok : ZE zc169 12 := ZE.met (n := 8) (es := zq169_n10) (hd := []) (F := 100000) (KS := zq169_K) (js := []) (sp0 := []) (by decide) zS_no_ok (y0 := 169) (q := (yX11_clears, cX11_clears, 1, (some .int), 11, 0, 0)) rfl ⟨rfl, rfl⟩ (m9 := (zp_X11_clears, 1, 0, 0)) rfl rfl (zy_nx_ok (by decide +kernel)) (N2 := 12) (by decide +kernel) (by decide) zq169_E (fun i hi => absurd (show i < 0 from hi) (Nat.not_lt_zero i))
noncomputable def zq187_w0 : EW := (0, [])
def zq187_g1 : EG := [(0, 4294967295), (0, 4294967295), (0, 4294967295), (0, 4294967295), (0, 4294967295), (0, 4294967295), (0, 4294967295), (0, 4294967295), (0, 4294967295), (0, 4294967295), (2147483648, 2147483708)]
def zq187_p2 : List (Nat × Nat) := []
noncomputable def zq187_g3 : EG := zq187_g1 ++ [(2147483648, 2147483697)]
noncomputable def zq187_n4 : List ZN := [(some (eU 11), [0], zq187_p2, zq187_w0, zq187_g3)]
noncomputable def zq187_g5 : EG := zy_su [(10, 2147483649, 2147483708)] zq187_g1
noncomputable def zq187_g6 : EG := zy_su [(10, 2147483650, 2147483708)] zq187_g1
noncomputable def zq187_g7 : EG := zy_su [(10, 2147483651, 2147483708)] zq187_g1
noncomputable def zq187_g8 : EG := zy_su [(10, 2147483652, 2147483708)] zq187_g1
noncomputable def zq187_g9 : EG := zy_su [(10, 2147483653, 2147483708)] zq187_g1
noncomputable def zq187_g10 : EG := zy_su [(10, 2147483654, 2147483708)] zq187_g1
noncomputable def zq187_g11 : EG := zy_su [(10, 2147483655, 2147483708)] zq187_g1
noncomputable def zq187_g12 : EG := zy_su [(10, 2147483656, 2147483708)] zq187_g1
noncomputable def zq187_g13 : EG := zy_su [(10, 2147483657, 2147483708)] zq187_g1
noncomputable def zq187_g14 : EG := zy_su [(10, 2147483658, 2147483708)] zq187_g1
noncomputable def zq187_g15 : EG := zy_su [(10, 2147483659, 2147483708)] zq187_g1
noncomputable def zq187_g16 : EG := zy_su [(10, 2147483660, 2147483708)] zq187_g1
noncomputable def zq187_g17 : EG := zy_su [(10, 2147483661, 2147483708)] zq187_g1
noncomputable def zq187_g18 : EG := zy_su [(10, 2147483662, 2147483708)] zq187_g1
noncomputable def zq187_g19 : EG := zy_su [(10, 2147483663, 2147483708)] zq187_g1
noncomputable def zq187_g20 : EG := zy_su [(10, 2147483664, 2147483708)] zq187_g1
noncomputable def zq187_g21 : EG := zy_su [(10, 2147483665, 2147483708)] zq187_g1
noncomputable def zq187_g22 : EG := zy_su [(10, 2147483666, 2147483708)] zq187_g1
noncomputable def zq187_g23 : EG := zy_su [(10, 2147483667, 2147483708)] zq187_g1
noncomputable def zq187_g24 : EG := zy_su [(10, 2147483668, 2147483708)] zq187_g1
noncomputable def zq187_g25 : EG := zy_su [(10, 2147483669, 2147483708)] zq187_g1
noncomputable def zq187_g26 : EG := zy_su [(10, 2147483670, 2147483708)] zq187_g1
noncomputable def zq187_g27 : EG := zy_su [(10, 2147483671, 2147483708)] zq187_g1
noncomputable def zq187_g28 : EG := zy_su [(10, 2147483672, 2147483708)] zq187_g1
noncomputable def zq187_g29 : EG := zy_su [(10, 2147483673, 2147483708)] zq187_g1
noncomputable def zq187_g30 : EG := zy_su [(10, 2147483674, 2147483708)] zq187_g1
noncomputable def zq187_g31 : EG := zy_su [(10, 2147483675, 2147483708)] zq187_g1
noncomputable def zq187_g32 : EG := zy_su [(10, 2147483676, 2147483708)] zq187_g1
noncomputable def zq187_g33 : EG := zy_su [(10, 2147483677, 2147483708)] zq187_g1
noncomputable def zq187_g34 : EG := zy_su [(10, 2147483678, 2147483708)] zq187_g1
noncomputable def zq187_g35 : EG := zy_su [(10, 2147483679, 2147483708)] zq187_g1
noncomputable def zq187_g36 : EG := zy_su [(10, 2147483680, 2147483708)] zq187_g1
noncomputable def zq187_g37 : EG := zy_su [(10, 2147483681, 2147483708)] zq187_g1
noncomputable def zq187_g38 : EG := zy_su [(10, 2147483682, 2147483708)] zq187_g1
noncomputable def zq187_g39 : EG := zy_su [(10, 2147483683, 2147483708)] zq187_g1
noncomputable def zq187_g40 : EG := zy_su [(10, 2147483684, 2147483708)] zq187_g1
noncomputable def zq187_g41 : EG := zy_su [(10, 2147483685, 2147483708)] zq187_g1
noncomputable def zq187_g42 : EG := zy_su [(10, 2147483686, 2147483708)] zq187_g1
noncomputable def zq187_g43 : EG := zy_su [(10, 2147483687, 2147483708)] zq187_g1
noncomputable def zq187_g44 : EG := zy_su [(10, 2147483688, 2147483708)] zq187_g1
noncomputable def zq187_g45 : EG := zy_su [(10, 2147483689, 2147483708)] zq187_g1
noncomputable def zq187_g46 : EG := zy_su [(10, 2147483690, 2147483708)] zq187_g1
noncomputable def zq187_g47 : EG := zy_su [(10, 2147483691, 2147483708)] zq187_g1
noncomputable def zq187_g48 : EG := zy_su [(10, 2147483692, 2147483708)] zq187_g1
noncomputable def zq187_g49 : EG := zy_su [(10, 2147483693, 2147483708)] zq187_g1
noncomputable def zq187_g50 : EG := zy_su [(10, 2147483694, 2147483708)] zq187_g1
noncomputable def zq187_g51 : EG := zy_su [(10, 2147483695, 2147483708)] zq187_g1
noncomputable def zq187_g52 : EG := zy_su [(10, 2147483696, 2147483708)] zq187_g1
noncomputable def zq187_g53 : EG := zy_su [(10, 2147483697, 2147483708)] zq187_g1
noncomputable def zq187_g54 : EG := zy_su [(10, 2147483698, 2147483708)] zq187_g1
noncomputable def zq187_g55 : EG := zy_su [(10, 2147483699, 2147483708)] zq187_g1
noncomputable def zq187_g56 : EG := zy_su [(10, 2147483700, 2147483708)] zq187_g1
noncomputable def zq187_g57 : EG := zy_su [(10, 2147483701, 2147483708)] zq187_g1
noncomputable def zq187_g58 : EG := zy_su [(10, 2147483702, 2147483708)] zq187_g1
noncomputable def zq187_g59 : EG := zy_su [(10, 2147483703, 2147483708)] zq187_g1
noncomputable def zq187_g60 : EG := zy_su [(10, 2147483704, 2147483708)] zq187_g1
noncomputable def zq187_g61 : EG := zy_su [(10, 2147483705, 2147483708)] zq187_g1
noncomputable def zq187_g62 : EG := zy_su [(10, 2147483706, 2147483708)] zq187_g1
noncomputable def zq187_g63 : EG := zy_su [(10, 2147483707, 2147483708)] zq187_g1
noncomputable def zq187_g64 : EG := zy_su [(10, 2147483708, 2147483708)] zq187_g1
noncomputable def zq187_S1 : List ZC := ((6, 7, [], zq187_p2, [eU 10, eL 566941095077, eX 1, eC 0, eC 40], zq187_w0, zq187_g43), [41], []) :: ((6, 7, [], zq187_p2, [eU 10, eL 566941095077, eX 1, eC 1, eC 41], zq187_w0, zq187_g44), [42], []) :: ((6, 7, [], zq187_p2, [eU 10, eL 566941095077, eX 1, eC 36, eC 42], zq187_w0, zq187_g45), [43], []) :: ((6, 7, [], zq187_p2, [eU 10, eL 566941095077, eX 1, eC 25, eC 43], zq187_w0, zq187_g46), [44], []) :: ((6, 7, [], zq187_p2, [eU 10, eL 566941095077, eX 1, eC 4, eC 44], zq187_w0, zq187_g47), [45], []) :: ((6, 7, [], zq187_p2, [eU 10, eL 18159127139493, eX 1, eC 0, eC 45], zq187_w0, zq187_g48), [46], []) :: ((6, 7, [], zq187_p2, [eU 10, eL 18159127139493, eX 1, eC 1, eC 46], zq187_w0, zq187_g49), [47], []) :: ((6, 7, [], zq187_p2, [eU 10, eL 18159127139493, eX 1, eC 36, eC 47], zq187_w0, zq187_g50), [48], []) :: ((6, 7, [], zq187_p2, [eU 10, eL 18159127139493, eX 1, eC 25, eC 48], zq187_w0, zq187_g51), [49], []) :: ((6, 7, [], zq187_p2, [eU 10, eL 18159127139493, eX 1, eC 4, eC 49], zq187_w0, zq187_g52), [50], []) :: ((6, 7, [], zq187_p2, [eU 10, eL 18159127139493, eX 1, eC 49, eC 50], zq187_w0, zq187_g53), [51], []) :: ((6, 7, [], zq187_p2, [eU 10, eL 18159127139493, eX 1, eC 16, eC 51], zq187_w0, zq187_g54), [52], []) :: ((6, 7, [], zq187_p2, [eU 10, eL 18159127139493, eX 1, eC 36, eC 52], zq187_w0, zq187_g55), [53], []) :: ((6, 7, [], zq187_p2, [eU 10, eL 4521758754509989, eX 1, eC 0, eC 53], zq187_w0, zq187_g56), [54], []) :: ((6, 7, [], zq187_p2, [eU 10, eL 4521758754509989, eX 1, eC 1, eC 54], zq187_w0, zq187_g57), [55], []) :: ((6, 7, [], zq187_p2, [eU 10, eL 4521758754509989, eX 1, eC 49, eC 55], zq187_w0, zq187_g58), [56], []) :: ((6, 7, [], zq187_p2, [eU 10, eL 4521758754509989, eX 1, eC 16, eC 56], zq187_w0, zq187_g59), [57], []) :: ((6, 7, [], zq187_p2, [eU 10, eL 4521758754509989, eX 1, eC 4, eC 57], zq187_w0, zq187_g60), [58], []) :: ((6, 7, [], zq187_p2, [eU 10, eL 148636946830365861, eX 1, eC 0, eC 58], zq187_w0, zq187_g61), [59], []) :: ((6, 7, [], zq187_p2, [eU 10, eL 148636946830365861, eX 1, eC 1, eC 59], zq187_w0, zq187_g62), [60], []) :: ((6, 7, [], zq187_p2, [eU 10, eL 148636946830365861, eX 1, eC 25, eC 60], zq187_w0, zq187_g63), [61], []) :: ((6, 7, [], zq187_p2, [eU 10, eL 148636946830365861, eX 1, eC 16, eC 61], zq187_w0, zq187_g64), [], []) :: []
noncomputable def zq187_S0 : List ZC := ((6, 7, [], zq187_p2, [eU 10, eL 0, eX 1, eC 0, eC 0], zq187_w0, zq187_g1), [1], []) :: ((6, 7, [], zq187_p2, [eU 10, eL 1, eX 1, eC 0, eC 1], zq187_w0, zq187_g1), [2], []) :: ((6, 7, [], zq187_p2, [eU 10, eL 1, eX 1, eC 1, eC 2], zq187_w0, zq187_g5), [3], []) :: ((6, 7, [], zq187_p2, [eU 10, eL 5, eX 1, eC 0, eC 3], zq187_w0, zq187_g6), [4], []) :: ((6, 7, [], zq187_p2, [eU 10, eL 5, eX 1, eC 1, eC 4], zq187_w0, zq187_g7), [5], []) :: ((6, 7, [], zq187_p2, [eU 10, eL 5, eX 1, eC 4, eC 5], zq187_w0, zq187_g8), [6], []) :: ((6, 7, [], zq187_p2, [eU 10, eL 37, eX 1, eC 0, eC 6], zq187_w0, zq187_g9), [7], []) :: ((6, 7, [], zq187_p2, [eU 10, eL 37, eX 1, eC 1, eC 7], zq187_w0, zq187_g10), [8], []) :: ((6, 7, [], zq187_p2, [eU 10, eL 165, eX 1, eC 0, eC 8], zq187_w0, zq187_g11), [9], []) :: ((6, 7, [], zq187_p2, [eU 10, eL 165, eX 1, eC 1, eC 9], zq187_w0, zq187_g12), [10], []) :: ((6, 7, [], zq187_p2, [eU 10, eL 165, eX 1, eC 4, eC 10], zq187_w0, zq187_g13), [11], []) :: ((6, 7, [], zq187_p2, [eU 10, eL 1189, eX 1, eC 0, eC 11], zq187_w0, zq187_g14), [12], []) :: ((6, 7, [], zq187_p2, [eU 10, eL 1189, eX 1, eC 1, eC 12], zq187_w0, zq187_g15), [13], []) :: ((6, 7, [], zq187_p2, [eU 10, eL 5285, eX 1, eC 0, eC 13], zq187_w0, zq187_g16), [14], []) :: ((6, 7, [], zq187_p2, [eU 10, eL 5285, eX 1, eC 1, eC 14], zq187_w0, zq187_g17), [15], []) :: ((6, 7, [], zq187_p2, [eU 10, eL 5285, eX 1, eC 4, eC 15], zq187_w0, zq187_g18), [16], []) :: ((6, 7, [], zq187_p2, [eU 10, eL 38053, eX 1, eC 0, eC 16], zq187_w0, zq187_g19), [17], []) :: ((6, 7, [], zq187_p2, [eU 10, eL 38053, eX 1, eC 1, eC 17], zq187_w0, zq187_g20), [18], []) :: ((6, 7, [], zq187_p2, [eU 10, eL 169125, eX 1, eC 0, eC 18], zq187_w0, zq187_g21), [19], []) :: ((6, 7, [], zq187_p2, [eU 10, eL 169125, eX 1, eC 1, eC 19], zq187_w0, zq187_g22), [20], []) :: ((6, 7, [], zq187_p2, [eU 10, eL 169125, eX 1, eC 4, eC 20], zq187_w0, zq187_g23), [21], []) :: ((6, 7, [], zq187_p2, [eU 10, eL 1217701, eX 1, eC 0, eC 21], zq187_w0, zq187_g24), [22], []) :: ((6, 7, [], zq187_p2, [eU 10, eL 1217701, eX 1, eC 1, eC 22], zq187_w0, zq187_g25), [23], []) :: ((6, 7, [], zq187_p2, [eU 10, eL 5412005, eX 1, eC 0, eC 23], zq187_w0, zq187_g26), [24], []) :: ((6, 7, [], zq187_p2, [eU 10, eL 5412005, eX 1, eC 1, eC 24], zq187_w0, zq187_g27), [25], []) :: ((6, 7, [], zq187_p2, [eU 10, eL 5412005, eX 1, eC 4, eC 25], zq187_w0, zq187_g28), [26], []) :: ((6, 7, [], zq187_p2, [eU 10, eL 5412005, eX 1, eC 25, eC 26], zq187_w0, zq187_g29), [27], []) :: ((6, 7, [], zq187_p2, [eU 10, eL 5412005, eX 1, eC 4, eC 27], zq187_w0, zq187_g30), [28], []) :: ((6, 7, [], zq187_p2, [eU 10, eL 5412005, eX 1, eC 25, eC 28], zq187_w0, zq187_g31), [29], []) :: ((6, 7, [], zq187_p2, [eU 10, eL 5412005, eX 1, eC 16, eC 29], zq187_w0, zq187_g32), [30], []) :: ((6, 7, [], zq187_p2, [eU 10, eL 5412005, eX 1, eC 9, eC 30], zq187_w0, zq187_g33), [31], []) :: ((6, 7, [], zq187_p2, [eU 10, eL 5412005, eX 1, eC 25, eC 31], zq187_w0, zq187_g34), [32], []) :: ((6, 7, [], zq187_p2, [eU 10, eL 5412005, eX 1, eC 9, eC 32], zq187_w0, zq187_g35), [33], []) :: ((6, 7, [], zq187_p2, [eU 10, eL 5412005, eX 1, eC 25, eC 33], zq187_w0, zq187_g36), [34], []) :: ((6, 7, [], zq187_p2, [eU 10, eL 5412005, eX 1, eC 16, eC 34], zq187_w0, zq187_g37), [35], []) :: ((6, 7, [], zq187_p2, [eU 10, eL 17185281189, eX 1, eC 0, eC 35], zq187_w0, zq187_g38), [36], []) :: ((6, 7, [], zq187_p2, [eU 10, eL 17185281189, eX 1, eC 1, eC 36], zq187_w0, zq187_g39), [37], []) :: ((6, 7, [], zq187_p2, [eU 10, eL 17185281189, eX 1, eC 16, eC 37], zq187_w0, zq187_g40), [38], []) :: ((6, 7, [], zq187_p2, [eU 10, eL 17185281189, eX 1, eC 25, eC 38], zq187_w0, zq187_g41), [39], []) :: ((6, 7, [], zq187_p2, [eU 10, eL 17185281189, eX 1, eC 4, eC 39], zq187_w0, zq187_g42), [40], []) :: zq187_S1
noncomputable def zq187_K : List ZC := zq187_S0
noncomputable def zq187_e : ERt := zy_ends 11 zq187_n4
theorem zq187_E : zy_spl (fun g => zy_en (zp_X11_winningHandful, 5, 0, 0) (zX zS_no 8) zq187_e [7] 100000 (zy_B 11 zq187_K [0]) ([eU 10] : List EV) zq187_w0 g) [] zq187_g1 = true := by decide +kernel
noncomputable def zq187_f (i : Nat) : Bool := zy_f 11 zp_X11_winningHandful (zX zS_no 8) 0 0 zq187_e [7] 100000 zq187_K i
theorem zq187_0 : zy_ch zq187_f 0 60 = true := by decide +kernel
theorem zq187_60 : zy_ch zq187_f 60 2 = true := by decide +kernel
theorem zq187_n : zq187_K.length = 62 := by decide +kernel
noncomputable def zc187 : ECal := zf_cal 187 10 [] [0] zq187_p2 [] ([eU 10] : List EV) zq187_w0 zq187_g1 zq187_n4
theorem zc187_ok : ZE zc187 12 := ZE.met (n := 8) (es := zq187_n4) (hd := [7]) (F := 100000) (KS := zq187_K) (js := [0]) (sp0 := []) (by decide) zS_no_ok (y0 := 187) (q := (yX11_winningHandful, cX11_winningHandful, 5, (some .int), 11, 0, 0)) rfl ⟨rfl, rfl⟩ (m9 := (zp_X11_winningHandful, 5, 0, 0)) rfl rfl (zy_nx_ok (by decide +kernel)) (N2 := 11) (by decide +kernel) (by decide) zq187_E (fun i hi => (show ∀ i, i < 62 → zq187_f i = true from fun i hi => if h0 : i < 60 then zy_ch_ok zq187_0 i (by omega) (by omega) else zy_ch_ok zq187_60 i (by omega) (by omega)) i (by have h9 := hi; rw [zq187_n] at h9; exact h9))
noncomputable def zq189_w0 : EW := (0, [])
def zq189_g1 : EG := [(0, 4294967295), (0, 4294967295), (0, 4294967295), (0, 4294967295), (0, 4294967295), (0, 4294967295), (0, 4294967295), (0, 4294967295), (0, 4294967295), (0, 4294967295), (0, 4294967295), (0, 4294967295), (0, 4294967295)]
def zq189_p2 : List (Nat × Nat) := []
noncomputable def zq189_g3 : EG := zq189_g1 ++ [(2147483648, 2147483649)]
noncomputable def zq189_n4 : List ZN := [(some (eU 13), [0], zq189_p2, zq189_w0, zq189_g3)]
noncomputable def zq189_S0 : List ZC := ((2, 2, [], zq189_p2, [eU 10, eU 11, eU 12, eC 0], zq189_w0, zq189_g1), [1], []) :: ((2, 2, [], zq189_p2, [eU 10, eU 11, eU 12, eC 1], zq189_w0, zq189_g1), [2], []) :: ((2, 2, [], zq189_p2, [eU 10, eU 11, eU 12, eC 2], zq189_w0, zq189_g1), [3], []) :: ((2, 2, [], zq189_p2, [eU 10, eU 11, eU 12, eC 3], zq189_w0, zq189_g1), [4], []) :: ((2, 2, [], zq189_p2, [eU 10, eU 11, eU 12, eC 4], zq189_w0, zq189_g1), [5], []) :: ((2, 2, [], zq189_p2, [eU 10, eU 11, eU 12, eC 5], zq189_w0, zq189_g1), [6], []) :: ((2, 2, [], zq189_p2, [eU 10, eU 11, eU 12, eC 6], zq189_w0, zq189_g1), [7], []) :: ((2, 2, [], zq189_p2, [eU 10, eU 11, eU 12, eC 7], zq189_w0, zq189_g1), [8], []) :: ((2, 2, [], zq189_p2, [eU 10, eU 11, eU 12, eC 8], zq189_w0, zq189_g1), [9], []) :: ((2, 2, [], zq189_p2, [eU 10, eU 11, eU 12, eC 9], zq189_w0, zq189_g1), [10], []) :: ((2, 2, [], zq189_p2, [eU 10, eU 11, eU 12, eC 10], zq189_w0, zq189_g1), [], []) :: []
noncomputable def zq189_K : List ZC := zq189_S0
noncomputable def zq189_e : ERt := zy_ends 13 zq189_n4
theorem zq189_E : zy_spl (fun g => zy_en (zp_X11_isContent, 4, 0, 0) (zX zS_no 8) zq189_e [2] 100000 (zy_B 13 zq189_K [0]) ([eU 10, eU 11, eU 12] : List EV) zq189_w0 g) [] zq189_g1 = true := by decide +kernel
noncomputable def zq189_f (i : Nat) : Bool := zy_f 13 zp_X11_isContent (zX zS_no 8) 0 0 zq189_e [2] 100000 zq189_K i
theorem zq189_0 : zy_ch zq189_f 0 11 = true := by decide +kernel
theorem zq189_n : zq189_K.length = 11 := by decide +kernel
noncomputable def zc189 : ECal := zf_cal 189 10 [] [0, 1, 2] zq189_p2 [] ([eU 10, eU 11, eU 12] : List EV) zq189_w0 zq189_g1 zq189_n4
theorem zc189_ok : ZE zc189 12 := ZE.met (n := 8) (es := zq189_n4) (hd := [2]) (F := 100000) (KS := zq189_K) (js := [0]) (sp0 := []) (by decide) zS_no_ok (y0 := 189) (q := (yX11_isContent, cX11_isContent, 4, (some .boolean), 11, 0, 0)) rfl ⟨rfl, rfl⟩ (m9 := (zp_X11_isContent, 4, 0, 0)) rfl rfl (zy_nx_ok (by decide +kernel)) (N2 := 13) (by decide +kernel) (by decide) zq189_E (fun i hi => (show ∀ i, i < 11 → zq189_f i = true from fun i hi => zy_ch_ok zq189_0 i (by omega) (by omega)) i (by have h9 := hi; rw [zq189_n] at h9; exact h9))
noncomputable def zEC1 : ECal := zS_br 99 (zS_br 53 (zS_br 35 (zS_br 6 (zS_br 3 (zc3) (zc6)) (zS_br 7 (zc7) (zc35))) (zS_br 39 (zS_br 38 (zc38) (zc39)) (zS_br 45 (zc45) (zc53)))) (zS_br 75 (zS_br 59 (zS_br 58 (zc58) (zc59)) (zS_br 66 (zc66) (zc75))) (zS_br 96 (zS_br 81 (zc81) (zc96)) (zS_br 97 (zc97) (zS_br 98 (zc98) (zc99)))))) (zS_br 134 (zS_br 114 (zS_br 102 (zS_br 100 (zc100) (zc102)) (zS_br 111 (zc111) (zc114))) (zS_br 117 (zS_br 115 (zc115) (zc117)) (zS_br 121 (zc121) (zS_br 127 (zc127) (zc134))))) (zS_br 164 (zS_br 160 (zS_br 159 (zc159) (zc160)) (zS_br 163 (zc163) (zc164))) (zS_br 169 (zS_br 168 (zc168) (zc169)) (zS_br 186 (zc186) (zS_br 187 (zc187) (zc189))))))
theorem zEC1_ok : ZE zEC1 12 := (ZE.br ((ZE.br ((ZE.br ((ZE.br ((ZE.br (zc3_ok) (zc6_ok) (by decide) (by decide) : ZE (zS_br 3 (zc3) (zc6)) 12)) ((ZE.br (zc7_ok) (zc35_ok) (by decide) (by decide) : ZE (zS_br 7 (zc7) (zc35)) 12)) (by decide) (by decide) : ZE (zS_br 6 (zS_br 3 (zc3) (zc6)) (zS_br 7 (zc7) (zc35))) 12)) ((ZE.br ((ZE.br (zc38_ok) (zc39_ok) (by decide) (by decide) : ZE (zS_br 38 (zc38) (zc39)) 12)) ((ZE.br (zc45_ok) (zc53_ok) (by decide) (by decide) : ZE (zS_br 45 (zc45) (zc53)) 12)) (by decide) (by decide) : ZE (zS_br 39 (zS_br 38 (zc38) (zc39)) (zS_br 45 (zc45) (zc53))) 12)) (by decide) (by decide) : ZE (zS_br 35 (zS_br 6 (zS_br 3 (zc3) (zc6)) (zS_br 7 (zc7) (zc35))) (zS_br 39 (zS_br 38 (zc38) (zc39)) (zS_br 45 (zc45) (zc53)))) 12)) ((ZE.br ((ZE.br ((ZE.br (zc58_ok) (zc59_ok) (by decide) (by decide) : ZE (zS_br 58 (zc58) (zc59)) 12)) ((ZE.br (zc66_ok) (zc75_ok) (by decide) (by decide) : ZE (zS_br 66 (zc66) (zc75)) 12)) (by decide) (by decide) : ZE (zS_br 59 (zS_br 58 (zc58) (zc59)) (zS_br 66 (zc66) (zc75))) 12)) ((ZE.br ((ZE.br (zc81_ok) (zc96_ok) (by decide) (by decide) : ZE (zS_br 81 (zc81) (zc96)) 12)) ((ZE.br (zc97_ok) ((ZE.br (zc98_ok) (zc99_ok) (by decide) (by decide) : ZE (zS_br 98 (zc98) (zc99)) 12)) (by decide) (by decide) : ZE (zS_br 97 (zc97) (zS_br 98 (zc98) (zc99))) 12)) (by decide) (by decide) : ZE (zS_br 96 (zS_br 81 (zc81) (zc96)) (zS_br 97 (zc97) (zS_br 98 (zc98) (zc99)))) 12)) (by decide) (by decide) : ZE (zS_br 75 (zS_br 59 (zS_br 58 (zc58) (zc59)) (zS_br 66 (zc66) (zc75))) (zS_br 96 (zS_br 81 (zc81) (zc96)) (zS_br 97 (zc97) (zS_br 98 (zc98) (zc99))))) 12)) (by decide) (by decide) : ZE (zS_br 53 (zS_br 35 (zS_br 6 (zS_br 3 (zc3) (zc6)) (zS_br 7 (zc7) (zc35))) (zS_br 39 (zS_br 38 (zc38) (zc39)) (zS_br 45 (zc45) (zc53)))) (zS_br 75 (zS_br 59 (zS_br 58 (zc58) (zc59)) (zS_br 66 (zc66) (zc75))) (zS_br 96 (zS_br 81 (zc81) (zc96)) (zS_br 97 (zc97) (zS_br 98 (zc98) (zc99)))))) 12)) ((ZE.br ((ZE.br ((ZE.br ((ZE.br (zc100_ok) (zc102_ok) (by decide) (by decide) : ZE (zS_br 100 (zc100) (zc102)) 12)) ((ZE.br (zc111_ok) (zc114_ok) (by decide) (by decide) : ZE (zS_br 111 (zc111) (zc114)) 12)) (by decide) (by decide) : ZE (zS_br 102 (zS_br 100 (zc100) (zc102)) (zS_br 111 (zc111) (zc114))) 12)) ((ZE.br ((ZE.br (zc115_ok) (zc117_ok) (by decide) (by decide) : ZE (zS_br 115 (zc115) (zc117)) 12)) ((ZE.br (zc121_ok) ((ZE.br (zc127_ok) (zc134_ok) (by decide) (by decide) : ZE (zS_br 127 (zc127) (zc134)) 12)) (by decide) (by decide) : ZE (zS_br 121 (zc121) (zS_br 127 (zc127) (zc134))) 12)) (by decide) (by decide) : ZE (zS_br 117 (zS_br 115 (zc115) (zc117)) (zS_br 121 (zc121) (zS_br 127 (zc127) (zc134)))) 12)) (by decide) (by decide) : ZE (zS_br 114 (zS_br 102 (zS_br 100 (zc100) (zc102)) (zS_br 111 (zc111) (zc114))) (zS_br 117 (zS_br 115 (zc115) (zc117)) (zS_br 121 (zc121) (zS_br 127 (zc127) (zc134))))) 12)) ((ZE.br ((ZE.br ((ZE.br (zc159_ok) (zc160_ok) (by decide) (by decide) : ZE (zS_br 159 (zc159) (zc160)) 12)) ((ZE.br (zc163_ok) (zc164_ok) (by decide) (by decide) : ZE (zS_br 163 (zc163) (zc164)) 12)) (by decide) (by decide) : ZE (zS_br 160 (zS_br 159 (zc159) (zc160)) (zS_br 163 (zc163) (zc164))) 12)) ((ZE.br ((ZE.br (zc168_ok) (zc169_ok) (by decide) (by decide) : ZE (zS_br 168 (zc168) (zc169)) 12)) ((ZE.br (zc186_ok) ((ZE.br (zc187_ok) (zc189_ok) (by decide) (by decide) : ZE (zS_br 187 (zc187) (zc189)) 12)) (by decide) (by decide) : ZE (zS_br 186 (zc186) (zS_br 187 (zc187) (zc189))) 12)) (by decide) (by decide) : ZE (zS_br 169 (zS_br 168 (zc168) (zc169)) (zS_br 186 (zc186) (zS_br 187 (zc187) (zc189)))) 12)) (by decide) (by decide) : ZE (zS_br 164 (zS_br 160 (zS_br 159 (zc159) (zc160)) (zS_br 163 (zc163) (zc164))) (zS_br 169 (zS_br 168 (zc168) (zc169)) (zS_br 186 (zc186) (zS_br 187 (zc187) (zc189))))) 12)) (by decide) (by decide) : ZE (zS_br 134 (zS_br 114 (zS_br 102 (zS_br 100 (zc100) (zc102)) (zS_br 111 (zc111) (zc114))) (zS_br 117 (zS_br 115 (zc115) (zc117)) (zS_br 121 (zc121) (zS_br 127 (zc127) (zc134))))) (zS_br 164 (zS_br 160 (zS_br 159 (zc159) (zc160)) (zS_br 163 (zc163) (zc164))) (zS_br 169 (zS_br 168 (zc168) (zc169)) (zS_br 186 (zc186) (zS_br 187 (zc187) (zc189)))))) 12)) (by decide) (by decide) : ZE (zS_br 99 (zS_br 53 (zS_br 35 (zS_br 6 (zS_br 3 (zc3) (zc6)) (zS_br 7 (zc7) (zc35))) (zS_br 39 (zS_br 38 (zc38) (zc39)) (zS_br 45 (zc45) (zc53)))) (zS_br 75 (zS_br 59 (zS_br 58 (zc58) (zc59)) (zS_br 66 (zc66) (zc75))) (zS_br 96 (zS_br 81 (zc81) (zc96)) (zS_br 97 (zc97) (zS_br 98 (zc98) (zc99)))))) (zS_br 134 (zS_br 114 (zS_br 102 (zS_br 100 (zc100) (zc102)) (zS_br 111 (zc111) (zc114))) (zS_br 117 (zS_br 115 (zc115) (zc117)) (zS_br 121 (zc121) (zS_br 127 (zc127) (zc134))))) (zS_br 164 (zS_br 160 (zS_br 159 (zc159) (zc160)) (zS_br 163 (zc163) (zc164))) (zS_br 169 (zS_br 168 (zc168) (zc169)) (zS_br 186 (zc186) (zS_br 187 (zc187) (zc189))))))) 12)

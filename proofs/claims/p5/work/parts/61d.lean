/-! contracts, level 1 -/
noncomputable def zq38_e0 : EC := (5, [eR 1, eR 2, eX 42, eR 3, eU 10, eU 11, eU 12, eU 13, eU 14, eU 15])
noncomputable def zq38_e1 : EC := (1100, [eC 7, eC 0, eC 4294967295])
noncomputable def zq38_e2 : EC := (1100, [eC 40, eC 0, eC 4294967295])
noncomputable def zq38_c3 : List EC := [zq38_e0, zq38_e1, zq38_e2, zq38_e2]
noncomputable def zq38_w4 : EW := (4, [zq38_c3])
def zq38_g5 : EG := [(0, 4294967295), (0, 4294967295), (0, 4294967295), (0, 4294967295), (0, 4294967295), (0, 4294967295), (0, 4294967295), (0, 4294967295), (0, 4294967295), (0, 4294967295), (2147483648, 2147483688), (2147483648, 2147483688), (2147483648, 2147483652), (2147483648, 2147483651), (0, 4294967295), (2147483648, 2147483649)]
def zq38_p6 : List (Nat × Nat) := []
noncomputable def zq38_g7 : EG := zq38_g5 ++ [(0, 4294967295)]
noncomputable def zq38_n8 : List ZN := [(some (eU 16), [0], zq38_p6, zq38_w4, zq38_g7)]
noncomputable def zq38_g9 : EG := zy_su [(10, 2147483649, 2147483688)] zq38_g5
noncomputable def zq38_g10 : EG := zy_su [(10, 2147483649, 2147483688)] zq38_g5 ++ [(2147483648, 2147483649), (0, 4294967295)]
noncomputable def zq38_g11 : EG := zy_su [(10, 2147483650, 2147483688)] zq38_g5 ++ [(2147483648, 2147483650), (0, 4294967295)]
noncomputable def zq38_g12 : EG := zy_su [(10, 2147483651, 2147483688)] zq38_g5 ++ [(2147483648, 2147483651), (0, 4294967295)]
noncomputable def zq38_g13 : EG := zy_su [(10, 2147483652, 2147483688)] zq38_g5 ++ [(2147483648, 2147483652), (0, 4294967295)]
noncomputable def zq38_g14 : EG := zy_su [(10, 2147483653, 2147483688)] zq38_g5 ++ [(2147483648, 2147483653), (0, 4294967295)]
noncomputable def zq38_g15 : EG := zy_su [(10, 2147483654, 2147483688)] zq38_g5 ++ [(2147483648, 2147483654), (0, 4294967295)]
noncomputable def zq38_g16 : EG := zy_su [(10, 2147483655, 2147483688)] zq38_g5 ++ [(2147483648, 2147483655), (0, 4294967295)]
noncomputable def zq38_g17 : EG := zy_su [(10, 2147483656, 2147483688)] zq38_g5 ++ [(2147483648, 2147483656), (0, 4294967295)]
noncomputable def zq38_g18 : EG := zy_su [(10, 2147483657, 2147483688)] zq38_g5 ++ [(2147483648, 2147483657), (0, 4294967295)]
noncomputable def zq38_g19 : EG := zy_su [(10, 2147483658, 2147483688)] zq38_g5 ++ [(2147483648, 2147483658), (0, 4294967295)]
noncomputable def zq38_g20 : EG := zy_su [(10, 2147483659, 2147483688)] zq38_g5 ++ [(2147483648, 2147483659), (0, 4294967295)]
noncomputable def zq38_g21 : EG := zy_su [(10, 2147483660, 2147483688)] zq38_g5 ++ [(2147483648, 2147483660), (0, 4294967295)]
noncomputable def zq38_g22 : EG := zy_su [(10, 2147483661, 2147483688)] zq38_g5 ++ [(2147483648, 2147483661), (0, 4294967295)]
noncomputable def zq38_g23 : EG := zy_su [(10, 2147483662, 2147483688)] zq38_g5 ++ [(2147483648, 2147483662), (0, 4294967295)]
noncomputable def zq38_g24 : EG := zy_su [(10, 2147483663, 2147483688)] zq38_g5 ++ [(2147483648, 2147483663), (0, 4294967295)]
noncomputable def zq38_g25 : EG := zy_su [(10, 2147483664, 2147483688)] zq38_g5 ++ [(2147483648, 2147483664), (0, 4294967295)]
noncomputable def zq38_g26 : EG := zy_su [(10, 2147483665, 2147483688)] zq38_g5 ++ [(2147483648, 2147483665), (0, 4294967295)]
noncomputable def zq38_g27 : EG := zy_su [(10, 2147483666, 2147483688)] zq38_g5 ++ [(2147483648, 2147483666), (0, 4294967295)]
noncomputable def zq38_g28 : EG := zy_su [(10, 2147483667, 2147483688)] zq38_g5 ++ [(2147483648, 2147483667), (0, 4294967295)]
noncomputable def zq38_g29 : EG := zy_su [(10, 2147483668, 2147483688)] zq38_g5 ++ [(2147483648, 2147483668), (0, 4294967295)]
noncomputable def zq38_g30 : EG := zy_su [(10, 2147483669, 2147483688)] zq38_g5 ++ [(2147483648, 2147483669), (0, 4294967295)]
noncomputable def zq38_g31 : EG := zy_su [(10, 2147483670, 2147483688)] zq38_g5 ++ [(2147483648, 2147483670), (0, 4294967295)]
noncomputable def zq38_g32 : EG := zy_su [(10, 2147483671, 2147483688)] zq38_g5 ++ [(2147483648, 2147483671), (0, 4294967295)]
noncomputable def zq38_g33 : EG := zy_su [(10, 2147483672, 2147483688)] zq38_g5 ++ [(2147483648, 2147483672), (0, 4294967295)]
noncomputable def zq38_g34 : EG := zy_su [(10, 2147483673, 2147483688)] zq38_g5 ++ [(2147483648, 2147483673), (0, 4294967295)]
noncomputable def zq38_g35 : EG := zy_su [(10, 2147483674, 2147483688)] zq38_g5 ++ [(2147483648, 2147483674), (0, 4294967295)]
noncomputable def zq38_g36 : EG := zy_su [(10, 2147483675, 2147483688)] zq38_g5 ++ [(2147483648, 2147483675), (0, 4294967295)]
noncomputable def zq38_g37 : EG := zy_su [(10, 2147483676, 2147483688)] zq38_g5 ++ [(2147483648, 2147483676), (0, 4294967295)]
noncomputable def zq38_g38 : EG := zy_su [(10, 2147483677, 2147483688)] zq38_g5 ++ [(2147483648, 2147483677), (0, 4294967295)]
noncomputable def zq38_g39 : EG := zy_su [(10, 2147483678, 2147483688)] zq38_g5 ++ [(2147483648, 2147483678), (0, 4294967295)]
noncomputable def zq38_g40 : EG := zy_su [(10, 2147483679, 2147483688)] zq38_g5 ++ [(2147483648, 2147483679), (0, 4294967295)]
noncomputable def zq38_g41 : EG := zy_su [(10, 2147483680, 2147483688)] zq38_g5 ++ [(2147483648, 2147483680), (0, 4294967295)]
noncomputable def zq38_g42 : EG := zy_su [(10, 2147483681, 2147483688)] zq38_g5 ++ [(2147483648, 2147483681), (0, 4294967295)]
noncomputable def zq38_g43 : EG := zy_su [(10, 2147483682, 2147483688)] zq38_g5 ++ [(2147483648, 2147483682), (0, 4294967295)]
noncomputable def zq38_g44 : EG := zy_su [(10, 2147483683, 2147483688)] zq38_g5 ++ [(2147483648, 2147483683), (0, 4294967295)]
noncomputable def zq38_g45 : EG := zy_su [(10, 2147483684, 2147483688)] zq38_g5 ++ [(2147483648, 2147483684), (0, 4294967295)]
noncomputable def zq38_g46 : EG := zy_su [(10, 2147483685, 2147483688)] zq38_g5 ++ [(2147483648, 2147483685), (0, 4294967295)]
noncomputable def zq38_g47 : EG := zy_su [(10, 2147483686, 2147483688)] zq38_g5 ++ [(2147483648, 2147483686), (0, 4294967295)]
noncomputable def zq38_g48 : EG := zy_su [(10, 2147483687, 2147483688)] zq38_g5 ++ [(2147483648, 2147483687), (0, 4294967295)]
noncomputable def zq38_g49 : EG := zy_su [(10, 2147483688, 2147483688)] zq38_g5 ++ [(2147483648, 2147483688), (0, 4294967295)]
noncomputable def zq38_S1 : List ZC := ((12, 18, [1, 3], zq38_p6, [eR 0, eU 16, eC 40, eU 17], zq38_w4, zq38_g49), [], []) :: []
noncomputable def zq38_S0 : List ZC := ((12, 18, [], zq38_p6, [eR 0, eC 0, eC 0, eX 1], zq38_w4, zq38_g9), [1], []) :: ((12, 18, [1, 3], zq38_p6, [eR 0, eU 16, eC 1, eU 17], zq38_w4, zq38_g10), [2], []) :: ((12, 18, [1, 3], zq38_p6, [eR 0, eU 16, eC 2, eU 17], zq38_w4, zq38_g11), [3], []) :: ((12, 18, [1, 3], zq38_p6, [eR 0, eU 16, eC 3, eU 17], zq38_w4, zq38_g12), [4], []) :: ((12, 18, [1, 3], zq38_p6, [eR 0, eU 16, eC 4, eU 17], zq38_w4, zq38_g13), [5], []) :: ((12, 18, [1, 3], zq38_p6, [eR 0, eU 16, eC 5, eU 17], zq38_w4, zq38_g14), [6], []) :: ((12, 18, [1, 3], zq38_p6, [eR 0, eU 16, eC 6, eU 17], zq38_w4, zq38_g15), [7], []) :: ((12, 18, [1, 3], zq38_p6, [eR 0, eU 16, eC 7, eU 17], zq38_w4, zq38_g16), [8], []) :: ((12, 18, [1, 3], zq38_p6, [eR 0, eU 16, eC 8, eU 17], zq38_w4, zq38_g17), [9], []) :: ((12, 18, [1, 3], zq38_p6, [eR 0, eU 16, eC 9, eU 17], zq38_w4, zq38_g18), [10], []) :: ((12, 18, [1, 3], zq38_p6, [eR 0, eU 16, eC 10, eU 17], zq38_w4, zq38_g19), [11], []) :: ((12, 18, [1, 3], zq38_p6, [eR 0, eU 16, eC 11, eU 17], zq38_w4, zq38_g20), [12], []) :: ((12, 18, [1, 3], zq38_p6, [eR 0, eU 16, eC 12, eU 17], zq38_w4, zq38_g21), [13], []) :: ((12, 18, [1, 3], zq38_p6, [eR 0, eU 16, eC 13, eU 17], zq38_w4, zq38_g22), [14], []) :: ((12, 18, [1, 3], zq38_p6, [eR 0, eU 16, eC 14, eU 17], zq38_w4, zq38_g23), [15], []) :: ((12, 18, [1, 3], zq38_p6, [eR 0, eU 16, eC 15, eU 17], zq38_w4, zq38_g24), [16], []) :: ((12, 18, [1, 3], zq38_p6, [eR 0, eU 16, eC 16, eU 17], zq38_w4, zq38_g25), [17], []) :: ((12, 18, [1, 3], zq38_p6, [eR 0, eU 16, eC 17, eU 17], zq38_w4, zq38_g26), [18], []) :: ((12, 18, [1, 3], zq38_p6, [eR 0, eU 16, eC 18, eU 17], zq38_w4, zq38_g27), [19], []) :: ((12, 18, [1, 3], zq38_p6, [eR 0, eU 16, eC 19, eU 17], zq38_w4, zq38_g28), [20], []) :: ((12, 18, [1, 3], zq38_p6, [eR 0, eU 16, eC 20, eU 17], zq38_w4, zq38_g29), [21], []) :: ((12, 18, [1, 3], zq38_p6, [eR 0, eU 16, eC 21, eU 17], zq38_w4, zq38_g30), [22], []) :: ((12, 18, [1, 3], zq38_p6, [eR 0, eU 16, eC 22, eU 17], zq38_w4, zq38_g31), [23], []) :: ((12, 18, [1, 3], zq38_p6, [eR 0, eU 16, eC 23, eU 17], zq38_w4, zq38_g32), [24], []) :: ((12, 18, [1, 3], zq38_p6, [eR 0, eU 16, eC 24, eU 17], zq38_w4, zq38_g33), [25], []) :: ((12, 18, [1, 3], zq38_p6, [eR 0, eU 16, eC 25, eU 17], zq38_w4, zq38_g34), [26], []) :: ((12, 18, [1, 3], zq38_p6, [eR 0, eU 16, eC 26, eU 17], zq38_w4, zq38_g35), [27], []) :: ((12, 18, [1, 3], zq38_p6, [eR 0, eU 16, eC 27, eU 17], zq38_w4, zq38_g36), [28], []) :: ((12, 18, [1, 3], zq38_p6, [eR 0, eU 16, eC 28, eU 17], zq38_w4, zq38_g37), [29], []) :: ((12, 18, [1, 3], zq38_p6, [eR 0, eU 16, eC 29, eU 17], zq38_w4, zq38_g38), [30], []) :: ((12, 18, [1, 3], zq38_p6, [eR 0, eU 16, eC 30, eU 17], zq38_w4, zq38_g39), [31], []) :: ((12, 18, [1, 3], zq38_p6, [eR 0, eU 16, eC 31, eU 17], zq38_w4, zq38_g40), [32], []) :: ((12, 18, [1, 3], zq38_p6, [eR 0, eU 16, eC 32, eU 17], zq38_w4, zq38_g41), [33], []) :: ((12, 18, [1, 3], zq38_p6, [eR 0, eU 16, eC 33, eU 17], zq38_w4, zq38_g42), [34], []) :: ((12, 18, [1, 3], zq38_p6, [eR 0, eU 16, eC 34, eU 17], zq38_w4, zq38_g43), [35], []) :: ((12, 18, [1, 3], zq38_p6, [eR 0, eU 16, eC 35, eU 17], zq38_w4, zq38_g44), [36], []) :: ((12, 18, [1, 3], zq38_p6, [eR 0, eU 16, eC 36, eU 17], zq38_w4, zq38_g45), [37], []) :: ((12, 18, [1, 3], zq38_p6, [eR 0, eU 16, eC 37, eU 17], zq38_w4, zq38_g46), [38], []) :: ((12, 18, [1, 3], zq38_p6, [eR 0, eU 16, eC 38, eU 17], zq38_w4, zq38_g47), [39], []) :: ((12, 18, [1, 3], zq38_p6, [eR 0, eU 16, eC 39, eU 17], zq38_w4, zq38_g48), [40], []) :: zq38_S1
noncomputable def zq38_K : List ZC := zq38_S0
noncomputable def zq38_e : ERt := zy_ends 16 zq38_n8
theorem zq38_E : zy_spl (fun g => zy_en (zp_X5_drift, 4, 0, 0) (zX zS_no 8) zq38_e [18] 100000 (zy_B 16 zq38_K [0]) ([eR 0] : List EV) zq38_w4 g) [] zq38_g5 = true := by decide +kernel
noncomputable def zq38_f (i : Nat) : Bool := zy_f 16 zp_X5_drift (zX zS_no 8) 0 0 zq38_e [18] 100000 zq38_K i
theorem zq38_0 : zy_ch zq38_f 0 19 = true := by decide +kernel
theorem zq38_19 : zy_ch zq38_f 19 19 = true := by decide +kernel
theorem zq38_38 : zy_ch zq38_f 38 3 = true := by decide +kernel
theorem zq38_n : zq38_K.length = 41 := by decide +kernel
def zq38_p50 : List (Nat × Nat) := [(0, 4), (0, 5), (0, 6), (0, 7), (0, 8), (0, 9)]
noncomputable def zc38 : ECal := zf_cal 38 10 [.inl 0, .inr (0, 0), .inr (0, 1), .inr (0, 3)] [] zq38_p50 [(0, 2)] ([eR 0] : List EV) zq38_w4 zq38_g5 zq38_n8
theorem zc38_ok : ZE zc38 12 := ZE.met (n := 8) (es := zq38_n8) (hd := [18]) (F := 100000) (KS := zq38_K) (js := [0]) (sp0 := []) (by decide) zS_no_ok (y0 := 38) (q := (yX5_drift, cX5_drift, 4, (some .int), 5, 0, 0)) rfl ⟨rfl, rfl⟩ (m9 := (zp_X5_drift, 4, 0, 0)) rfl rfl (zy_nx_ok (by decide +kernel)) (N2 := 16) (by decide +kernel) (by decide) zq38_E (fun i hi => (show ∀ i, i < 41 → zq38_f i = true from fun i hi => if h0 : i < 19 then zy_ch_ok zq38_0 i (by omega) (by omega) else if h19 : i < 38 then zy_ch_ok zq38_19 i (by omega) (by omega) else zy_ch_ok zq38_38 i (by omega) (by omega)) i (by have h9 := hi; rw [zq38_n] at h9; exact h9))
noncomputable def zq39_e0 : EC := (5, [eR 1, eX 42, eX 43, eX 44, eU 13, eU 14, eU 15, eU 16, eU 17, eU 18])
noncomputable def zq39_e1 : EC := (1100, [eC 7, eC 0, eC 4294967295])
noncomputable def zq39_e2 : EC := (9, [eR 3, eX 45, eR 4, eU 19, eU 20, eU 21, eU 22, eU 23, eU 24])
noncomputable def zq39_e3 : EC := (1100, [eC 5, eC 2147483600, eC 2147483855])
noncomputable def zq39_e4 : EC := (1100, [eC 20, eC 0, eC 4294967295])
noncomputable def zq39_c5 : List EC := [zq39_e0, zq39_e1, zq39_e2, zq39_e3, zq39_e4]
noncomputable def zq39_w6 : EW := (5, [zq39_c5])
def zq39_g7 : EG := [(0, 4294967295), (0, 4294967295), (0, 4294967295), (0, 4294967295), (0, 4294967295), (0, 4294967295), (0, 4294967295), (0, 4294967295), (0, 4294967295), (0, 4294967295), (0, 4294967295), (0, 4294967295), (0, 4294967295), (2147483648, 2147483688), (2147483648, 2147483688), (2147483648, 2147483652), (2147483648, 2147483651), (0, 4294967295), (2147483648, 2147483649), (2147483648, 2147483653), (2147483648, 2147483653), (0, 4294967295), (0, 4294967295), (0, 4294967295), (0, 4294967295)]
def zq39_p8 : List (Nat × Nat) := []
noncomputable def zq39_n9 : List ZN := [(none, [], zq39_p8, zq39_w6, zq39_g7)]
noncomputable def zq39_K : List ZC := []
noncomputable def zq39_e : ERt := zy_ends 25 zq39_n9
theorem zq39_E : zy_spl (fun g => zy_en (zp_X5_learn, 5, 0, 0) (zX zS_no 8) zq39_e [] 100000 (zy_B 25 zq39_K []) ([eR 0, eR 2, eU 10, eU 11, eU 12] : List EV) zq39_w6 g) [] zq39_g7 = true := by decide +kernel
noncomputable def zq39_f (i : Nat) : Bool := zy_f 25 zp_X5_learn (zX zS_no 8) 0 0 zq39_e [] 100000 zq39_K i
def zq39_p10 : List (Nat × Nat) := [(0, 4), (0, 5), (0, 6), (0, 7), (0, 8), (0, 9), (2, 3), (2, 4), (2, 5), (2, 6), (2, 7), (2, 8)]
noncomputable def zc39 : ECal := zf_cal 39 10 [.inl 0, .inr (0, 0), .inl 1, .inr (2, 0), .inr (2, 2)] [2, 3, 4] zq39_p10 [(0, 1), (0, 2), (0, 3), (2, 1)] ([eR 0, eR 2, eU 10, eU 11, eU 12] : List EV) zq39_w6 zq39_g7 zq39_n9
theorem zc39_ok : ZE zc39 12 := ZE.met (n := 8) (es := zq39_n9) (hd := []) (F := 100000) (KS := zq39_K) (js := []) (sp0 := []) (by decide) zS_no_ok (y0 := 39) (q := (yX5_learn, cX5_learn, 5, none, 5, 0, 0)) rfl ⟨rfl, rfl⟩ (m9 := (zp_X5_learn, 5, 0, 0)) rfl rfl (zy_nx_ok (by decide +kernel)) (N2 := 25) (by decide +kernel) (by decide) zq39_E (fun i hi => absurd (show i < 0 from hi) (Nat.not_lt_zero i))
noncomputable def zq53_e0 : EC := (6, [eR 1, eU 11])
noncomputable def zq53_e1 : EC := (1101, [eC 80, eC 2147483648, eC 2147483903])
noncomputable def zq53_c2 : List EC := [zq53_e0, zq53_e1]
noncomputable def zq53_w3 : EW := (2, [zq53_c2])
def zq53_g4 : EG := [(0, 4294967295), (0, 4294967295), (0, 4294967295), (0, 4294967295), (0, 4294967295), (0, 4294967295), (0, 4294967295), (0, 4294967295), (0, 4294967295), (0, 4294967295), (0, 4294967295), (2147483648, 2147483728)]
def zq53_p5 : List (Nat × Nat) := [(0, 1)]
noncomputable def zq53_e6 : EC := (6, [eR 1, eU 13])
noncomputable def zq53_c7 : List EC := [zq53_e6, zq53_e1]
noncomputable def zq53_w8 : EW := (2, [zq53_c7])
noncomputable def zq53_g9 : EG := zq53_g4 ++ [(2147483647, 2147483728), (2147483652, 2147483728)]
noncomputable def zq53_n10 : List ZN := [(some (eU 12), [0], zq53_p5, zq53_w8, zq53_g9)]
def zq53_p11 : List (Nat × Nat) := []
noncomputable def zq53_g12 : EG := zy_su [(11, 2147483648, 2147483724)] zq53_g4
noncomputable def zq53_e13 : EC := (6, [eR 1, eU 12])
noncomputable def zq53_c14 : List EC := [zq53_e13, zq53_e1]
noncomputable def zq53_w15 : EW := (2, [zq53_c14])
noncomputable def zq53_g16 : EG := zy_su [(11, 2147483648, 2147483724)] zq53_g4 ++ [(2147483649, 2147483725)]
noncomputable def zq53_g17 : EG := zy_su [(11, 2147483648, 2147483724)] zq53_g4 ++ [(2147483650, 2147483726)]
noncomputable def zq53_g18 : EG := zy_su [(11, 2147483648, 2147483724)] zq53_g4 ++ [(2147483651, 2147483727)]
noncomputable def zq53_g19 : EG := zy_su [(11, 2147483648, 2147483724)] zq53_g4 ++ [(2147483652, 2147483728)]
noncomputable def zq53_S0 : List ZC := ((8, 14, [], zq53_p11, [eR 0, eU 10, eC 24], zq53_w3, zq53_g12), [1], []) :: ((8, 14, [], zq53_p5, [eR 0, eU 10, eC 16], zq53_w15, zq53_g16), [2], []) :: ((8, 14, [], zq53_p5, [eR 0, eU 10, eC 8], zq53_w15, zq53_g17), [3], []) :: ((8, 14, [], zq53_p5, [eR 0, eU 10, eC 0], zq53_w15, zq53_g18), [4], []) :: ((8, 14, [], zq53_p5, [eR 0, eU 10, eC 4294967288], zq53_w15, zq53_g19), [], []) :: []
noncomputable def zq53_K : List ZC := zq53_S0
noncomputable def zq53_e : ERt := zy_ends 12 zq53_n10
theorem zq53_E : zy_spl (fun g => zy_en (zp_X6_append, 3, 0, 0) (zX zS_no 8) zq53_e [14] 100000 (zy_B 12 zq53_K [0]) ([eR 0, eU 10] : List EV) zq53_w3 g) [] zq53_g4 = true := by decide +kernel
noncomputable def zq53_f (i : Nat) : Bool := zy_f 12 zp_X6_append (zX zS_no 8) 0 0 zq53_e [14] 100000 zq53_K i
theorem zq53_0 : zy_ch zq53_f 0 5 = true := by decide +kernel
theorem zq53_n : zq53_K.length = 5 := by decide +kernel
noncomputable def zc53 : ECal := zf_cal 53 10 [.inl 0, .inr (0, 0)] [1] zq53_p5 [] ([eR 0, eU 10] : List EV) zq53_w3 zq53_g4 zq53_n10
theorem zc53_ok : ZE zc53 12 := ZE.met (n := 8) (es := zq53_n10) (hd := [14]) (F := 100000) (KS := zq53_K) (js := [0]) (sp0 := []) (by decide) zS_no_ok (y0 := 53) (q := (yX6_append, cX6_append, 3, (some .int), 6, 0, 0)) rfl ⟨rfl, rfl⟩ (m9 := (zp_X6_append, 3, 0, 0)) rfl rfl (zy_nx_ok (by decide +kernel)) (N2 := 12) (by decide +kernel) (by decide) zq53_E (fun i hi => (show ∀ i, i < 5 → zq53_f i = true from fun i hi => zy_ch_ok zq53_0 i (by omega) (by omega)) i (by have h9 := hi; rw [zq53_n] at h9; exact h9))
noncomputable def zq58_e0 : EC := (6, [eR 1, eU 14])
noncomputable def zq58_e1 : EC := (1101, [eC 80, eC 2147483648, eC 2147483903])
noncomputable def zq58_c2 : List EC := [zq58_e0, zq58_e1]
noncomputable def zq58_w3 : EW := (2, [zq58_c2])
def zq58_g4 : EG := [(0, 4294967295), (0, 4294967295), (0, 4294967295), (0, 4294967295), (0, 4294967295), (0, 4294967295), (0, 4294967295), (0, 4294967295), (0, 4294967295), (0, 4294967295), (0, 4294967295), (2147483648, 2147549183), (2147483648, 2147549183), (0, 4294967295), (2147483648, 2147483728)]
def zq58_p5 : List (Nat × Nat) := []
noncomputable def zq58_g6 : EG := zq58_g4 ++ [(0, 2147483657)]
noncomputable def zq58_n7 : List ZN := [(some (eU 15), [0], zq58_p5, zq58_w3, zq58_g6)]
noncomputable def zq58_g8 : EG := zy_su [(11, 2147483648, 2147483903), (13, 2147483649, 4294967295)] zq58_g4 ++ [(2147483649, 2147483657), (2147483648, 2147483903)]
noncomputable def zq58_g9 : EG := zy_su [(11, 2147483648, 2147483903), (13, 2147483649, 4294967295)] zq58_g4 ++ [(2147483650, 2147483657), (2147483707, 2147483707)]
noncomputable def zq58_g10 : EG := zy_su [(11, 2147483648, 2147483903), (13, 2147483650, 4294967295)] zq58_g4 ++ [(2147483651, 2147483657), (2147483648, 2147483903)]
noncomputable def zq58_g11 : EG := zy_su [(11, 2147483648, 2147483903), (13, 2147483650, 4294967295)] zq58_g4 ++ [(2147483652, 2147483657), (2147483707, 2147483707)]
noncomputable def zq58_g12 : EG := zy_su [(11, 2147483648, 2147483903), (13, 2147483651, 4294967295)] zq58_g4 ++ [(2147483653, 2147483657), (2147483648, 2147483903)]
noncomputable def zq58_g13 : EG := zy_su [(11, 2147483648, 2147483903), (13, 2147483651, 4294967295)] zq58_g4 ++ [(2147483654, 2147483657), (2147483707, 2147483707)]
noncomputable def zq58_g14 : EG := zy_su [(11, 2147483648, 2147483903), (13, 2147483652, 4294967295)] zq58_g4 ++ [(2147483655, 2147483657), (2147483648, 2147483903)]
noncomputable def zq58_g15 : EG := zy_su [(11, 2147483648, 2147483903), (13, 2147483652, 4294967295)] zq58_g4 ++ [(2147483656, 2147483657), (2147483707, 2147483707)]
noncomputable def zq58_g16 : EG := zy_su [(11, 2147483648, 2147483903), (13, 2147483653, 4294967295)] zq58_g4 ++ [(2147483657, 2147483657), (2147483648, 2147483903)]
noncomputable def zq58_S0 : List ZC := ((6, 11, [5], zq58_p5, [eR 0, eU 10, eU 11, eU 12, eU 13, eU 15, eC 0, eX 1, eX 1], zq58_w3, zq58_g6), [1], []) :: ((6, 11, [5, 7], zq58_p5, [eR 0, eU 10, eU 11, eU 12, eU 13, eU 15, eC 1, eU 16, eC 1], zq58_w3, zq58_g8), [2], []) :: ((6, 11, [5, 7], zq58_p5, [eR 0, eU 10, eU 11, eU 12, eU 13, eU 15, eC 2, eU 16, eC 1], zq58_w3, zq58_g9), [3], []) :: ((6, 11, [5, 7], zq58_p5, [eR 0, eU 10, eU 11, eU 12, eU 13, eU 15, eC 3, eU 16, eC 1], zq58_w3, zq58_g10), [4], []) :: ((6, 11, [5, 7], zq58_p5, [eR 0, eU 10, eU 11, eU 12, eU 13, eU 15, eC 4, eU 16, eC 1], zq58_w3, zq58_g11), [5], []) :: ((6, 11, [5, 7], zq58_p5, [eR 0, eU 10, eU 11, eU 12, eU 13, eU 15, eC 5, eU 16, eC 1], zq58_w3, zq58_g12), [6], []) :: ((6, 11, [5, 7], zq58_p5, [eR 0, eU 10, eU 11, eU 12, eU 13, eU 15, eC 6, eU 16, eC 1], zq58_w3, zq58_g13), [7], []) :: ((6, 11, [5, 7], zq58_p5, [eR 0, eU 10, eU 11, eU 12, eU 13, eU 15, eC 7, eU 16, eC 1], zq58_w3, zq58_g14), [8], []) :: ((6, 11, [5, 7], zq58_p5, [eR 0, eU 10, eU 11, eU 12, eU 13, eU 15, eC 8, eU 16, eC 1], zq58_w3, zq58_g15), [9], []) :: ((6, 11, [5, 7], zq58_p5, [eR 0, eU 10, eU 11, eU 12, eU 13, eU 15, eC 9, eU 16, eC 1], zq58_w3, zq58_g16), [], []) :: []
noncomputable def zq58_K : List ZC := zq58_S0
noncomputable def zq58_e : ERt := zy_ends 15 zq58_n7
theorem zq58_E : zy_spl (fun g => zy_en (zp_X6_faultOfLines, 9, 0, 0) (zX zS_no 8) zq58_e [11] 100000 (zy_B 15 zq58_K [0]) ([eR 0, eU 10, eU 11, eU 12, eU 13] : List EV) zq58_w3 g) [] zq58_g4 = true := by decide +kernel
noncomputable def zq58_f (i : Nat) : Bool := zy_f 15 zp_X6_faultOfLines (zX zS_no 8) 0 0 zq58_e [11] 100000 zq58_K i
theorem zq58_0 : zy_ch zq58_f 0 10 = true := by decide +kernel
theorem zq58_n : zq58_K.length = 10 := by decide +kernel
def zq58_p17 : List (Nat × Nat) := [(0, 1)]
noncomputable def zc58 : ECal := zf_cal 58 10 [.inl 0, .inr (0, 0)] [1, 2, 3, 4] zq58_p17 [] ([eR 0, eU 10, eU 11, eU 12, eU 13] : List EV) zq58_w3 zq58_g4 zq58_n7
theorem zc58_ok : ZE zc58 12 := ZE.met (n := 8) (es := zq58_n7) (hd := [11]) (F := 100000) (KS := zq58_K) (js := [0]) (sp0 := []) (by decide) zS_no_ok (y0 := 58) (q := (yX6_faultOfLines, cX6_faultOfLines, 9, (some .int), 6, 0, 0)) rfl ⟨rfl, rfl⟩ (m9 := (zp_X6_faultOfLines, 9, 0, 0)) rfl rfl (zy_nx_ok (by decide +kernel)) (N2 := 15) (by decide +kernel) (by decide) zq58_E (fun i hi => (show ∀ i, i < 10 → zq58_f i = true from fun i hi => zy_ch_ok zq58_0 i (by omega) (by omega)) i (by have h9 := hi; rw [zq58_n] at h9; exact h9))

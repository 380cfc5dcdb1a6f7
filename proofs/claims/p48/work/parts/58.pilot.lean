/-! pilot: Town.bitsAt from any Town: 0 .. 20 -/
def zb9_p : List (Nat × Nat) := [(0, 3), (0, 4), (0, 5), (0, 6), (0, 7), (0, 8), (1, 0), (1, 1), (1, 2), (1, 3), (1, 4), (2, 0), (2, 1), (2, 2), (2, 3), (2, 4), (3, 0), (3, 1), (3, 2), (3, 3), (3, 4), (3, 5), (3, 6), (3, 7), (3, 8), (3, 9), (3, 10), (3, 11), (3, 12), (3, 13), (3, 14), (3, 15), (3, 16), (3, 17), (3, 18), (3, 19)]
noncomputable def zb9_w (b : Nat) : EW := (4, [[(9, [eR 1, eR 2, eR 3, eU (b + 0), eU (b + 1), eU (b + 2), eU (b + 3), eU (b + 4), eU (b + 5)]), (100, [eU (b + 6), eU (b + 7), eU (b + 8), eU (b + 9), eU (b + 10)]), (100, [eU (b + 11), eU (b + 12), eU (b + 13), eU (b + 14), eU (b + 15)]), (100, [eU (b + 16), eU (b + 17), eU (b + 18), eU (b + 19), eU (b + 20), eU (b + 21), eU (b + 22), eU (b + 23), eU (b + 24), eU (b + 25), eU (b + 26), eU (b + 27), eU (b + 28), eU (b + 29), eU (b + 30), eU (b + 31), eU (b + 32), eU (b + 33), eU (b + 34), eU (b + 35)])]])
def zb9_g (own : List (Nat × Nat)) : EG := [(0, 4294967295), (0, 4294967295), (0, 4294967295), (0, 4294967295), (0, 4294967295), (0, 4294967295)] ++ own ++ List.replicate 36 (0, 4294967295)
noncomputable def zb9_K (j : Nat) : ZK := (4, 4, [1, 2], zb9_p, [eR 0, eU 6, eU 7, eC j], zb9_w 8, zb9_g [(0, 4294967295), (2147483648, 2147483648 + j)])
noncomputable def zb9_KS : List ZK := [zb9_K 0, zb9_K 1, zb9_K 2, zb9_K 3, zb9_K 4, zb9_K 5, zb9_K 6, zb9_K 7, zb9_K 8, zb9_K 9, zb9_K 10, zb9_K 11, zb9_K 12, zb9_K 13, zb9_K 14, zb9_K 15, zb9_K 16, zb9_K 17, zb9_K 18, zb9_K 19, zb9_K 20]
noncomputable def zb9_e : ERt := zy_end 6 (some (eU 6)) [0] zb9_p (zb9_w 7) (zb9_g [(2147483648, 2147483668)])
theorem zb9_E : zy_en (zp_X9_bitsAt, 4, 0, 0) (ze_ex zp_all 5) zb9_e [4] 1000 (zy_B 6 zb9_KS) [eR 0, eU 6] (zb9_w 7) (zb9_g [(0, 4294967295)]) = true := by decide +kernel
noncomputable def zb9_f (i : Nat) : Bool := ze_n zb9_KS i (fun K => cond (zy_hd zp_X9_bitsAt K) (zy_st zp_X9_bitsAt (ze_ex zp_all 5) 0 0 zb9_e [4] 1000 (zy_B 6 (zb9_KS.drop (i + 1))) K) false)
theorem zb9_0 : zb9_f 0 = true := by decide +kernel
theorem zb9_1 : zb9_f 1 = true := by decide +kernel
theorem zb9_2 : zb9_f 2 = true := by decide +kernel
theorem zb9_3 : zb9_f 3 = true := by decide +kernel
theorem zb9_4 : zb9_f 4 = true := by decide +kernel
theorem zb9_5 : zb9_f 5 = true := by decide +kernel
theorem zb9_6 : zb9_f 6 = true := by decide +kernel
theorem zb9_7 : zb9_f 7 = true := by decide +kernel
theorem zb9_8 : zb9_f 8 = true := by decide +kernel
theorem zb9_9 : zb9_f 9 = true := by decide +kernel
theorem zb9_10 : zb9_f 10 = true := by decide +kernel
theorem zb9_11 : zb9_f 11 = true := by decide +kernel
theorem zb9_12 : zb9_f 12 = true := by decide +kernel
theorem zb9_13 : zb9_f 13 = true := by decide +kernel
theorem zb9_14 : zb9_f 14 = true := by decide +kernel
theorem zb9_15 : zb9_f 15 = true := by decide +kernel
theorem zb9_16 : zb9_f 16 = true := by decide +kernel
theorem zb9_17 : zb9_f 17 = true := by decide +kernel
theorem zb9_18 : zb9_f 18 = true := by decide +kernel
theorem zb9_19 : zb9_f 19 = true := by decide +kernel
theorem zb9_20 : zb9_f 20 = true := by decide +kernel

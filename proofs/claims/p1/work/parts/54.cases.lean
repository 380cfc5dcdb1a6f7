/-! the cases of the law that are short -/
theorem zT_1 : zL_run zL_no 100 zp_L_law__0 (ze_il [eX 2] 8) [] (0, []) (zL_gL 1) 0 0 = true := by decide +kernel
theorem zT_2 : zL_run zL_no 100 zp_L_law__0 (ze_il [eX 2] 8) [] (0, []) (zL_gL 2) 0 0 = true := by decide +kernel
theorem zT_3 : zL_run zL_no 100 zp_L_law__0 (ze_il [eX 2] 8) [] (0, []) (zL_gL 3) 0 0 = true := by decide +kernel
theorem zT_4 : zL_run zL_no 100 zp_L_law__0 (ze_il [eX 2] 8) [] (0, []) (zL_gL 4) 0 0 = true := by decide +kernel
theorem zT_5_0 : zL_run (zL_B 0 1000000) 23 zp_L_law__0 (ze_il [eX 2] 8) [] (0, []) (zL_gL 5) 0 0 = true := by decide +kernel
theorem zT_5_1 : zL_run (zL_B 1 1000000) 23 zp_L_law__0 (ze_il [eX 2] 8) [] (0, []) (zL_gL 5) 0 0 = true := by decide +kernel
theorem zT_5_3 : zL_run (zL_B 3 1000000) 23 zp_L_law__0 (ze_il [eX 2] 8) [] (0, []) (zL_gL 5) 0 0 = true := by decide +kernel
theorem zT_5_4 : zL_run (zL_B 4 1000000) 23 zp_L_law__0 (ze_il [eX 2] 8) [] (0, []) (zL_gL 5) 0 0 = true := by decide +kernel
theorem zT_5_8 : zL_run (zL_B 8 1000000) 23 zp_L_law__0 (ze_il [eX 2] 8) [] (0, []) (zL_gL 5) 0 0 = true := by decide +kernel
theorem zT_5_9 : zL_run (zL_B 9 1000000) 23 zp_L_law__0 (ze_il [eX 2] 8) [] (0, []) (zL_gL 5) 0 0 = true := by decide +kernel
theorem zT_5_10 : zL_run (zL_B 10 1000000) 23 zp_L_law__0 (ze_il [eX 2] 8) [] (0, []) (zL_gL 5) 0 0 = true := by decide +kernel
theorem zT_5_11 : zL_run (zL_B 11 1000000) 23 zp_L_law__0 (ze_il [eX 2] 8) [] (0, []) (zL_gL 5) 0 0 = true := by decide +kernel
theorem zT_5_13 : zL_run (zL_B 13 1000000) 23 zp_L_law__0 (ze_il [eX 2] 8) [] (0, []) (zL_gL 5) 0 0 = true := by decide +kernel
theorem zT_5_14 : zL_run (zL_B 14 1000000) 23 zp_L_law__0 (ze_il [eX 2] 8) [] (0, []) (zL_gL 5) 0 0 = true := by decide +kernel
theorem zT_5_15 : zL_run (zL_B 15 1000000) 23 zp_L_law__0 (ze_il [eX 2] 8) [] (0, []) (zL_gL 5) 0 0 = true := by decide +kernel
theorem zT_5_16 : zL_run (zL_B 16 1000000) 23 zp_L_law__0 (ze_il [eX 2] 8) [] (0, []) (zL_gL 5) 0 0 = true := by decide +kernel
theorem zT_5_18 : zL_run (zL_B 18 1000000) 23 zp_L_law__0 (ze_il [eX 2] 8) [] (0, []) (zL_gL 5) 0 0 = true := by decide +kernel
theorem zT_5_19 : zL_run (zL_B 19 1000000) 23 zp_L_law__0 (ze_il [eX 2] 8) [] (0, []) (zL_gL 5) 0 0 = true := by decide +kernel
theorem zT_5_20 : zL_run (zL_B 20 1000000) 23 zp_L_law__0 (ze_il [eX 2] 8) [] (0, []) (zL_gL 5) 0 0 = true := by decide +kernel
theorem zT_5_21 : zL_run (zL_B 21 1000000) 23 zp_L_law__0 (ze_il [eX 2] 8) [] (0, []) (zL_gL 5) 0 0 = true := by decide +kernel
theorem zT_5_23 : zL_run (zL_B 23 1000000) 23 zp_L_law__0 (ze_il [eX 2] 8) [] (0, []) (zL_gL 5) 0 0 = true := by decide +kernel
theorem zT_5_24 : zL_run (zL_B 24 1000000) 23 zp_L_law__0 (ze_il [eX 2] 8) [] (0, []) (zL_gL 5) 0 0 = true := by decide +kernel
theorem zT_5_25 : zL_run (zL_B 25 1000000) 23 zp_L_law__0 (ze_il [eX 2] 8) [] (0, []) (zL_gL 5) 0 0 = true := by decide +kernel
theorem zT_5_26 : zL_run (zL_B 26 1000000) 23 zp_L_law__0 (ze_il [eX 2] 8) [] (0, []) (zL_gL 5) 0 0 = true := by decide +kernel
theorem zT_5_27 : zL_run (zL_B 27 1000000) 23 zp_L_law__0 (ze_il [eX 2] 8) [] (0, []) (zL_gL 5) 0 0 = true := by decide +kernel
theorem zT_5_28 : zL_run (zL_B 28 1000000) 23 zp_L_law__0 (ze_il [eX 2] 8) [] (0, []) (zL_gL 5) 0 0 = true := by decide +kernel
theorem zT_5_29 : zL_run (zL_B 29 1000000) 23 zp_L_law__0 (ze_il [eX 2] 8) [] (0, []) (zL_gL 5) 0 0 = true := by decide +kernel
theorem zT_5_30 : zL_run (zL_B 30 1000000) 23 zp_L_law__0 (ze_il [eX 2] 8) [] (0, []) (zL_gL 5) 0 0 = true := by decide +kernel
theorem zT_5_31 : zL_run (zL_B 31 1000000) 23 zp_L_law__0 (ze_il [eX 2] 8) [] (0, []) (zL_gL 5) 0 0 = true := by decide +kernel
theorem zT_5_32 : zL_run (zL_B 32 1000000) 23 zp_L_law__0 (ze_il [eX 2] 8) [] (0, []) (zL_gL 5) 0 0 = true := by decide +kernel
theorem zT_5_33 : zL_run (zL_B 33 1000000) 23 zp_L_law__0 (ze_il [eX 2] 8) [] (0, []) (zL_gL 5) 0 0 = true := by decide +kernel
theorem zT_5_34 : zL_run (zL_B 34 1000000) 23 zp_L_law__0 (ze_il [eX 2] 8) [] (0, []) (zL_gL 5) 0 0 = true := by decide +kernel
theorem zT_5_35 : zL_run (zL_B 35 1000000) 23 zp_L_law__0 (ze_il [eX 2] 8) [] (0, []) (zL_gL 5) 0 0 = true := by decide +kernel
theorem zT_5_36 : zL_run (zL_B 36 1000000) 23 zp_L_law__0 (ze_il [eX 2] 8) [] (0, []) (zL_gL 5) 0 0 = true := by decide +kernel
theorem zT_5_37 : zL_run (zL_B 37 1000000) 23 zp_L_law__0 (ze_il [eX 2] 8) [] (0, []) (zL_gL 5) 0 0 = true := by decide +kernel
theorem zT_5_38 : zL_run (zL_B 38 1000000) 23 zp_L_law__0 (ze_il [eX 2] 8) [] (0, []) (zL_gL 5) 0 0 = true := by decide +kernel
theorem zT_5_39 : zL_run (zL_B 39 1000000) 23 zp_L_law__0 (ze_il [eX 2] 8) [] (0, []) (zL_gL 5) 0 0 = true := by decide +kernel
theorem zT_5_40 : zL_run (zL_B 40 1000000) 23 zp_L_law__0 (ze_il [eX 2] 8) [] (0, []) (zL_gL 5) 0 0 = true := by decide +kernel
theorem zT_5_41 : zL_run (zL_B 41 1000000) 23 zp_L_law__0 (ze_il [eX 2] 8) [] (0, []) (zL_gL 5) 0 0 = true := by decide +kernel
theorem zT_5_42 : zL_run (zL_B 42 1000000) 23 zp_L_law__0 (ze_il [eX 2] 8) [] (0, []) (zL_gL 5) 0 0 = true := by decide +kernel
theorem zT_5_43 : zL_run (zL_B 43 1000000) 23 zp_L_law__0 (ze_il [eX 2] 8) [] (0, []) (zL_gL 5) 0 0 = true := by decide +kernel
theorem zT_5_44 : zL_run (zL_B 44 1000000) 23 zp_L_law__0 (ze_il [eX 2] 8) [] (0, []) (zL_gL 5) 0 0 = true := by decide +kernel
theorem zT_5_50 : zL_run (zL_B 50 1000000) 23 zp_L_law__0 (ze_il [eX 2] 8) [] (0, []) (zL_gL 5) 0 0 = true := by decide +kernel
theorem zT_5_51 : zL_run (zL_B 51 1000000) 23 zp_L_law__0 (ze_il [eX 2] 8) [] (0, []) (zL_gL 5) 0 0 = true := by decide +kernel
theorem zT_5_52 : zL_run (zL_B 52 1000000) 23 zp_L_law__0 (ze_il [eX 2] 8) [] (0, []) (zL_gL 5) 0 0 = true := by decide +kernel
theorem zT_5_54 : zL_run (zL_B 54 1000000) 23 zp_L_law__0 (ze_il [eX 2] 8) [] (0, []) (zL_gL 5) 0 0 = true := by decide +kernel
theorem zT_5_55 : zL_run (zL_B 55 1000000) 23 zp_L_law__0 (ze_il [eX 2] 8) [] (0, []) (zL_gL 5) 0 0 = true := by decide +kernel
theorem zT_5_56 : zL_run (zL_B 56 1000000) 23 zp_L_law__0 (ze_il [eX 2] 8) [] (0, []) (zL_gL 5) 0 0 = true := by decide +kernel
theorem zT_5_57 : zL_run (zL_B 57 1000000) 23 zp_L_law__0 (ze_il [eX 2] 8) [] (0, []) (zL_gL 5) 0 0 = true := by decide +kernel
theorem zT_5_58 : zL_run (zL_B 58 1000000) 23 zp_L_law__0 (ze_il [eX 2] 8) [] (0, []) (zL_gL 5) 0 0 = true := by decide +kernel
theorem zT_5_59 : zL_run (zL_B 59 1000000) 23 zp_L_law__0 (ze_il [eX 2] 8) [] (0, []) (zL_gL 5) 0 0 = true := by decide +kernel
theorem zT_5_60 : zL_run (zL_B 60 1000000) 23 zp_L_law__0 (ze_il [eX 2] 8) [] (0, []) (zL_gL 5) 0 0 = true := by decide +kernel
theorem zT_5_61 : zL_run (zL_B 61 1000000) 23 zp_L_law__0 (ze_il [eX 2] 8) [] (0, []) (zL_gL 5) 0 0 = true := by decide +kernel
theorem zT_5_62 : zL_run (zL_B 62 1000000) 23 zp_L_law__0 (ze_il [eX 2] 8) [] (0, []) (zL_gL 5) 0 0 = true := by decide +kernel
theorem zT_5_63 : zL_run (zL_B 63 1000000) 23 zp_L_law__0 (ze_il [eX 2] 8) [] (0, []) (zL_gL 5) 0 0 = true := by decide +kernel

theorem zT_5_47 : zL_run (zL_B 47 1000000) 23 zp_L_law__0 (ze_il [eX 2] 8) [] (0, []) (zL_gL 5) 0 0 = true := by decide +kernel

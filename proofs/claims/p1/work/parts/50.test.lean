theorem zT_pre : ze_lb (ze_jp zp_L_law_) (ze_ex zp_all 30) 600002 7302232 zL_end (fun _ _ _ _ _ _ _ => true) 16 zp_L_law__0 (ze_il [eX 2] 8) [] (0, []) zL_g0 0 0 = true := by decide +kernel

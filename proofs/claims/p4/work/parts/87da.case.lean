/-! the cases of the law -/
noncomputable def zT_Z49 : ECal := zS_or zc175 (zc314)
theorem zT_Z49_ok : ZE zT_Z49 599 := (ZE.or zc175_ok (zc314_ok) (by decide) (by decide) : ZE (zS_or zc175 (zc314)) 599)
noncomputable def zT_Y49 : ECal := zT_Z49
theorem zT_Y49_ok : ZEF [] zT_Y49 599 := (ZEF.of zT_Z49_ok)
theorem zT_49_0 : zT_go 49 0 (zX zT_Y49 10) zT_w0 = true := by decide +kernel
theorem zT_49_1 : zT_go 49 0 (zX zT_Y49 10) zT_w1 = true := by decide +kernel
theorem zT_ck49 : zT_ok 49 zT_w0 ∧ zT_ok 49 zT_w1 := ⟨⟨zT_Y49, [], 599, 10, 0, by decide, by decide, by decide, (fun f h => by cases h), zT_Y49_ok, zT_49_0⟩, ⟨zT_Y49, [], 599, 10, 0, by decide, by decide, by decide, (fun f h => by cases h), zT_Y49_ok, zT_49_1⟩⟩
noncomputable def zT_Z50 : ECal := zS_or zc81 (zc315)
theorem zT_Z50_ok : ZE zT_Z50 563 := (ZE.or zc81_ok (zc315_ok) (by decide) (by decide) : ZE (zS_or zc81 (zc315)) 563)
noncomputable def zT_Y50 : ECal := zT_Z50
theorem zT_Y50_ok : ZEF [] zT_Y50 563 := (ZEF.of zT_Z50_ok)
theorem zT_50_0_0 : zT_F 50 0 (zX zT_Y50 10) zT_w0 (ze_s (2147483648, 2147483648) zT_gx 140) = true := by decide +kernel
theorem zT_50_0_1 : zT_F 50 0 (zX zT_Y50 10) zT_w0 (ze_s (2147483649, 2147483649) zT_gx 140) = true := by decide +kernel
theorem zT_50_0_2 : zT_F 50 0 (zX zT_Y50 10) zT_w0 (ze_s (2147483650, 2147483650) zT_gx 140) = true := by decide +kernel
theorem zT_50_0_3 : zT_F 50 0 (zX zT_Y50 10) zT_w0 (ze_s (2147483651, 2147483651) zT_gx 140) = true := by decide +kernel
theorem zT_50_0_4 : zT_F 50 0 (zX zT_Y50 10) zT_w0 (ze_s (2147483652, 2147483652) zT_gx 140) = true := by decide +kernel
theorem zT_50_0_5 : zT_F 50 0 (zX zT_Y50 10) zT_w0 (ze_s (2147483653, 2147483653) zT_gx 140) = true := by decide +kernel
theorem zT_50_0_6 : zT_F 50 0 (zX zT_Y50 10) zT_w0 (ze_s (2147483654, 2147483654) zT_gx 140) = true := by decide +kernel
theorem zT_50_0_7 : zT_F 50 0 (zX zT_Y50 10) zT_w0 (ze_s (2147483655, 2147483655) zT_gx 140) = true := by decide +kernel
theorem zT_50_0 : zT_go 50 0 (zX zT_Y50 10) zT_w0 = true := show zy_spl (zT_F 50 0 (zX zT_Y50 10) zT_w0) [(140, [2147483648, 2147483649, 2147483650, 2147483651, 2147483652, 2147483653, 2147483654])] zT_gx = true from zy_sp2 (lo := 2147483648) (hi := 2147483655) (by decide +kernel) (zy_s1_c (zT_50_0_0) (zy_s1_c (zT_50_0_1) (zy_s1_c (zT_50_0_2) (zy_s1_c (zT_50_0_3) (zy_s1_c (zT_50_0_4) (zy_s1_c (zT_50_0_5) (zy_s1_c (zT_50_0_6) (zy_s1_n (zT_50_0_7)))))))))

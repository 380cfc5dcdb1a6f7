/-! the cases of the law -/
theorem zT_50_1_0 : zT_F 50 0 (zX zT_Y50 10) zT_w1 (ze_s (2147483648, 2147483648) zT_gx 140) = true := by decide +kernel
theorem zT_50_1_1 : zT_F 50 0 (zX zT_Y50 10) zT_w1 (ze_s (2147483649, 2147483649) zT_gx 140) = true := by decide +kernel
theorem zT_50_1_2 : zT_F 50 0 (zX zT_Y50 10) zT_w1 (ze_s (2147483650, 2147483650) zT_gx 140) = true := by decide +kernel
theorem zT_50_1_3 : zT_F 50 0 (zX zT_Y50 10) zT_w1 (ze_s (2147483651, 2147483651) zT_gx 140) = true := by decide +kernel
theorem zT_50_1_4 : zT_F 50 0 (zX zT_Y50 10) zT_w1 (ze_s (2147483652, 2147483652) zT_gx 140) = true := by decide +kernel
theorem zT_50_1_5 : zT_F 50 0 (zX zT_Y50 10) zT_w1 (ze_s (2147483653, 2147483653) zT_gx 140) = true := by decide +kernel
theorem zT_50_1_6 : zT_F 50 0 (zX zT_Y50 10) zT_w1 (ze_s (2147483654, 2147483654) zT_gx 140) = true := by decide +kernel
theorem zT_50_1_7 : zT_F 50 0 (zX zT_Y50 10) zT_w1 (ze_s (2147483655, 2147483655) zT_gx 140) = true := by decide +kernel
theorem zT_50_1 : zT_go 50 0 (zX zT_Y50 10) zT_w1 = true := show zy_spl (zT_F 50 0 (zX zT_Y50 10) zT_w1) [(140, [2147483648, 2147483649, 2147483650, 2147483651, 2147483652, 2147483653, 2147483654])] zT_gx = true from zy_sp2 (lo := 2147483648) (hi := 2147483655) (by decide +kernel) (zy_s1_c (zT_50_1_0) (zy_s1_c (zT_50_1_1) (zy_s1_c (zT_50_1_2) (zy_s1_c (zT_50_1_3) (zy_s1_c (zT_50_1_4) (zy_s1_c (zT_50_1_5) (zy_s1_c (zT_50_1_6) (zy_s1_n (zT_50_1_7)))))))))
theorem zT_ck50 : zT_ok 50 zT_w0 ∧ zT_ok 50 zT_w1 := ⟨⟨zT_Y50, [], 563, 10, 0, by decide, by decide, by decide, (fun f h => by cases h), zT_Y50_ok, zT_50_0⟩, ⟨zT_Y50, [], 563, 10, 0, by decide, by decide, by decide, (fun f h => by cases h), zT_Y50_ok, zT_50_1⟩⟩
noncomputable def zT_Z51 : ECal := zS_or zc81 (zc316)
theorem zT_Z51_ok : ZE zT_Z51 563 := (ZE.or zc81_ok (zc316_ok) (by decide) (by decide) : ZE (zS_or zc81 (zc316)) 563)
noncomputable def zT_Y51 : ECal := zT_Z51
theorem zT_Y51_ok : ZEF [] zT_Y51 563 := (ZEF.of zT_Z51_ok)
theorem zT_51_0_0 : zT_F 51 0 (zX zT_Y51 10) zT_w0 (ze_s (0, 2147483647) (ze_s (2147483648, 2147483648) zT_gx 140) 1) = true := by decide +kernel
theorem zT_51_0_1 : zT_F 51 0 (zX zT_Y51 10) zT_w0 (ze_s (2147483648, 2147483648) (ze_s (2147483648, 2147483648) zT_gx 140) 1) = true := by decide +kernel
theorem zT_51_0_2 : zT_F 51 0 (zX zT_Y51 10) zT_w0 (ze_s (2147483649, 2147483649) (ze_s (2147483648, 2147483648) zT_gx 140) 1) = true := by decide +kernel

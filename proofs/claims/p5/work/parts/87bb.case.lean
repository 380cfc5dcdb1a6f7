/-! the cases of the law -/
noncomputable def zT_Z46 : ECal := zS_or zc172 (zc308)
theorem zT_Z46_ok : ZE zT_Z46 563 := (ZE.or zc172_ok (zc308_ok) (by decide) (by decide) : ZE (zS_or zc172 (zc308)) 563)
noncomputable def zT_Y46 : ECal := zT_Z46
theorem zT_Y46_ok : ZEF [] zT_Y46 563 := (ZEF.of zT_Z46_ok)
theorem zT_46_0 : zT_go 46 0 (zX zT_Y46 10) zT_w0 = true := by decide +kernel
theorem zT_46_1 : zT_go 46 0 (zX zT_Y46 10) zT_w1 = true := by decide +kernel
theorem zT_ck46 : zT_ok 46 zT_w0 ∧ zT_ok 46 zT_w1 := ⟨⟨zT_Y46, [], 563, 10, 0, by decide, by decide, by decide, (fun f h => by cases h), zT_Y46_ok, zT_46_0⟩, ⟨zT_Y46, [], 563, 10, 0, by decide, by decide, by decide, (fun f h => by cases h), zT_Y46_ok, zT_46_1⟩⟩
noncomputable def zT_Z47 : ECal := zS_or zc173 (zc309)
theorem zT_Z47_ok : ZE zT_Z47 608 := (ZE.or zc173_ok (zc309_ok) (by decide) (by decide) : ZE (zS_or zc173 (zc309)) 608)
noncomputable def zT_Y47 : ECal := zT_Z47
theorem zT_Y47_ok : ZEF [] zT_Y47 608 := (ZEF.of zT_Z47_ok)
theorem zT_47_0 : zT_go 47 0 (zX zT_Y47 10) zT_w0 = true := by decide +kernel
theorem zT_47_1 : zT_go 47 0 (zX zT_Y47 10) zT_w1 = true := by decide +kernel
theorem zT_ck47 : zT_ok 47 zT_w0 ∧ zT_ok 47 zT_w1 := ⟨⟨zT_Y47, [], 608, 10, 0, by decide, by decide, by decide, (fun f h => by cases h), zT_Y47_ok, zT_47_0⟩, ⟨zT_Y47, [], 608, 10, 0, by decide, by decide, by decide, (fun f h => by cases h), zT_Y47_ok, zT_47_1⟩⟩
noncomputable def zT_Z48 : ECal := zS_or zc174 (zc312)
theorem zT_Z48_ok : ZE zT_Z48 572 := (ZE.or zc174_ok (zc312_ok) (by decide) (by decide) : ZE (zS_or zc174 (zc312)) 572)
noncomputable def zT_Y48 : ECal := zT_Z48
theorem zT_Y48_ok : ZEF [] zT_Y48 572 := (ZEF.of zT_Z48_ok)
theorem zT_48_0 : zT_go 48 0 (zX zT_Y48 10) zT_w0 = true := by decide +kernel
theorem zT_48_1 : zT_go 48 0 (zX zT_Y48 10) zT_w1 = true := by decide +kernel
theorem zT_ck48 : zT_ok 48 zT_w0 ∧ zT_ok 48 zT_w1 := ⟨⟨zT_Y48, [], 572, 10, 0, by decide, by decide, by decide, (fun f h => by cases h), zT_Y48_ok, zT_48_0⟩, ⟨zT_Y48, [], 572, 10, 0, by decide, by decide, by decide, (fun f h => by cases h), zT_Y48_ok, zT_48_1⟩⟩
noncomputable def zT_Z49 : ECal := zS_or zc175 (zc314)
theorem zT_Z49_ok : ZE zT_Z49 599 := (ZE.or zc175_ok (zc314_ok) (by decide) (by decide) : ZE (zS_or zc175 (zc314)) 599)
noncomputable def zT_Y49 : ECal := zT_Z49
theorem zT_Y49_ok : ZEF [] zT_Y49 599 := (ZEF.of zT_Z49_ok)
theorem zT_49_0 : zT_go 49 0 (zX zT_Y49 10) zT_w0 = true := by decide +kernel
theorem zT_49_1 : zT_go 49 0 (zX zT_Y49 10) zT_w1 = true := by decide +kernel
theorem zT_ck49 : zT_ok 49 zT_w0 ∧ zT_ok 49 zT_w1 := ⟨⟨zT_Y49, [], 599, 10, 0, by decide, by decide, by decide, (fun f h => by cases h), zT_Y49_ok, zT_49_0⟩, ⟨zT_Y49, [], 599, 10, 0, by decide, by decide, by decide, (fun f h => by cases h), zT_Y49_ok, zT_49_1⟩⟩
noncomputable def zT_Z50 : ECal := zS_or zc81 (zc315)
theorem zT_Z50_ok : ZE zT_Z50 563 := (ZE.or zc81_ok (zc315_ok) (by decide) (by decide) : ZE (zS_or zc81 (zc315)) 563)
noncomputable def zT_Y50 : ECal := zT_Z50
theorem zT_Y50_ok : ZEF [] zT_Y50 563 := (ZEF.of zT_Z50_ok)
theorem zT_50_0_0 : zT_F 50 0 (zX zT_Y50 10) zT_w0 (ze_s (2147483648, 2147483648) zT_gx 140) = true := by decide +kernel
theorem zT_50_0_1 : zT_F 50 0 (zX zT_Y50 10) zT_w0 (ze_s (2147483649, 2147483649) zT_gx 140) = true := by decide +kernel
theorem zT_50_0_2 : zT_F 50 0 (zX zT_Y50 10) zT_w0 (ze_s (2147483650, 2147483650) zT_gx 140) = true := by decide +kernel
theorem zT_50_0_3 : zT_F 50 0 (zX zT_Y50 10) zT_w0 (ze_s (2147483651, 2147483651) zT_gx 140) = true := by decide +kernel
theorem zT_50_0_4 : zT_F 50 0 (zX zT_Y50 10) zT_w0 (ze_s (2147483652, 2147483652) zT_gx 140) = true := by decide +kernel
theorem zT_50_0_5 : zT_F 50 0 (zX zT_Y50 10) zT_w0 (ze_s (2147483653, 2147483653) zT_gx 140) = true := by decide +kernel
theorem zT_50_0_6 : zT_F 50 0 (zX zT_Y50 10) zT_w0 (ze_s (2147483654, 2147483654) zT_gx 140) = true := by decide +kernel
theorem zT_50_0_7 : zT_F 50 0 (zX zT_Y50 10) zT_w0 (ze_s (2147483655, 2147483655) zT_gx 140) = true := by decide +kernel
theorem zT_50_0 : zT_go 50 0 (zX zT_Y50 10) zT_w0 = true := show zy_spl (zT_F 50 0 (zX zT_Y50 10) zT_w0) [(140, [2147483648, 2147483649, 2147483650, 2147483651, 2147483652, 2147483653, 2147483654])] zT_gx = true from zy_sp2 (lo := 2147483648) (hi := 2147483655) (by decide +kernel) (zy_s1_c (zT_50_0_0) (zy_s1_c (zT_50_0_1) (zy_s1_c (zT_50_0_2) (zy_s1_c (zT_50_0_3) (zy_s1_c (zT_50_0_4) (zy_s1_c (zT_50_0_5) (zy_s1_c (zT_50_0_6) (zy_s1_n (zT_50_0_7)))))))))
theorem zT_50_1_0 : zT_F 50 0 (zX zT_Y50 10) zT_w1 (ze_s (2147483648, 2147483648) zT_gx 140) = true := by decide +kernel
theorem zT_50_1_1 : zT_F 50 0 (zX zT_Y50 10) zT_w1 (ze_s (2147483649, 2147483649) zT_gx 140) = true := by decide +kernel
theorem zT_50_1_2 : zT_F 50 0 (zX zT_Y50 10) zT_w1 (ze_s (2147483650, 2147483650) zT_gx 140) = true := by decide +kernel
theorem zT_50_1_3 : zT_F 50 0 (zX zT_Y50 10) zT_w1 (ze_s (2147483651, 2147483651) zT_gx 140) = true := by decide +kernel
theorem zT_50_1_4 : zT_F 50 0 (zX zT_Y50 10) zT_w1 (ze_s (2147483652, 2147483652) zT_gx 140) = true := by decide +kernel
theorem zT_50_1_5 : zT_F 50 0 (zX zT_Y50 10) zT_w1 (ze_s (2147483653, 2147483653) zT_gx 140) = true := by decide +kernel
theorem zT_50_1_6 : zT_F 50 0 (zX zT_Y50 10) zT_w1 (ze_s (2147483654, 2147483654) zT_gx 140) = true := by decide +kernel
theorem zT_50_1_7 : zT_F 50 0 (zX zT_Y50 10) zT_w1 (ze_s (2147483655, 2147483655) zT_gx 140) = true := by decide +kernel
theorem zT_50_1 : zT_go 50 0 (zX zT_Y50 10) zT_w1 = true := show zy_spl (zT_F 50 0 (zX zT_Y50 10) zT_w1) [(140, [2147483648, 2147483649, 2147483650, 2147483651, 2147483652, 2147483653, 2147483654])] zT_gx = true from zy_sp2 (lo := 2147483648) (hi := 2147483655) (by decide +kernel) (zy_s1_c (zT_50_1_0) (zy_s1_c (zT_50_1_1) (zy_s1_c (zT_50_1_2) (zy_s1_c (zT_50_1_3) (zy_s1_c (zT_50_1_4) (zy_s1_c (zT_50_1_5) (zy_s1_c (zT_50_1_6) (zy_s1_n (zT_50_1_7)))))))))
theorem zT_ck50 : zT_ok 50 zT_w0 ∧ zT_ok 50 zT_w1 := ⟨⟨zT_Y50, [], 563, 10, 0, by decide, by decide, by decide, (fun f h => by cases h), zT_Y50_ok, zT_50_0⟩, ⟨zT_Y50, [], 563, 10, 0, by decide, by decide, by decide, (fun f h => by cases h), zT_Y50_ok, zT_50_1⟩⟩
noncomputable def zT_Z51 : ECal := zS_or zc81 (zc316)
theorem zT_Z51_ok : ZE zT_Z51 563 := (ZE.or zc81_ok (zc316_ok) (by decide) (by decide) : ZE (zS_or zc81 (zc316)) 563)
noncomputable def zT_Y51 : ECal := zT_Z51
theorem zT_Y51_ok : ZEF [] zT_Y51 563 := (ZEF.of zT_Z51_ok)
theorem zT_51_0_0 : zT_F 51 0 (zX zT_Y51 10) zT_w0 (ze_s (0, 2147483647) (ze_s (2147483648, 2147483648) zT_gx 140) 1) = true := by decide +kernel
theorem zT_51_0_1 : zT_F 51 0 (zX zT_Y51 10) zT_w0 (ze_s (2147483648, 2147483648) (ze_s (2147483648, 2147483648) zT_gx 140) 1) = true := by decide +kernel
theorem zT_51_0_2 : zT_F 51 0 (zX zT_Y51 10) zT_w0 (ze_s (2147483649, 2147483649) (ze_s (2147483648, 2147483648) zT_gx 140) 1) = true := by decide +kernel

/-! the cases of the law -/
theorem zT_18_0_1 : zT_F 18 0 (zX zT_Y18 10) zT_w0 (ze_s (2147483649, 2147483663) zT_gx 139) = true := by decide +kernel
theorem zT_18_0 : zT_go 18 0 (zX zT_Y18 10) zT_w0 = true := show zy_spl (zT_F 18 0 (zX zT_Y18 10) zT_w0) [(139, [2147483648])] zT_gx = true from zy_sp2 (lo := 2147483648) (hi := 2147483663) (by decide +kernel) (zy_s1_c (zT_18_0_0) (zy_s1_n (zT_18_0_1)))
theorem zT_18_1_0 : zT_F 18 0 (zX zT_Y18 10) zT_w1 (ze_s (2147483648, 2147483648) zT_gx 139) = true := by decide +kernel
theorem zT_18_1_1 : zT_F 18 0 (zX zT_Y18 10) zT_w1 (ze_s (2147483649, 2147483663) zT_gx 139) = true := by decide +kernel
theorem zT_18_1 : zT_go 18 0 (zX zT_Y18 10) zT_w1 = true := show zy_spl (zT_F 18 0 (zX zT_Y18 10) zT_w1) [(139, [2147483648])] zT_gx = true from zy_sp2 (lo := 2147483648) (hi := 2147483663) (by decide +kernel) (zy_s1_c (zT_18_1_0) (zy_s1_n (zT_18_1_1)))
theorem zT_ck18 : zT_ok 18 zT_w0 ∧ zT_ok 18 zT_w1 := ⟨⟨zT_Y18, zT_FO, 563, 10, 0, by decide, by decide, by decide, zT_FOs, zT_Y18_ok, zT_18_0⟩, ⟨zT_Y18, zT_FO, 563, 10, 0, by decide, by decide, by decide, zT_FOs, zT_Y18_ok, zT_18_1⟩⟩
noncomputable def zT_Z19 : ECal := zS_or zc145 (zc270)
theorem zT_Z19_ok : ZE zT_Z19 608 := (ZE.or zc145_ok (zc270_ok) (by decide) (by decide) : ZE (zS_or zc145 (zc270)) 608)
noncomputable def zT_Y19 : ECal := zT_Z19
theorem zT_Y19_ok : ZEF [] zT_Y19 608 := (ZEF.of zT_Z19_ok)
theorem zT_19_0 : zT_go 19 0 (zX zT_Y19 10) zT_w0 = true := by decide +kernel
theorem zT_19_1 : zT_go 19 0 (zX zT_Y19 10) zT_w1 = true := by decide +kernel
theorem zT_ck19 : zT_ok 19 zT_w0 ∧ zT_ok 19 zT_w1 := ⟨⟨zT_Y19, [], 608, 10, 0, by decide, by decide, by decide, (fun f h => by cases h), zT_Y19_ok, zT_19_0⟩, ⟨zT_Y19, [], 608, 10, 0, by decide, by decide, by decide, (fun f h => by cases h), zT_Y19_ok, zT_19_1⟩⟩
noncomputable def zT_Z20 : ECal := zS_or zc146 (zc271)
theorem zT_Z20_ok : ZE zT_Z20 599 := (ZE.or zc146_ok (zc271_ok) (by decide) (by decide) : ZE (zS_or zc146 (zc271)) 599)
noncomputable def zT_Y20 : ECal := zT_Z20
theorem zT_Y20_ok : ZEF [] zT_Y20 599 := (ZEF.of zT_Z20_ok)
theorem zT_20_0 : zT_go 20 0 (zX zT_Y20 10) zT_w0 = true := by decide +kernel
theorem zT_20_1 : zT_go 20 0 (zX zT_Y20 10) zT_w1 = true := by decide +kernel
theorem zT_ck20 : zT_ok 20 zT_w0 ∧ zT_ok 20 zT_w1 := ⟨⟨zT_Y20, [], 599, 10, 0, by decide, by decide, by decide, (fun f h => by cases h), zT_Y20_ok, zT_20_0⟩, ⟨zT_Y20, [], 599, 10, 0, by decide, by decide, by decide, (fun f h => by cases h), zT_Y20_ok, zT_20_1⟩⟩

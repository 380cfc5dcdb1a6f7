/-! the cases of the law -/
theorem zT_16_1_0 : zT_F 16 0 (zX zT_Y16 10) zT_w1 (ze_s (2147483648, 2147483662) zT_gx 139) = true := by decide +kernel
theorem zT_16_1_1 : zT_F 16 0 (zX zT_Y16 10) zT_w1 (ze_s (2147483663, 2147483663) zT_gx 139) = true := by decide +kernel
theorem zT_16_1 : zT_go 16 0 (zX zT_Y16 10) zT_w1 = true := show zy_spl (zT_F 16 0 (zX zT_Y16 10) zT_w1) [(139, [2147483662])] zT_gx = true from zy_sp2 (lo := 2147483648) (hi := 2147483663) (by decide +kernel) (zy_s1_c (zT_16_1_0) (zy_s1_n (zT_16_1_1)))
theorem zT_ck16 : zT_ok 16 zT_w0 ∧ zT_ok 16 zT_w1 := ⟨⟨zT_Y16, zT_FP, 572, 10, 0, by decide, by decide, by decide, zT_FPs, zT_Y16_ok, zT_16_0⟩, ⟨zT_Y16, zT_FP, 572, 10, 0, by decide, by decide, by decide, zT_FPs, zT_Y16_ok, zT_16_1⟩⟩
noncomputable def zT_Z17 : ECal := zc269
theorem zT_Z17_ok : ZE zT_Z17 635 := zc269_ok
noncomputable def zT_Y17 : ECal := zS_or (zS_fa zT_FP) (zS_or zc143 (zT_Z17))
theorem zT_Y17_ok : ZEF zT_FP zT_Y17 635 := (ZEF.or (d3 := 635) ZEF.fa (ZEF.or (d3 := 635) zc143_ok (ZEF.of zT_Z17_ok) (by decide) (by decide)) (by decide) (by decide))
theorem zT_17_0_0 : zT_F 17 0 (zX zT_Y17 10) zT_w0 (ze_s (2147483648, 2147483662) zT_gx 139) = true := by decide +kernel
theorem zT_17_0_1 : zT_F 17 0 (zX zT_Y17 10) zT_w0 (ze_s (2147483663, 2147483663) zT_gx 139) = true := by decide +kernel
theorem zT_17_0 : zT_go 17 0 (zX zT_Y17 10) zT_w0 = true := show zy_spl (zT_F 17 0 (zX zT_Y17 10) zT_w0) [(139, [2147483662])] zT_gx = true from zy_sp2 (lo := 2147483648) (hi := 2147483663) (by decide +kernel) (zy_s1_c (zT_17_0_0) (zy_s1_n (zT_17_0_1)))
theorem zT_17_1_0 : zT_F 17 0 (zX zT_Y17 10) zT_w1 (ze_s (2147483648, 2147483662) zT_gx 139) = true := by decide +kernel
theorem zT_17_1_1 : zT_F 17 0 (zX zT_Y17 10) zT_w1 (ze_s (2147483663, 2147483663) zT_gx 139) = true := by decide +kernel
theorem zT_17_1 : zT_go 17 0 (zX zT_Y17 10) zT_w1 = true := show zy_spl (zT_F 17 0 (zX zT_Y17 10) zT_w1) [(139, [2147483662])] zT_gx = true from zy_sp2 (lo := 2147483648) (hi := 2147483663) (by decide +kernel) (zy_s1_c (zT_17_1_0) (zy_s1_n (zT_17_1_1)))
theorem zT_ck17 : zT_ok 17 zT_w0 ∧ zT_ok 17 zT_w1 := ⟨⟨zT_Y17, zT_FP, 635, 10, 0, by decide, by decide, by decide, zT_FPs, zT_Y17_ok, zT_17_0⟩, ⟨zT_Y17, zT_FP, 635, 10, 0, by decide, by decide, by decide, zT_FPs, zT_Y17_ok, zT_17_1⟩⟩
noncomputable def zT_Z18 : ECal := zS_or zc81 (zc247)
theorem zT_Z18_ok : ZE zT_Z18 563 := (ZE.or zc81_ok (zc247_ok) (by decide) (by decide) : ZE (zS_or zc81 (zc247)) 563)
noncomputable def zT_Y18 : ECal := zS_or (zS_fa zT_FO) (zT_Z18)
theorem zT_Y18_ok : ZEF zT_FO zT_Y18 563 := (ZEF.or (d3 := 563) ZEF.fa (ZEF.of zT_Z18_ok) (by decide) (by decide))
theorem zT_18_0_0 : zT_F 18 0 (zX zT_Y18 10) zT_w0 (ze_s (2147483648, 2147483648) zT_gx 139) = true := by decide +kernel

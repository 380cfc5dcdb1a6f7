/-! the cases of the law -/
noncomputable def zT_B13 : ECal := zS_or zc81 (zc263)
theorem zT_B13_ok : ZE zT_B13 572 := (ZE.or zc81_ok (zc263_ok) (by decide) (by decide) : ZE (zS_or zc81 (zc263)) 572)
noncomputable def zT_E13 : ECal := zS_or (zS_fa zT_FP) (zT_B13)
theorem zT_E13_ok : ZEF zT_FP zT_E13 572 := (ZEF.or (d3 := 572) ZEF.fa (ZEF.of zT_B13_ok) (by decide) (by decide))
theorem zT_13_0_0 : zT_F 13 0 (zX zT_E13 10) zT_w0 (ze_s (2147483648, 2147483662) zT_gx 139) = true := by decide +kernel
theorem zT_13_0_1 : zT_F 13 0 (zX zT_E13 10) zT_w0 (ze_s (2147483663, 2147483663) zT_gx 139) = true := by decide +kernel
theorem zT_13_0 : zT_go 13 0 (zX zT_E13 10) zT_w0 = true := show zy_spl (zT_F 13 0 (zX zT_E13 10) zT_w0) [(139, [2147483662])] zT_gx = true from zy_sp2 (lo := 2147483648) (hi := 2147483663) (by decide +kernel) (zy_s1_c (zT_13_0_0) (zy_s1_n (zT_13_0_1)))
theorem zT_13_1_0 : zT_F 13 0 (zX zT_E13 10) zT_w1 (ze_s (2147483648, 2147483662) zT_gx 139) = true := by decide +kernel
theorem zT_13_1_1 : zT_F 13 0 (zX zT_E13 10) zT_w1 (ze_s (2147483663, 2147483663) zT_gx 139) = true := by decide +kernel
theorem zT_13_1 : zT_go 13 0 (zX zT_E13 10) zT_w1 = true := show zy_spl (zT_F 13 0 (zX zT_E13 10) zT_w1) [(139, [2147483662])] zT_gx = true from zy_sp2 (lo := 2147483648) (hi := 2147483663) (by decide +kernel) (zy_s1_c (zT_13_1_0) (zy_s1_n (zT_13_1_1)))
theorem zT_k13 : zT_ok 13 zT_w0 ∧ zT_ok 13 zT_w1 := ⟨⟨zT_E13, zT_FP, 572, 10, 0, by decide, by decide, by decide, zT_FPs, zT_E13_ok, zT_13_0⟩, ⟨zT_E13, zT_FP, 572, 10, 0, by decide, by decide, by decide, zT_FPs, zT_E13_ok, zT_13_1⟩⟩
noncomputable def zT_B14 : ECal := zS_or zc114 (zS_or zc81 (zc264))
theorem zT_B14_ok : ZE zT_B14 572 := (ZE.or zc114_ok ((ZE.or zc81_ok (zc264_ok) (by decide) (by decide) : ZE (zS_or zc81 (zc264)) 572)) (by decide) (by decide) : ZE (zS_or zc114 (zS_or zc81 (zc264))) 572)
noncomputable def zT_E14 : ECal := zS_or (zS_fa zT_FP) (zT_B14)
theorem zT_E14_ok : ZEF zT_FP zT_E14 572 := (ZEF.or (d3 := 572) ZEF.fa (ZEF.of zT_B14_ok) (by decide) (by decide))
theorem zT_14_0_0 : zT_F 14 0 (zX zT_E14 10) zT_w0 (ze_s (2147483648, 2147483662) zT_gx 139) = true := by decide +kernel
theorem zT_14_0_1 : zT_F 14 0 (zX zT_E14 10) zT_w0 (ze_s (2147483663, 2147483663) zT_gx 139) = true := by decide +kernel
theorem zT_14_0 : zT_go 14 0 (zX zT_E14 10) zT_w0 = true := show zy_spl (zT_F 14 0 (zX zT_E14 10) zT_w0) [(139, [2147483662])] zT_gx = true from zy_sp2 (lo := 2147483648) (hi := 2147483663) (by decide +kernel) (zy_s1_c (zT_14_0_0) (zy_s1_n (zT_14_0_1)))
theorem zT_14_1_0 : zT_F 14 0 (zX zT_E14 10) zT_w1 (ze_s (2147483648, 2147483662) zT_gx 139) = true := by decide +kernel
theorem zT_14_1_1 : zT_F 14 0 (zX zT_E14 10) zT_w1 (ze_s (2147483663, 2147483663) zT_gx 139) = true := by decide +kernel

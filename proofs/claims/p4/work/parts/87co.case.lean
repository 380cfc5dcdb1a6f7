/-! the cases of the law -/
noncomputable def zT_Z13 : ECal := zS_or zc81 (zc263)
theorem zT_Z13_ok : ZE zT_Z13 572 := (ZE.or zc81_ok (zc263_ok) (by decide) (by decide) : ZE (zS_or zc81 (zc263)) 572)
noncomputable def zT_Y13 : ECal := zS_or (zS_fa zT_FP) (zT_Z13)
theorem zT_Y13_ok : ZEF zT_FP zT_Y13 572 := (ZEF.or (d3 := 572) ZEF.fa (ZEF.of zT_Z13_ok) (by decide) (by decide))
theorem zT_13_0_0 : zT_F 13 0 (zX zT_Y13 10) zT_w0 (ze_s (2147483648, 2147483662) zT_gx 139) = true := by decide +kernel
theorem zT_13_0_1 : zT_F 13 0 (zX zT_Y13 10) zT_w0 (ze_s (2147483663, 2147483663) zT_gx 139) = true := by decide +kernel
theorem zT_13_0 : zT_go 13 0 (zX zT_Y13 10) zT_w0 = true := show zy_spl (zT_F 13 0 (zX zT_Y13 10) zT_w0) [(139, [2147483662])] zT_gx = true from zy_sp2 (lo := 2147483648) (hi := 2147483663) (by decide +kernel) (zy_s1_c (zT_13_0_0) (zy_s1_n (zT_13_0_1)))
theorem zT_13_1_0 : zT_F 13 0 (zX zT_Y13 10) zT_w1 (ze_s (2147483648, 2147483662) zT_gx 139) = true := by decide +kernel
theorem zT_13_1_1 : zT_F 13 0 (zX zT_Y13 10) zT_w1 (ze_s (2147483663, 2147483663) zT_gx 139) = true := by decide +kernel
theorem zT_13_1 : zT_go 13 0 (zX zT_Y13 10) zT_w1 = true := show zy_spl (zT_F 13 0 (zX zT_Y13 10) zT_w1) [(139, [2147483662])] zT_gx = true from zy_sp2 (lo := 2147483648) (hi := 2147483663) (by decide +kernel) (zy_s1_c (zT_13_1_0) (zy_s1_n (zT_13_1_1)))
theorem zT_ck13 : zT_ok 13 zT_w0 ∧ zT_ok 13 zT_w1 := ⟨⟨zT_Y13, zT_FP, 572, 10, 0, by decide, by decide, by decide, zT_FPs, zT_Y13_ok, zT_13_0⟩, ⟨zT_Y13, zT_FP, 572, 10, 0, by decide, by decide, by decide, zT_FPs, zT_Y13_ok, zT_13_1⟩⟩
noncomputable def zT_Z14 : ECal := zS_or zc114 (zS_or zc81 (zc264))
theorem zT_Z14_ok : ZE zT_Z14 572 := (ZE.or zc114_ok ((ZE.or zc81_ok (zc264_ok) (by decide) (by decide) : ZE (zS_or zc81 (zc264)) 572)) (by decide) (by decide) : ZE (zS_or zc114 (zS_or zc81 (zc264))) 572)
noncomputable def zT_Y14 : ECal := zS_or (zS_fa zT_FP) (zT_Z14)
theorem zT_Y14_ok : ZEF zT_FP zT_Y14 572 := (ZEF.or (d3 := 572) ZEF.fa (ZEF.of zT_Z14_ok) (by decide) (by decide))
theorem zT_14_0_0 : zT_F 14 0 (zX zT_Y14 10) zT_w0 (ze_s (2147483648, 2147483662) zT_gx 139) = true := by decide +kernel
theorem zT_14_0_1 : zT_F 14 0 (zX zT_Y14 10) zT_w0 (ze_s (2147483663, 2147483663) zT_gx 139) = true := by decide +kernel
theorem zT_14_0 : zT_go 14 0 (zX zT_Y14 10) zT_w0 = true := show zy_spl (zT_F 14 0 (zX zT_Y14 10) zT_w0) [(139, [2147483662])] zT_gx = true from zy_sp2 (lo := 2147483648) (hi := 2147483663) (by decide +kernel) (zy_s1_c (zT_14_0_0) (zy_s1_n (zT_14_0_1)))
theorem zT_14_1_0 : zT_F 14 0 (zX zT_Y14 10) zT_w1 (ze_s (2147483648, 2147483662) zT_gx 139) = true := by decide +kernel
theorem zT_14_1_1 : zT_F 14 0 (zX zT_Y14 10) zT_w1 (ze_s (2147483663, 2147483663) zT_gx 139) = true := by decide +kernel

/-! the cases of the law -/
theorem zT_11_0_1 : zT_F 11 0 (zX zT_Y11 10) zT_w0 (ze_s (2147483663, 2147483663) zT_gx 139) = true := by decide +kernel
theorem zT_11_0 : zT_go 11 0 (zX zT_Y11 10) zT_w0 = true := show zy_spl (zT_F 11 0 (zX zT_Y11 10) zT_w0) [(139, [2147483662])] zT_gx = true from zy_sp2 (lo := 2147483648) (hi := 2147483663) (by decide +kernel) (zy_s1_c (zT_11_0_0) (zy_s1_n (zT_11_0_1)))
theorem zT_11_1_0 : zT_F 11 0 (zX zT_Y11 10) zT_w1 (ze_s (2147483648, 2147483662) zT_gx 139) = true := by decide +kernel
theorem zT_11_1_1 : zT_F 11 0 (zX zT_Y11 10) zT_w1 (ze_s (2147483663, 2147483663) zT_gx 139) = true := by decide +kernel
theorem zT_11_1 : zT_go 11 0 (zX zT_Y11 10) zT_w1 = true := show zy_spl (zT_F 11 0 (zX zT_Y11 10) zT_w1) [(139, [2147483662])] zT_gx = true from zy_sp2 (lo := 2147483648) (hi := 2147483663) (by decide +kernel) (zy_s1_c (zT_11_1_0) (zy_s1_n (zT_11_1_1)))
theorem zT_ck11 : zT_ok 11 zT_w0 ∧ zT_ok 11 zT_w1 := ⟨⟨zT_Y11, zT_FP, 572, 10, 0, by decide, by decide, by decide, zT_FPs, zT_Y11_ok, zT_11_0⟩, ⟨zT_Y11, zT_FP, 572, 10, 0, by decide, by decide, by decide, zT_FPs, zT_Y11_ok, zT_11_1⟩⟩
noncomputable def zT_Z12 : ECal := zS_or zc81 (zS_or zc96 (zS_or zc107 (zS_or zc119 (zc262))))
theorem zT_Z12_ok : ZE zT_Z12 608 := (ZE.or zc81_ok ((ZE.or zc96_ok ((ZE.or zc107_ok ((ZE.or zc119_ok (zc262_ok) (by decide) (by decide) : ZE (zS_or zc119 (zc262)) 608)) (by decide) (by decide) : ZE (zS_or zc107 (zS_or zc119 (zc262))) 608)) (by decide) (by decide) : ZE (zS_or zc96 (zS_or zc107 (zS_or zc119 (zc262)))) 608)) (by decide) (by decide) : ZE (zS_or zc81 (zS_or zc96 (zS_or zc107 (zS_or zc119 (zc262))))) 608)
noncomputable def zT_Y12 : ECal := zS_or (zS_fa zT_FP) (zT_Z12)
theorem zT_Y12_ok : ZEF zT_FP zT_Y12 608 := (ZEF.or (d3 := 608) ZEF.fa (ZEF.of zT_Z12_ok) (by decide) (by decide))
theorem zT_12_0_0 : zT_F 12 0 (zX zT_Y12 10) zT_w0 (ze_s (2147483648, 2147483662) zT_gx 139) = true := by decide +kernel
theorem zT_12_0_1 : zT_F 12 0 (zX zT_Y12 10) zT_w0 (ze_s (2147483663, 2147483663) zT_gx 139) = true := by decide +kernel
theorem zT_12_0 : zT_go 12 0 (zX zT_Y12 10) zT_w0 = true := show zy_spl (zT_F 12 0 (zX zT_Y12 10) zT_w0) [(139, [2147483662])] zT_gx = true from zy_sp2 (lo := 2147483648) (hi := 2147483663) (by decide +kernel) (zy_s1_c (zT_12_0_0) (zy_s1_n (zT_12_0_1)))
theorem zT_12_1_0 : zT_F 12 0 (zX zT_Y12 10) zT_w1 (ze_s (2147483648, 2147483662) zT_gx 139) = true := by decide +kernel
theorem zT_12_1_1 : zT_F 12 0 (zX zT_Y12 10) zT_w1 (ze_s (2147483663, 2147483663) zT_gx 139) = true := by decide +kernel
theorem zT_12_1 : zT_go 12 0 (zX zT_Y12 10) zT_w1 = true := show zy_spl (zT_F 12 0 (zX zT_Y12 10) zT_w1) [(139, [2147483662])] zT_gx = true from zy_sp2 (lo := 2147483648) (hi := 2147483663) (by decide +kernel) (zy_s1_c (zT_12_1_0) (zy_s1_n (zT_12_1_1)))
theorem zT_ck12 : zT_ok 12 zT_w0 ∧ zT_ok 12 zT_w1 := ⟨⟨zT_Y12, zT_FP, 608, 10, 0, by decide, by decide, by decide, zT_FPs, zT_Y12_ok, zT_12_0⟩, ⟨zT_Y12, zT_FP, 608, 10, 0, by decide, by decide, by decide, zT_FPs, zT_Y12_ok, zT_12_1⟩⟩

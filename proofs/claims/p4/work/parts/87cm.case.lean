/-! the cases of the law -/
theorem zT_9_1_0 : zT_F 9 0 (zX zT_E9 10) zT_w1 (ze_s (2147483648, 2147483662) zT_gx 139) = true := by decide +kernel
theorem zT_9_1_1 : zT_F 9 0 (zX zT_E9 10) zT_w1 (ze_s (2147483663, 2147483663) zT_gx 139) = true := by decide +kernel
theorem zT_9_1 : zT_go 9 0 (zX zT_E9 10) zT_w1 = true := show zy_spl (zT_F 9 0 (zX zT_E9 10) zT_w1) [(139, [2147483662])] zT_gx = true from zy_sp2 (lo := 2147483648) (hi := 2147483663) (by decide +kernel) (zy_s1_c (zT_9_1_0) (zy_s1_n (zT_9_1_1)))
theorem zT_k9 : zT_ok 9 zT_w0 ∧ zT_ok 9 zT_w1 := ⟨⟨zT_E9, zT_FP, 572, 10, 0, by decide, by decide, by decide, zT_FPs, zT_E9_ok, zT_9_0⟩, ⟨zT_E9, zT_FP, 572, 10, 0, by decide, by decide, by decide, zT_FPs, zT_E9_ok, zT_9_1⟩⟩
noncomputable def zT_B10 : ECal := zS_or zc111 (zS_or zc81 (zc260))
theorem zT_B10_ok : ZE zT_B10 572 := (ZE.or zc111_ok ((ZE.or zc81_ok (zc260_ok) (by decide) (by decide) : ZE (zS_or zc81 (zc260)) 572)) (by decide) (by decide) : ZE (zS_or zc111 (zS_or zc81 (zc260))) 572)
noncomputable def zT_E10 : ECal := zS_or (zS_fa zT_FP) (zT_B10)
theorem zT_E10_ok : ZEF zT_FP zT_E10 572 := (ZEF.or (d3 := 572) ZEF.fa (ZEF.of zT_B10_ok) (by decide) (by decide))
theorem zT_10_0_0 : zT_F 10 0 (zX zT_E10 10) zT_w0 (ze_s (2147483648, 2147483662) zT_gx 139) = true := by decide +kernel
theorem zT_10_0_1 : zT_F 10 0 (zX zT_E10 10) zT_w0 (ze_s (2147483663, 2147483663) zT_gx 139) = true := by decide +kernel
theorem zT_10_0 : zT_go 10 0 (zX zT_E10 10) zT_w0 = true := show zy_spl (zT_F 10 0 (zX zT_E10 10) zT_w0) [(139, [2147483662])] zT_gx = true from zy_sp2 (lo := 2147483648) (hi := 2147483663) (by decide +kernel) (zy_s1_c (zT_10_0_0) (zy_s1_n (zT_10_0_1)))
theorem zT_10_1_0 : zT_F 10 0 (zX zT_E10 10) zT_w1 (ze_s (2147483648, 2147483662) zT_gx 139) = true := by decide +kernel
theorem zT_10_1_1 : zT_F 10 0 (zX zT_E10 10) zT_w1 (ze_s (2147483663, 2147483663) zT_gx 139) = true := by decide +kernel
theorem zT_10_1 : zT_go 10 0 (zX zT_E10 10) zT_w1 = true := show zy_spl (zT_F 10 0 (zX zT_E10 10) zT_w1) [(139, [2147483662])] zT_gx = true from zy_sp2 (lo := 2147483648) (hi := 2147483663) (by decide +kernel) (zy_s1_c (zT_10_1_0) (zy_s1_n (zT_10_1_1)))
theorem zT_k10 : zT_ok 10 zT_w0 ∧ zT_ok 10 zT_w1 := ⟨⟨zT_E10, zT_FP, 572, 10, 0, by decide, by decide, by decide, zT_FPs, zT_E10_ok, zT_10_0⟩, ⟨zT_E10, zT_FP, 572, 10, 0, by decide, by decide, by decide, zT_FPs, zT_E10_ok, zT_10_1⟩⟩
noncomputable def zT_B11 : ECal := zS_or zc100 (zS_or zc111 (zS_or zc81 (zc261)))
theorem zT_B11_ok : ZE zT_B11 572 := (ZE.or zc100_ok ((ZE.or zc111_ok ((ZE.or zc81_ok (zc261_ok) (by decide) (by decide) : ZE (zS_or zc81 (zc261)) 572)) (by decide) (by decide) : ZE (zS_or zc111 (zS_or zc81 (zc261))) 572)) (by decide) (by decide) : ZE (zS_or zc100 (zS_or zc111 (zS_or zc81 (zc261)))) 572)
noncomputable def zT_E11 : ECal := zS_or (zS_fa zT_FP) (zT_B11)
theorem zT_E11_ok : ZEF zT_FP zT_E11 572 := (ZEF.or (d3 := 572) ZEF.fa (ZEF.of zT_B11_ok) (by decide) (by decide))
theorem zT_11_0_0 : zT_F 11 0 (zX zT_E11 10) zT_w0 (ze_s (2147483648, 2147483662) zT_gx 139) = true := by decide +kernel

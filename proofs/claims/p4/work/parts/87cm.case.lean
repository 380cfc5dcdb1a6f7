/-! the cases of the law -/
theorem zT_9_1_0 : zT_F 9 0 (zX zT_Y9 10) zT_w1 (ze_s (2147483648, 2147483662) zT_gx 139) = true := by decide +kernel
theorem zT_9_1_1 : zT_F 9 0 (zX zT_Y9 10) zT_w1 (ze_s (2147483663, 2147483663) zT_gx 139) = true := by decide +kernel
theorem zT_9_1 : zT_go 9 0 (zX zT_Y9 10) zT_w1 = true := show zy_spl (zT_F 9 0 (zX zT_Y9 10) zT_w1) [(139, [2147483662])] zT_gx = true from zy_sp2 (lo := 2147483648) (hi := 2147483663) (by decide +kernel) (zy_s1_c (zT_9_1_0) (zy_s1_n (zT_9_1_1)))
theorem zT_ck9 : zT_ok 9 zT_w0 ∧ zT_ok 9 zT_w1 := ⟨⟨zT_Y9, zT_FP, 572, 10, 0, by decide, by decide, by decide, zT_FPs, zT_Y9_ok, zT_9_0⟩, ⟨zT_Y9, zT_FP, 572, 10, 0, by decide, by decide, by decide, zT_FPs, zT_Y9_ok, zT_9_1⟩⟩
noncomputable def zT_Z10 : ECal := zS_or zc111 (zS_or zc81 (zc260))
theorem zT_Z10_ok : ZE zT_Z10 572 := (ZE.or zc111_ok ((ZE.or zc81_ok (zc260_ok) (by decide) (by decide) : ZE (zS_or zc81 (zc260)) 572)) (by decide) (by decide) : ZE (zS_or zc111 (zS_or zc81 (zc260))) 572)
noncomputable def zT_Y10 : ECal := zS_or (zS_fa zT_FP) (zT_Z10)
theorem zT_Y10_ok : ZEF zT_FP zT_Y10 572 := (ZEF.or (d3 := 572) ZEF.fa (ZEF.of zT_Z10_ok) (by decide) (by decide))
theorem zT_10_0_0 : zT_F 10 0 (zX zT_Y10 10) zT_w0 (ze_s (2147483648, 2147483662) zT_gx 139) = true := by decide +kernel
theorem zT_10_0_1 : zT_F 10 0 (zX zT_Y10 10) zT_w0 (ze_s (2147483663, 2147483663) zT_gx 139) = true := by decide +kernel
theorem zT_10_0 : zT_go 10 0 (zX zT_Y10 10) zT_w0 = true := show zy_spl (zT_F 10 0 (zX zT_Y10 10) zT_w0) [(139, [2147483662])] zT_gx = true from zy_sp2 (lo := 2147483648) (hi := 2147483663) (by decide +kernel) (zy_s1_c (zT_10_0_0) (zy_s1_n (zT_10_0_1)))
theorem zT_10_1_0 : zT_F 10 0 (zX zT_Y10 10) zT_w1 (ze_s (2147483648, 2147483662) zT_gx 139) = true := by decide +kernel
theorem zT_10_1_1 : zT_F 10 0 (zX zT_Y10 10) zT_w1 (ze_s (2147483663, 2147483663) zT_gx 139) = true := by decide +kernel
theorem zT_10_1 : zT_go 10 0 (zX zT_Y10 10) zT_w1 = true := show zy_spl (zT_F 10 0 (zX zT_Y10 10) zT_w1) [(139, [2147483662])] zT_gx = true from zy_sp2 (lo := 2147483648) (hi := 2147483663) (by decide +kernel) (zy_s1_c (zT_10_1_0) (zy_s1_n (zT_10_1_1)))
theorem zT_ck10 : zT_ok 10 zT_w0 ∧ zT_ok 10 zT_w1 := ⟨⟨zT_Y10, zT_FP, 572, 10, 0, by decide, by decide, by decide, zT_FPs, zT_Y10_ok, zT_10_0⟩, ⟨zT_Y10, zT_FP, 572, 10, 0, by decide, by decide, by decide, zT_FPs, zT_Y10_ok, zT_10_1⟩⟩
noncomputable def zT_Z11 : ECal := zS_or zc100 (zS_or zc111 (zS_or zc81 (zc261)))
theorem zT_Z11_ok : ZE zT_Z11 572 := (ZE.or zc100_ok ((ZE.or zc111_ok ((ZE.or zc81_ok (zc261_ok) (by decide) (by decide) : ZE (zS_or zc81 (zc261)) 572)) (by decide) (by decide) : ZE (zS_or zc111 (zS_or zc81 (zc261))) 572)) (by decide) (by decide) : ZE (zS_or zc100 (zS_or zc111 (zS_or zc81 (zc261)))) 572)
noncomputable def zT_Y11 : ECal := zS_or (zS_fa zT_FP) (zT_Z11)
theorem zT_Y11_ok : ZEF zT_FP zT_Y11 572 := (ZEF.or (d3 := 572) ZEF.fa (ZEF.of zT_Z11_ok) (by decide) (by decide))
theorem zT_11_0_0 : zT_F 11 0 (zX zT_Y11 10) zT_w0 (ze_s (2147483648, 2147483662) zT_gx 139) = true := by decide +kernel

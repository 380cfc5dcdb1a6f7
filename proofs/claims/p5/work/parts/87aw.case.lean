/-! the cases of the law -/
noncomputable def zT_Z6 : ECal := zc240
theorem zT_Z6_ok : ZE zT_Z6 563 := zc240_ok
noncomputable def zT_Y6 : ECal := zT_Z6
theorem zT_Y6_ok : ZEF [] zT_Y6 563 := (ZEF.of zT_Z6_ok)
theorem zT_6_0 : zT_go 6 2 (zX zT_Y6 10) zT_w0 = true := by decide +kernel
theorem zT_6_1 : zT_go 6 2 (zX zT_Y6 10) zT_w1 = true := by decide +kernel
theorem zT_ck6 : zT_ok 6 zT_w0 ∧ zT_ok 6 zT_w1 := ⟨⟨zT_Y6, [], 563, 10, 2, by decide, by decide, by decide, (fun f h => by cases h), zT_Y6_ok, zT_6_0⟩, ⟨zT_Y6, [], 563, 10, 2, by decide, by decide, by decide, (fun f h => by cases h), zT_Y6_ok, zT_6_1⟩⟩
noncomputable def zT_Z7 : ECal := zS_or zc98 (zS_or zc106 (zc242))
theorem zT_Z7_ok : ZE zT_Z7 581 := (ZE.or zc98_ok ((ZE.or zc106_ok (zc242_ok) (by decide) (by decide) : ZE (zS_or zc106 (zc242)) 581)) (by decide) (by decide) : ZE (zS_or zc98 (zS_or zc106 (zc242))) 581)
noncomputable def zT_Y7 : ECal := zT_Z7
theorem zT_Y7_ok : ZEF [] zT_Y7 581 := (ZEF.of zT_Z7_ok)
theorem zT_7_0 : zT_go 7 3 (zX zT_Y7 10) zT_w0 = true := by decide +kernel
theorem zT_7_1 : zT_go 7 3 (zX zT_Y7 10) zT_w1 = true := by decide +kernel
theorem zT_ck7 : zT_ok 7 zT_w0 ∧ zT_ok 7 zT_w1 := ⟨⟨zT_Y7, [], 581, 10, 3, by decide, by decide, by decide, (fun f h => by cases h), zT_Y7_ok, zT_7_0⟩, ⟨zT_Y7, [], 581, 10, 3, by decide, by decide, by decide, (fun f h => by cases h), zT_Y7_ok, zT_7_1⟩⟩
noncomputable def zT_Z8 : ECal := zS_or zc134 (zc243)
theorem zT_Z8_ok : ZE zT_Z8 563 := (ZE.or zc134_ok (zc243_ok) (by decide) (by decide) : ZE (zS_or zc134 (zc243)) 563)
noncomputable def zT_Y8 : ECal := zT_Z8
theorem zT_Y8_ok : ZEF [] zT_Y8 563 := (ZEF.of zT_Z8_ok)
theorem zT_8_0 : zT_go 8 0 (zX zT_Y8 10) zT_w0 = true := by decide +kernel
theorem zT_8_1 : zT_go 8 0 (zX zT_Y8 10) zT_w1 = true := by decide +kernel
theorem zT_ck8 : zT_ok 8 zT_w0 ∧ zT_ok 8 zT_w1 := ⟨⟨zT_Y8, [], 563, 10, 0, by decide, by decide, by decide, (fun f h => by cases h), zT_Y8_ok, zT_8_0⟩, ⟨zT_Y8, [], 563, 10, 0, by decide, by decide, by decide, (fun f h => by cases h), zT_Y8_ok, zT_8_1⟩⟩
noncomputable def zT_Z9 : ECal := zS_or zc81 (zc259)
theorem zT_Z9_ok : ZE zT_Z9 572 := (ZE.or zc81_ok (zc259_ok) (by decide) (by decide) : ZE (zS_or zc81 (zc259)) 572)
noncomputable def zT_Y9 : ECal := zS_or (zS_fa zT_FP) (zT_Z9)
theorem zT_Y9_ok : ZEF zT_FP zT_Y9 572 := (ZEF.or (d3 := 572) ZEF.fa (ZEF.of zT_Z9_ok) (by decide) (by decide))
theorem zT_9_0_0 : zT_F 9 0 (zX zT_Y9 10) zT_w0 (ze_s (2147483648, 2147483662) zT_gx 139) = true := by decide +kernel
theorem zT_9_0_1 : zT_F 9 0 (zX zT_Y9 10) zT_w0 (ze_s (2147483663, 2147483663) zT_gx 139) = true := by decide +kernel
theorem zT_9_0 : zT_go 9 0 (zX zT_Y9 10) zT_w0 = true := show zy_spl (zT_F 9 0 (zX zT_Y9 10) zT_w0) [(139, [2147483662])] zT_gx = true from zy_sp2 (lo := 2147483648) (hi := 2147483663) (by decide +kernel) (zy_s1_c (zT_9_0_0) (zy_s1_n (zT_9_0_1)))
theorem zT_9_1_0 : zT_F 9 0 (zX zT_Y9 10) zT_w1 (ze_s (2147483648, 2147483662) zT_gx 139) = true := by decide +kernel
theorem zT_9_1_1 : zT_F 9 0 (zX zT_Y9 10) zT_w1 (ze_s (2147483663, 2147483663) zT_gx 139) = true := by decide +kernel
theorem zT_9_1 : zT_go 9 0 (zX zT_Y9 10) zT_w1 = true := show zy_spl (zT_F 9 0 (zX zT_Y9 10) zT_w1) [(139, [2147483662])] zT_gx = true from zy_sp2 (lo := 2147483648) (hi := 2147483663) (by decide +kernel) (zy_s1_c (zT_9_1_0) (zy_s1_n (zT_9_1_1)))
theorem zT_ck9 : zT_ok 9 zT_w0 ∧ zT_ok 9 zT_w1 := ⟨⟨zT_Y9, zT_FP, 572, 10, 0, by decide, by decide, by decide, zT_FPs, zT_Y9_ok, zT_9_0⟩, ⟨zT_Y9, zT_FP, 572, 10, 0, by decide, by decide, by decide, zT_FPs, zT_Y9_ok, zT_9_1⟩⟩
noncomputable def zT_Z10 : ECal := zS_or zc111 (zS_or zc81 (zc260))
theorem zT_Z10_ok : ZE zT_Z10 572 := (ZE.or zc111_ok ((ZE.or zc81_ok (zc260_ok) (by decide) (by decide) : ZE (zS_or zc81 (zc260)) 572)) (by decide) (by decide) : ZE (zS_or zc111 (zS_or zc81 (zc260))) 572)
noncomputable def zT_Y10 : ECal := zS_or (zS_fa zT_FP) (zT_Z10)
theorem zT_Y10_ok : ZEF zT_FP zT_Y10 572 := (ZEF.or (d3 := 572) ZEF.fa (ZEF.of zT_Z10_ok) (by decide) (by decide))
theorem zT_10_0_0 : zT_F 10 0 (zX zT_Y10 10) zT_w0 (ze_s (2147483648, 2147483662) zT_gx 139) = true := by decide +kernel
theorem zT_10_0_1 : zT_F 10 0 (zX zT_Y10 10) zT_w0 (ze_s (2147483663, 2147483663) zT_gx 139) = true := by decide +kernel
theorem zT_10_0 : zT_go 10 0 (zX zT_Y10 10) zT_w0 = true := show zy_spl (zT_F 10 0 (zX zT_Y10 10) zT_w0) [(139, [2147483662])] zT_gx = true from zy_sp2 (lo := 2147483648) (hi := 2147483663) (by decide +kernel) (zy_s1_c (zT_10_0_0) (zy_s1_n (zT_10_0_1)))
theorem zT_10_1_0 : zT_F 10 0 (zX zT_Y10 10) zT_w1 (ze_s (2147483648, 2147483662) zT_gx 139) = true := by decide +kernel
theorem zT_10_1_1 : zT_F 10 0 (zX zT_Y10 10) zT_w1 (ze_s (2147483663, 2147483663) zT_gx 139) = true := by decide +kernel
theorem zT_10_1 : zT_go 10 0 (zX zT_Y10 10) zT_w1 = true := show zy_spl (zT_F 10 0 (zX zT_Y10 10) zT_w1) [(139, [2147483662])] zT_gx = true from zy_sp2 (lo := 2147483648) (hi := 2147483663) (by decide +kernel) (zy_s1_c (zT_10_1_0) (zy_s1_n (zT_10_1_1)))
theorem zT_ck10 : zT_ok 10 zT_w0 ∧ zT_ok 10 zT_w1 := ⟨⟨zT_Y10, zT_FP, 572, 10, 0, by decide, by decide, by decide, zT_FPs, zT_Y10_ok, zT_10_0⟩, ⟨zT_Y10, zT_FP, 572, 10, 0, by decide, by decide, by decide, zT_FPs, zT_Y10_ok, zT_10_1⟩⟩
noncomputable def zT_Z11 : ECal := zS_or zc100 (zS_or zc111 (zS_or zc81 (zc261)))
theorem zT_Z11_ok : ZE zT_Z11 572 := (ZE.or zc100_ok ((ZE.or zc111_ok ((ZE.or zc81_ok (zc261_ok) (by decide) (by decide) : ZE (zS_or zc81 (zc261)) 572)) (by decide) (by decide) : ZE (zS_or zc111 (zS_or zc81 (zc261))) 572)) (by decide) (by decide) : ZE (zS_or zc100 (zS_or zc111 (zS_or zc81 (zc261)))) 572)
noncomputable def zT_Y11 : ECal := zS_or (zS_fa zT_FP) (zT_Z11)
theorem zT_Y11_ok : ZEF zT_FP zT_Y11 572 := (ZEF.or (d3 := 572) ZEF.fa (ZEF.of zT_Z11_ok) (by decide) (by decide))
theorem zT_11_0_0 : zT_F 11 0 (zX zT_Y11 10) zT_w0 (ze_s (2147483648, 2147483662) zT_gx 139) = true := by decide +kernel
theorem zT_11_0_1 : zT_F 11 0 (zX zT_Y11 10) zT_w0 (ze_s (2147483663, 2147483663) zT_gx 139) = true := by decide +kernel
theorem zT_11_0 : zT_go 11 0 (zX zT_Y11 10) zT_w0 = true := show zy_spl (zT_F 11 0 (zX zT_Y11 10) zT_w0) [(139, [2147483662])] zT_gx = true from zy_sp2 (lo := 2147483648) (hi := 2147483663) (by decide +kernel) (zy_s1_c (zT_11_0_0) (zy_s1_n (zT_11_0_1)))
theorem zT_11_1_0 : zT_F 11 0 (zX zT_Y11 10) zT_w1 (ze_s (2147483648, 2147483662) zT_gx 139) = true := by decide +kernel
theorem zT_11_1_1 : zT_F 11 0 (zX zT_Y11 10) zT_w1 (ze_s (2147483663, 2147483663) zT_gx 139) = true := by decide +kernel
theorem zT_11_1 : zT_go 11 0 (zX zT_Y11 10) zT_w1 = true := show zy_spl (zT_F 11 0 (zX zT_Y11 10) zT_w1) [(139, [2147483662])] zT_gx = true from zy_sp2 (lo := 2147483648) (hi := 2147483663) (by decide +kernel) (zy_s1_c (zT_11_1_0) (zy_s1_n (zT_11_1_1)))
theorem zT_ck11 : zT_ok 11 zT_w0 ∧ zT_ok 11 zT_w1 := ⟨⟨zT_Y11, zT_FP, 572, 10, 0, by decide, by decide, by decide, zT_FPs, zT_Y11_ok, zT_11_0⟩, ⟨zT_Y11, zT_FP, 572, 10, 0, by decide, by decide, by decide, zT_FPs, zT_Y11_ok, zT_11_1⟩⟩
noncomputable def zT_Z12 : ECal := zS_or zc81 (zS_or zc96 (zS_or zc107 (zS_or zc119 (zc262))))
theorem zT_Z12_ok : ZE zT_Z12 608 := (ZE.or zc81_ok ((ZE.or zc96_ok ((ZE.or zc107_ok ((ZE.or zc119_ok (zc262_ok) (by decide) (by decide) : ZE (zS_or zc119 (zc262)) 608)) (by decide) (by decide) : ZE (zS_or zc107 (zS_or zc119 (zc262))) 608)) (by decide) (by decide) : ZE (zS_or zc96 (zS_or zc107 (zS_or zc119 (zc262)))) 608)) (by decide) (by decide) : ZE (zS_or zc81 (zS_or zc96 (zS_or zc107 (zS_or zc119 (zc262))))) 608)
noncomputable def zT_Y12 : ECal := zS_or (zS_fa zT_FP) (zT_Z12)
theorem zT_Y12_ok : ZEF zT_FP zT_Y12 608 := (ZEF.or (d3 := 608) ZEF.fa (ZEF.of zT_Z12_ok) (by decide) (by decide))
theorem zT_12_0_0 : zT_F 12 0 (zX zT_Y12 10) zT_w0 (ze_s (2147483648, 2147483662) zT_gx 139) = true := by decide +kernel
theorem zT_12_0_1 : zT_F 12 0 (zX zT_Y12 10) zT_w0 (ze_s (2147483663, 2147483663) zT_gx 139) = true := by decide +kernel
theorem zT_12_0 : zT_go 12 0 (zX zT_Y12 10) zT_w0 = true := show zy_spl (zT_F 12 0 (zX zT_Y12 10) zT_w0) [(139, [2147483662])] zT_gx = true from zy_sp2 (lo := 2147483648) (hi := 2147483663) (by decide +kernel) (zy_s1_c (zT_12_0_0) (zy_s1_n (zT_12_0_1)))

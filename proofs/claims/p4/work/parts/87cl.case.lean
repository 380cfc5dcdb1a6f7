/-! the cases of the law -/
theorem zT_6_1 : zT_go 6 2 (zX zT_E6 10) zT_w1 = true := by decide +kernel
theorem zT_k6 : zT_ok 6 zT_w0 ∧ zT_ok 6 zT_w1 := ⟨⟨zT_E6, [], 563, 10, 2, by decide, by decide, by decide, (fun f h => by cases h), zT_E6_ok, zT_6_0⟩, ⟨zT_E6, [], 563, 10, 2, by decide, by decide, by decide, (fun f h => by cases h), zT_E6_ok, zT_6_1⟩⟩
noncomputable def zT_B7 : ECal := zS_or zc98 (zS_or zc106 (zc242))
theorem zT_B7_ok : ZE zT_B7 581 := (ZE.or zc98_ok ((ZE.or zc106_ok (zc242_ok) (by decide) (by decide) : ZE (zS_or zc106 (zc242)) 581)) (by decide) (by decide) : ZE (zS_or zc98 (zS_or zc106 (zc242))) 581)
noncomputable def zT_E7 : ECal := zT_B7
theorem zT_E7_ok : ZEF [] zT_E7 581 := (ZEF.of zT_B7_ok)
theorem zT_7_0 : zT_go 7 3 (zX zT_E7 10) zT_w0 = true := by decide +kernel
theorem zT_7_1 : zT_go 7 3 (zX zT_E7 10) zT_w1 = true := by decide +kernel
theorem zT_k7 : zT_ok 7 zT_w0 ∧ zT_ok 7 zT_w1 := ⟨⟨zT_E7, [], 581, 10, 3, by decide, by decide, by decide, (fun f h => by cases h), zT_E7_ok, zT_7_0⟩, ⟨zT_E7, [], 581, 10, 3, by decide, by decide, by decide, (fun f h => by cases h), zT_E7_ok, zT_7_1⟩⟩
noncomputable def zT_B8 : ECal := zS_or zc134 (zc243)
theorem zT_B8_ok : ZE zT_B8 563 := (ZE.or zc134_ok (zc243_ok) (by decide) (by decide) : ZE (zS_or zc134 (zc243)) 563)
noncomputable def zT_E8 : ECal := zT_B8
theorem zT_E8_ok : ZEF [] zT_E8 563 := (ZEF.of zT_B8_ok)
theorem zT_8_0 : zT_go 8 0 (zX zT_E8 10) zT_w0 = true := by decide +kernel
theorem zT_8_1 : zT_go 8 0 (zX zT_E8 10) zT_w1 = true := by decide +kernel
theorem zT_k8 : zT_ok 8 zT_w0 ∧ zT_ok 8 zT_w1 := ⟨⟨zT_E8, [], 563, 10, 0, by decide, by decide, by decide, (fun f h => by cases h), zT_E8_ok, zT_8_0⟩, ⟨zT_E8, [], 563, 10, 0, by decide, by decide, by decide, (fun f h => by cases h), zT_E8_ok, zT_8_1⟩⟩
noncomputable def zT_B9 : ECal := zS_or zc81 (zc259)
theorem zT_B9_ok : ZE zT_B9 572 := (ZE.or zc81_ok (zc259_ok) (by decide) (by decide) : ZE (zS_or zc81 (zc259)) 572)
noncomputable def zT_E9 : ECal := zS_or (zS_fa zT_FP) (zT_B9)
theorem zT_E9_ok : ZEF zT_FP zT_E9 572 := (ZEF.or (d3 := 572) ZEF.fa (ZEF.of zT_B9_ok) (by decide) (by decide))
theorem zT_9_0_0 : zT_F 9 0 (zX zT_E9 10) zT_w0 (ze_s (2147483648, 2147483662) zT_gx 139) = true := by decide +kernel
theorem zT_9_0_1 : zT_F 9 0 (zX zT_E9 10) zT_w0 (ze_s (2147483663, 2147483663) zT_gx 139) = true := by decide +kernel
theorem zT_9_0 : zT_go 9 0 (zX zT_E9 10) zT_w0 = true := show zy_spl (zT_F 9 0 (zX zT_E9 10) zT_w0) [(139, [2147483662])] zT_gx = true from zy_sp2 (lo := 2147483648) (hi := 2147483663) (by decide +kernel) (zy_s1_c (zT_9_0_0) (zy_s1_n (zT_9_0_1)))

/-! the cases of the law -/
theorem zT_14_1 : zT_go 14 0 (zX zT_Y14 10) zT_w1 = true := show zy_spl (zT_F 14 0 (zX zT_Y14 10) zT_w1) [(139, [2147483662])] zT_gx = true from zy_sp2 (lo := 2147483648) (hi := 2147483663) (by decide +kernel) (zy_s1_c (zT_14_1_0) (zy_s1_n (zT_14_1_1)))
theorem zT_ck14 : zT_ok 14 zT_w0 ∧ zT_ok 14 zT_w1 := ⟨⟨zT_Y14, zT_FP, 572, 10, 0, by decide, by decide, by decide, zT_FPs, zT_Y14_ok, zT_14_0⟩, ⟨zT_Y14, zT_FP, 572, 10, 0, by decide, by decide, by decide, zT_FPs, zT_Y14_ok, zT_14_1⟩⟩
noncomputable def zT_Z15 : ECal := zS_or zc115 (zS_or zc81 (zc265))
theorem zT_Z15_ok : ZE zT_Z15 572 := (ZE.or zc115_ok ((ZE.or zc81_ok (zc265_ok) (by decide) (by decide) : ZE (zS_or zc81 (zc265)) 572)) (by decide) (by decide) : ZE (zS_or zc115 (zS_or zc81 (zc265))) 572)
noncomputable def zT_Y15 : ECal := zS_or (zS_fa zT_FP) (zT_Z15)
theorem zT_Y15_ok : ZEF zT_FP zT_Y15 572 := (ZEF.or (d3 := 572) ZEF.fa (ZEF.of zT_Z15_ok) (by decide) (by decide))
theorem zT_15_0_0 : zT_F 15 0 (zX zT_Y15 10) zT_w0 (ze_s (2147483648, 2147483662) zT_gx 139) = true := by decide +kernel
theorem zT_15_0_1 : zT_F 15 0 (zX zT_Y15 10) zT_w0 (ze_s (2147483663, 2147483663) zT_gx 139) = true := by decide +kernel
theorem zT_15_0 : zT_go 15 0 (zX zT_Y15 10) zT_w0 = true := show zy_spl (zT_F 15 0 (zX zT_Y15 10) zT_w0) [(139, [2147483662])] zT_gx = true from zy_sp2 (lo := 2147483648) (hi := 2147483663) (by decide +kernel) (zy_s1_c (zT_15_0_0) (zy_s1_n (zT_15_0_1)))
theorem zT_15_1_0 : zT_F 15 0 (zX zT_Y15 10) zT_w1 (ze_s (2147483648, 2147483662) zT_gx 139) = true := by decide +kernel
theorem zT_15_1_1 : zT_F 15 0 (zX zT_Y15 10) zT_w1 (ze_s (2147483663, 2147483663) zT_gx 139) = true := by decide +kernel
theorem zT_15_1 : zT_go 15 0 (zX zT_Y15 10) zT_w1 = true := show zy_spl (zT_F 15 0 (zX zT_Y15 10) zT_w1) [(139, [2147483662])] zT_gx = true from zy_sp2 (lo := 2147483648) (hi := 2147483663) (by decide +kernel) (zy_s1_c (zT_15_1_0) (zy_s1_n (zT_15_1_1)))
theorem zT_ck15 : zT_ok 15 zT_w0 ∧ zT_ok 15 zT_w1 := ⟨⟨zT_Y15, zT_FP, 572, 10, 0, by decide, by decide, by decide, zT_FPs, zT_Y15_ok, zT_15_0⟩, ⟨zT_Y15, zT_FP, 572, 10, 0, by decide, by decide, by decide, zT_FPs, zT_Y15_ok, zT_15_1⟩⟩
noncomputable def zT_Z16 : ECal := zS_or zc81 (zc266)
theorem zT_Z16_ok : ZE zT_Z16 572 := (ZE.or zc81_ok (zc266_ok) (by decide) (by decide) : ZE (zS_or zc81 (zc266)) 572)
noncomputable def zT_Y16 : ECal := zS_or (zS_fa zT_FP) (zT_Z16)
theorem zT_Y16_ok : ZEF zT_FP zT_Y16 572 := (ZEF.or (d3 := 572) ZEF.fa (ZEF.of zT_Z16_ok) (by decide) (by decide))
theorem zT_16_0_0 : zT_F 16 0 (zX zT_Y16 10) zT_w0 (ze_s (2147483648, 2147483662) zT_gx 139) = true := by decide +kernel
theorem zT_16_0_1 : zT_F 16 0 (zX zT_Y16 10) zT_w0 (ze_s (2147483663, 2147483663) zT_gx 139) = true := by decide +kernel
theorem zT_16_0 : zT_go 16 0 (zX zT_Y16 10) zT_w0 = true := show zy_spl (zT_F 16 0 (zX zT_Y16 10) zT_w0) [(139, [2147483662])] zT_gx = true from zy_sp2 (lo := 2147483648) (hi := 2147483663) (by decide +kernel) (zy_s1_c (zT_16_0_0) (zy_s1_n (zT_16_0_1)))

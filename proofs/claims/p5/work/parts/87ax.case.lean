/-! the cases of the law -/
theorem zT_12_1_0 : zT_F 12 0 (zX zT_Y12 10) zT_w1 (ze_s (2147483648, 2147483662) zT_gx 139) = true := by decide +kernel
theorem zT_12_1_1 : zT_F 12 0 (zX zT_Y12 10) zT_w1 (ze_s (2147483663, 2147483663) zT_gx 139) = true := by decide +kernel
theorem zT_12_1 : zT_go 12 0 (zX zT_Y12 10) zT_w1 = true := show zy_spl (zT_F 12 0 (zX zT_Y12 10) zT_w1) [(139, [2147483662])] zT_gx = true from zy_sp2 (lo := 2147483648) (hi := 2147483663) (by decide +kernel) (zy_s1_c (zT_12_1_0) (zy_s1_n (zT_12_1_1)))
theorem zT_ck12 : zT_ok 12 zT_w0 ∧ zT_ok 12 zT_w1 := ⟨⟨zT_Y12, zT_FP, 608, 10, 0, by decide, by decide, by decide, zT_FPs, zT_Y12_ok, zT_12_0⟩, ⟨zT_Y12, zT_FP, 608, 10, 0, by decide, by decide, by decide, zT_FPs, zT_Y12_ok, zT_12_1⟩⟩
noncomputable def zT_Z13 : ECal := zS_or zc81 (zc263)
theorem zT_Z13_ok : ZE zT_Z13 572 := (ZE.or zc81_ok (zc263_ok) (by decide) (by decide) : ZE (zS_or zc81 (zc263)) 572)
noncomputable def zT_Y13 : ECal := zS_or (zS_fa zT_FP) (zT_Z13)
theorem zT_Y13_ok : ZEF zT_FP zT_Y13 572 := (ZEF.or (d3 := 572) ZEF.fa (ZEF.of zT_Z13_ok) (by decide) (by decide))
theorem zT_13_0_0 : zT_F 13 0 (zX zT_Y13 10) zT_w0 (ze_s (2147483648, 2147483662) zT_gx 139) = true := by decide +kernel
theorem zT_13_0_1 : zT_F 13 0 (zX zT_Y13 10) zT_w0 (ze_s (2147483663, 2147483663) zT_gx 139) = true := by decide +kernel
theorem zT_13_0 : zT_go 13 0 (zX zT_Y13 10) zT_w0 = true := show zy_spl (zT_F 13 0 (zX zT_Y13 10) zT_w0) [(139, [2147483662])] zT_gx = true from zy_sp2 (lo := 2147483648) (hi := 2147483663) (by decide +kernel) (zy_s1_c (zT_13_0_0) (zy_s1_n (zT_13_0_1)))
theorem zT_13_1_0 : zT_F 13 0 (zX zT_Y13 10) zT_w1 (ze_s (2147483648, 2147483662) zT_gx 139) = true := by decide +kernel
theorem zT_13_1_1 : zT_F 13 0 (zX zT_Y13 10) zT_w1 (ze_s (2147483663, 2147483663) zT_gx 139) = true := by decide +kernel
theorem zT_13_1 : zT_go 13 0 (zX zT_Y13 10) zT_w1 = true := show zy_spl (zT_F 13 0 (zX zT_Y13 10) zT_w1) [(139, [2147483662])] zT_gx = true from zy_sp2 (lo := 2147483648) (hi := 2147483663) (by decide +kernel) (zy_s1_c (zT_13_1_0) (zy_s1_n (zT_13_1_1)))
theorem zT_ck13 : zT_ok 13 zT_w0 ∧ zT_ok 13 zT_w1 := ⟨⟨zT_Y13, zT_FP, 572, 10, 0, by decide, by decide, by decide, zT_FPs, zT_Y13_ok, zT_13_0⟩, ⟨zT_Y13, zT_FP, 572, 10, 0, by decide, by decide, by decide, zT_FPs, zT_Y13_ok, zT_13_1⟩⟩
noncomputable def zT_Z14 : ECal := zS_or zc114 (zS_or zc81 (zc264))
theorem zT_Z14_ok : ZE zT_Z14 572 := (ZE.or zc114_ok ((ZE.or zc81_ok (zc264_ok) (by decide) (by decide) : ZE (zS_or zc81 (zc264)) 572)) (by decide) (by decide) : ZE (zS_or zc114 (zS_or zc81 (zc264))) 572)
noncomputable def zT_Y14 : ECal := zS_or (zS_fa zT_FP) (zT_Z14)
theorem zT_Y14_ok : ZEF zT_FP zT_Y14 572 := (ZEF.or (d3 := 572) ZEF.fa (ZEF.of zT_Z14_ok) (by decide) (by decide))
theorem zT_14_0_0 : zT_F 14 0 (zX zT_Y14 10) zT_w0 (ze_s (2147483648, 2147483662) zT_gx 139) = true := by decide +kernel
theorem zT_14_0_1 : zT_F 14 0 (zX zT_Y14 10) zT_w0 (ze_s (2147483663, 2147483663) zT_gx 139) = true := by decide +kernel
theorem zT_14_0 : zT_go 14 0 (zX zT_Y14 10) zT_w0 = true := show zy_spl (zT_F 14 0 (zX zT_Y14 10) zT_w0) [(139, [2147483662])] zT_gx = true from zy_sp2 (lo := 2147483648) (hi := 2147483663) (by decide +kernel) (zy_s1_c (zT_14_0_0) (zy_s1_n (zT_14_0_1)))
theorem zT_14_1_0 : zT_F 14 0 (zX zT_Y14 10) zT_w1 (ze_s (2147483648, 2147483662) zT_gx 139) = true := by decide +kernel
theorem zT_14_1_1 : zT_F 14 0 (zX zT_Y14 10) zT_w1 (ze_s (2147483663, 2147483663) zT_gx 139) = true := by decide +kernel
theorem zT_14_1 : zT_go 14 0 (zX zT_Y14 10) zT_w1 = true := show zy_spl (zT_F 14 0 (zX zT_Y14 10) zT_w1) [(139, [2147483662])] zT_gx = true from zy_sp2 (lo := 2147483648) (hi := 2147483663) (by decide +kernel) (zy_s1_c (zT_14_1_0) (zy_s1_n (zT_14_1_1)))
theorem zT_ck14 : zT_ok 14 zT_w0 ∧ zT_ok 14 zT_w1 := ⟨⟨zT_Y14, zT_FP, 572, 10, 0, by decide, by decide, by decide, zT_FPs, zT_Y14_ok, zT_14_0⟩, ⟨zT_Y14, zT_FP, 572, 10, 0, by decide, by decide, by decide, zT_FPs, zT_Y14_ok, zT_14_1⟩⟩
noncomputable def zT_Z15 : ECal := zS_or zc115 (zS_or zc81 (zc265))
theorem zT_Z15_ok : ZE zT_Z15 572 := (ZE.or zc115_ok ((ZE.or zc81_ok (zc265_ok) (by decide) (by decide) : ZE (zS_or zc81 (zc265)) 572)) (by decide) (by decide) : ZE (zS_or zc115 (zS_or zc81 (zc265))) 572)
noncomputable def zT_Y15 : ECal := zS_or (zS_fa zT_FP) (zT_Z15)
theorem zT_Y15_ok : ZEF zT_FP zT_Y15 572 := (ZEF.or (d3 := 572) ZEF.fa (ZEF.of zT_Z15_ok) (by decide) (by decide))
theorem zT_15_0_0 : zT_F 15 0 (zX zT_Y15 10) zT_w0 (ze_s (2147483648, 2147483662) zT_gx 139) = true := by decide +kernel
theorem zT_15_0_1 : zT_F 15 0 (zX zT_Y15 10) zT_w0 (ze_s (2147483663, 2147483663) zT_gx 139) = true := by decide +kernel
theorem zT_15_0 : zT_go 15 0 (zX zT_Y15 10) zT_w0 = true := show zy_spl (zT_F 15 0 (zX zT_Y15 10) zT_w0) [(139, [2147483662])] zT_gx = true from zy_sp2 (lo := 2147483648) (hi := 2147483663) (by decide +kernel) (zy_s1_c (zT_15_0_0) (zy_s1_n (zT_15_0_1)))
theorem zT_15_1_0 : zT_F 15 0 (zX zT_Y15 10) zT_w1 (ze_s (2147483648, 2147483662) zT_gx 139) = true := by decide +kernel
theorem zT_15_1_1 : zT_F 15 0 (zX zT_Y15 10) zT_w1 (ze_s (2147483663, 2147483663) zT_gx 139) = true := by decide +kernel
theorem zT_15_1 : zT_go 15 0 (zX zT_Y15 10) zT_w1 = true := show zy_spl (zT_F 15 0 (zX zT_Y15 10) zT_w1) [(139, [2147483662])] zT_gx = true from zy_sp2 (lo := 2147483648) (hi := 2147483663) (by decide +kernel) (zy_s1_c (zT_15_1_0) (zy_s1_n (zT_15_1_1)))
theorem zT_ck15 : zT_ok 15 zT_w0 ∧ zT_ok 15 zT_w1 := ⟨⟨zT_Y15, zT_FP, 572, 10, 0, by decide, by decide, by decide, zT_FPs, zT_Y15_ok, zT_15_0⟩, ⟨zT_Y15, zT_FP, 572, 10, 0, by decide, by decide, by decide, zT_FPs, zT_Y15_ok, zT_15_1⟩⟩
noncomputable def zT_Z16 : ECal := zS_or zc81 (zc266)
theorem zT_Z16_ok : ZE zT_Z16 572 := (ZE.or zc81_ok (zc266_ok) (by decide) (by decide) : ZE (zS_or zc81 (zc266)) 572)
noncomputable def zT_Y16 : ECal := zS_or (zS_fa zT_FP) (zT_Z16)
theorem zT_Y16_ok : ZEF zT_FP zT_Y16 572 := (ZEF.or (d3 := 572) ZEF.fa (ZEF.of zT_Z16_ok) (by decide) (by decide))
theorem zT_16_0_0 : zT_F 16 0 (zX zT_Y16 10) zT_w0 (ze_s (2147483648, 2147483662) zT_gx 139) = true := by decide +kernel
theorem zT_16_0_1 : zT_F 16 0 (zX zT_Y16 10) zT_w0 (ze_s (2147483663, 2147483663) zT_gx 139) = true := by decide +kernel
theorem zT_16_0 : zT_go 16 0 (zX zT_Y16 10) zT_w0 = true := show zy_spl (zT_F 16 0 (zX zT_Y16 10) zT_w0) [(139, [2147483662])] zT_gx = true from zy_sp2 (lo := 2147483648) (hi := 2147483663) (by decide +kernel) (zy_s1_c (zT_16_0_0) (zy_s1_n (zT_16_0_1)))
theorem zT_16_1_0 : zT_F 16 0 (zX zT_Y16 10) zT_w1 (ze_s (2147483648, 2147483662) zT_gx 139) = true := by decide +kernel
theorem zT_16_1_1 : zT_F 16 0 (zX zT_Y16 10) zT_w1 (ze_s (2147483663, 2147483663) zT_gx 139) = true := by decide +kernel
theorem zT_16_1 : zT_go 16 0 (zX zT_Y16 10) zT_w1 = true := show zy_spl (zT_F 16 0 (zX zT_Y16 10) zT_w1) [(139, [2147483662])] zT_gx = true from zy_sp2 (lo := 2147483648) (hi := 2147483663) (by decide +kernel) (zy_s1_c (zT_16_1_0) (zy_s1_n (zT_16_1_1)))
theorem zT_ck16 : zT_ok 16 zT_w0 ∧ zT_ok 16 zT_w1 := ⟨⟨zT_Y16, zT_FP, 572, 10, 0, by decide, by decide, by decide, zT_FPs, zT_Y16_ok, zT_16_0⟩, ⟨zT_Y16, zT_FP, 572, 10, 0, by decide, by decide, by decide, zT_FPs, zT_Y16_ok, zT_16_1⟩⟩
noncomputable def zT_Z17 : ECal := zc269
theorem zT_Z17_ok : ZE zT_Z17 635 := zc269_ok
noncomputable def zT_Y17 : ECal := zS_or (zS_fa zT_FP) (zS_or zc143 (zT_Z17))
theorem zT_Y17_ok : ZEF zT_FP zT_Y17 635 := (ZEF.or (d3 := 635) ZEF.fa (ZEF.or (d3 := 635) zc143_ok (ZEF.of zT_Z17_ok) (by decide) (by decide)) (by decide) (by decide))
theorem zT_17_0_0 : zT_F 17 0 (zX zT_Y17 10) zT_w0 (ze_s (2147483648, 2147483662) zT_gx 139) = true := by decide +kernel
theorem zT_17_0_1 : zT_F 17 0 (zX zT_Y17 10) zT_w0 (ze_s (2147483663, 2147483663) zT_gx 139) = true := by decide +kernel
theorem zT_17_0 : zT_go 17 0 (zX zT_Y17 10) zT_w0 = true := show zy_spl (zT_F 17 0 (zX zT_Y17 10) zT_w0) [(139, [2147483662])] zT_gx = true from zy_sp2 (lo := 2147483648) (hi := 2147483663) (by decide +kernel) (zy_s1_c (zT_17_0_0) (zy_s1_n (zT_17_0_1)))

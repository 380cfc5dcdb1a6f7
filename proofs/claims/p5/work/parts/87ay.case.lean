/-! the cases of the law -/
theorem zT_17_1_0 : zT_F 17 0 (zX zT_Y17 10) zT_w1 (ze_s (2147483648, 2147483662) zT_gx 139) = true := by decide +kernel
theorem zT_17_1_1 : zT_F 17 0 (zX zT_Y17 10) zT_w1 (ze_s (2147483663, 2147483663) zT_gx 139) = true := by decide +kernel
theorem zT_17_1 : zT_go 17 0 (zX zT_Y17 10) zT_w1 = true := show zy_spl (zT_F 17 0 (zX zT_Y17 10) zT_w1) [(139, [2147483662])] zT_gx = true from zy_sp2 (lo := 2147483648) (hi := 2147483663) (by decide +kernel) (zy_s1_c (zT_17_1_0) (zy_s1_n (zT_17_1_1)))
theorem zT_ck17 : zT_ok 17 zT_w0 ∧ zT_ok 17 zT_w1 := ⟨⟨zT_Y17, zT_FP, 635, 10, 0, by decide, by decide, by decide, zT_FPs, zT_Y17_ok, zT_17_0⟩, ⟨zT_Y17, zT_FP, 635, 10, 0, by decide, by decide, by decide, zT_FPs, zT_Y17_ok, zT_17_1⟩⟩
noncomputable def zT_Z18 : ECal := zS_or zc81 (zc247)
theorem zT_Z18_ok : ZE zT_Z18 563 := (ZE.or zc81_ok (zc247_ok) (by decide) (by decide) : ZE (zS_or zc81 (zc247)) 563)
noncomputable def zT_Y18 : ECal := zS_or (zS_fa zT_FO) (zT_Z18)
theorem zT_Y18_ok : ZEF zT_FO zT_Y18 563 := (ZEF.or (d3 := 563) ZEF.fa (ZEF.of zT_Z18_ok) (by decide) (by decide))
theorem zT_18_0_0 : zT_F 18 0 (zX zT_Y18 10) zT_w0 (ze_s (2147483648, 2147483648) zT_gx 139) = true := by decide +kernel
theorem zT_18_0_1 : zT_F 18 0 (zX zT_Y18 10) zT_w0 (ze_s (2147483649, 2147483663) zT_gx 139) = true := by decide +kernel
theorem zT_18_0 : zT_go 18 0 (zX zT_Y18 10) zT_w0 = true := show zy_spl (zT_F 18 0 (zX zT_Y18 10) zT_w0) [(139, [2147483648])] zT_gx = true from zy_sp2 (lo := 2147483648) (hi := 2147483663) (by decide +kernel) (zy_s1_c (zT_18_0_0) (zy_s1_n (zT_18_0_1)))
theorem zT_18_1_0 : zT_F 18 0 (zX zT_Y18 10) zT_w1 (ze_s (2147483648, 2147483648) zT_gx 139) = true := by decide +kernel
theorem zT_18_1_1 : zT_F 18 0 (zX zT_Y18 10) zT_w1 (ze_s (2147483649, 2147483663) zT_gx 139) = true := by decide +kernel
theorem zT_18_1 : zT_go 18 0 (zX zT_Y18 10) zT_w1 = true := show zy_spl (zT_F 18 0 (zX zT_Y18 10) zT_w1) [(139, [2147483648])] zT_gx = true from zy_sp2 (lo := 2147483648) (hi := 2147483663) (by decide +kernel) (zy_s1_c (zT_18_1_0) (zy_s1_n (zT_18_1_1)))
theorem zT_ck18 : zT_ok 18 zT_w0 ∧ zT_ok 18 zT_w1 := ⟨⟨zT_Y18, zT_FO, 563, 10, 0, by decide, by decide, by decide, zT_FOs, zT_Y18_ok, zT_18_0⟩, ⟨zT_Y18, zT_FO, 563, 10, 0, by decide, by decide, by decide, zT_FOs, zT_Y18_ok, zT_18_1⟩⟩
noncomputable def zT_Z19 : ECal := zS_or zc145 (zc270)
theorem zT_Z19_ok : ZE zT_Z19 608 := (ZE.or zc145_ok (zc270_ok) (by decide) (by decide) : ZE (zS_or zc145 (zc270)) 608)
noncomputable def zT_Y19 : ECal := zT_Z19
theorem zT_Y19_ok : ZEF [] zT_Y19 608 := (ZEF.of zT_Z19_ok)
theorem zT_19_0 : zT_go 19 0 (zX zT_Y19 10) zT_w0 = true := by decide +kernel
theorem zT_19_1 : zT_go 19 0 (zX zT_Y19 10) zT_w1 = true := by decide +kernel
theorem zT_ck19 : zT_ok 19 zT_w0 ∧ zT_ok 19 zT_w1 := ⟨⟨zT_Y19, [], 608, 10, 0, by decide, by decide, by decide, (fun f h => by cases h), zT_Y19_ok, zT_19_0⟩, ⟨zT_Y19, [], 608, 10, 0, by decide, by decide, by decide, (fun f h => by cases h), zT_Y19_ok, zT_19_1⟩⟩
noncomputable def zT_Z20 : ECal := zS_or zc146 (zc271)
theorem zT_Z20_ok : ZE zT_Z20 599 := (ZE.or zc146_ok (zc271_ok) (by decide) (by decide) : ZE (zS_or zc146 (zc271)) 599)
noncomputable def zT_Y20 : ECal := zT_Z20
theorem zT_Y20_ok : ZEF [] zT_Y20 599 := (ZEF.of zT_Z20_ok)
theorem zT_20_0 : zT_go 20 0 (zX zT_Y20 10) zT_w0 = true := by decide +kernel
theorem zT_20_1 : zT_go 20 0 (zX zT_Y20 10) zT_w1 = true := by decide +kernel
theorem zT_ck20 : zT_ok 20 zT_w0 ∧ zT_ok 20 zT_w1 := ⟨⟨zT_Y20, [], 599, 10, 0, by decide, by decide, by decide, (fun f h => by cases h), zT_Y20_ok, zT_20_0⟩, ⟨zT_Y20, [], 599, 10, 0, by decide, by decide, by decide, (fun f h => by cases h), zT_Y20_ok, zT_20_1⟩⟩
noncomputable def zT_Z21 : ECal := zS_or zc147 (zc272)
theorem zT_Z21_ok : ZE zT_Z21 599 := (ZE.or zc147_ok (zc272_ok) (by decide) (by decide) : ZE (zS_or zc147 (zc272)) 599)
noncomputable def zT_Y21 : ECal := zT_Z21
theorem zT_Y21_ok : ZEF [] zT_Y21 599 := (ZEF.of zT_Z21_ok)
theorem zT_21_0 : zT_go 21 0 (zX zT_Y21 10) zT_w0 = true := by decide +kernel
theorem zT_21_1 : zT_go 21 0 (zX zT_Y21 10) zT_w1 = true := by decide +kernel
theorem zT_ck21 : zT_ok 21 zT_w0 ∧ zT_ok 21 zT_w1 := ⟨⟨zT_Y21, [], 599, 10, 0, by decide, by decide, by decide, (fun f h => by cases h), zT_Y21_ok, zT_21_0⟩, ⟨zT_Y21, [], 599, 10, 0, by decide, by decide, by decide, (fun f h => by cases h), zT_Y21_ok, zT_21_1⟩⟩
noncomputable def zT_Z22 : ECal := zS_or zc148 (zc273)
theorem zT_Z22_ok : ZE zT_Z22 608 := (ZE.or zc148_ok (zc273_ok) (by decide) (by decide) : ZE (zS_or zc148 (zc273)) 608)
noncomputable def zT_Y22 : ECal := zT_Z22
theorem zT_Y22_ok : ZEF [] zT_Y22 608 := (ZEF.of zT_Z22_ok)
theorem zT_22_0 : zT_go 22 0 (zX zT_Y22 10) zT_w0 = true := by decide +kernel
theorem zT_22_1 : zT_go 22 0 (zX zT_Y22 10) zT_w1 = true := by decide +kernel
theorem zT_ck22 : zT_ok 22 zT_w0 ∧ zT_ok 22 zT_w1 := ⟨⟨zT_Y22, [], 608, 10, 0, by decide, by decide, by decide, (fun f h => by cases h), zT_Y22_ok, zT_22_0⟩, ⟨zT_Y22, [], 608, 10, 0, by decide, by decide, by decide, (fun f h => by cases h), zT_Y22_ok, zT_22_1⟩⟩
noncomputable def zT_Z23 : ECal := zS_or zc149 (zc274)
theorem zT_Z23_ok : ZE zT_Z23 608 := (ZE.or zc149_ok (zc274_ok) (by decide) (by decide) : ZE (zS_or zc149 (zc274)) 608)
noncomputable def zT_Y23 : ECal := zT_Z23
theorem zT_Y23_ok : ZEF [] zT_Y23 608 := (ZEF.of zT_Z23_ok)
theorem zT_23_0 : zT_go 23 0 (zX zT_Y23 10) zT_w0 = true := by decide +kernel
theorem zT_23_1 : zT_go 23 0 (zX zT_Y23 10) zT_w1 = true := by decide +kernel
theorem zT_ck23 : zT_ok 23 zT_w0 ∧ zT_ok 23 zT_w1 := ⟨⟨zT_Y23, [], 608, 10, 0, by decide, by decide, by decide, (fun f h => by cases h), zT_Y23_ok, zT_23_0⟩, ⟨zT_Y23, [], 608, 10, 0, by decide, by decide, by decide, (fun f h => by cases h), zT_Y23_ok, zT_23_1⟩⟩
noncomputable def zT_Z24 : ECal := zS_or zc150 (zc276)
theorem zT_Z24_ok : ZE zT_Z24 608 := (ZE.or zc150_ok (zc276_ok) (by decide) (by decide) : ZE (zS_or zc150 (zc276)) 608)
noncomputable def zT_Y24 : ECal := zT_Z24
theorem zT_Y24_ok : ZEF [] zT_Y24 608 := (ZEF.of zT_Z24_ok)
theorem zT_24_0 : zT_go 24 0 (zX zT_Y24 10) zT_w0 = true := by decide +kernel
theorem zT_24_1 : zT_go 24 0 (zX zT_Y24 10) zT_w1 = true := by decide +kernel
theorem zT_ck24 : zT_ok 24 zT_w0 ∧ zT_ok 24 zT_w1 := ⟨⟨zT_Y24, [], 608, 10, 0, by decide, by decide, by decide, (fun f h => by cases h), zT_Y24_ok, zT_24_0⟩, ⟨zT_Y24, [], 608, 10, 0, by decide, by decide, by decide, (fun f h => by cases h), zT_Y24_ok, zT_24_1⟩⟩
noncomputable def zT_Z25 : ECal := zS_or zc151 (zc277)
theorem zT_Z25_ok : ZE zT_Z25 608 := (ZE.or zc151_ok (zc277_ok) (by decide) (by decide) : ZE (zS_or zc151 (zc277)) 608)
noncomputable def zT_Y25 : ECal := zT_Z25
theorem zT_Y25_ok : ZEF [] zT_Y25 608 := (ZEF.of zT_Z25_ok)
theorem zT_25_0 : zT_go 25 0 (zX zT_Y25 10) zT_w0 = true := by decide +kernel
theorem zT_25_1 : zT_go 25 0 (zX zT_Y25 10) zT_w1 = true := by decide +kernel
theorem zT_ck25 : zT_ok 25 zT_w0 ∧ zT_ok 25 zT_w1 := ⟨⟨zT_Y25, [], 608, 10, 0, by decide, by decide, by decide, (fun f h => by cases h), zT_Y25_ok, zT_25_0⟩, ⟨zT_Y25, [], 608, 10, 0, by decide, by decide, by decide, (fun f h => by cases h), zT_Y25_ok, zT_25_1⟩⟩

/-! the cases of the law -/
noncomputable def zT_E28 : ECal := zS_or zc154 (zc283)
theorem zT_E28_ok : ZE zT_E28 626 := (ZE.or zc154_ok (zc283_ok) (by decide) (by decide) : ZE (zS_or zc154 (zc283)) 626)
theorem zT_28_0 : zT_go 28 0 (zX zT_E28 10) zT_w0 = true := by decide +kernel
theorem zT_28_1 : zT_go 28 0 (zX zT_E28 10) zT_w1 = true := by decide +kernel
theorem zT_k28 : zT_ok 28 zT_w0 ∧ zT_ok 28 zT_w1 := ⟨⟨zT_E28, 626, 10, 0, by decide, by decide, by decide, zT_E28_ok, zT_28_0⟩, ⟨zT_E28, 626, 10, 0, by decide, by decide, by decide, zT_E28_ok, zT_28_1⟩⟩
noncomputable def zT_E29 : ECal := zS_or zc155 (zc284)
theorem zT_E29_ok : ZE zT_E29 572 := (ZE.or zc155_ok (zc284_ok) (by decide) (by decide) : ZE (zS_or zc155 (zc284)) 572)
theorem zT_29_0 : zT_go 29 0 (zX zT_E29 10) zT_w0 = true := by decide +kernel
theorem zT_29_1 : zT_go 29 0 (zX zT_E29 10) zT_w1 = true := by decide +kernel
theorem zT_k29 : zT_ok 29 zT_w0 ∧ zT_ok 29 zT_w1 := ⟨⟨zT_E29, 572, 10, 0, by decide, by decide, by decide, zT_E29_ok, zT_29_0⟩, ⟨zT_E29, 572, 10, 0, by decide, by decide, by decide, zT_E29_ok, zT_29_1⟩⟩
noncomputable def zT_E30 : ECal := zS_or zc156 (zc285)
theorem zT_E30_ok : ZE zT_E30 635 := (ZE.or zc156_ok (zc285_ok) (by decide) (by decide) : ZE (zS_or zc156 (zc285)) 635)
theorem zT_30_0 : zT_go 30 0 (zX zT_E30 10) zT_w0 = true := by decide +kernel
theorem zT_30_1 : zT_go 30 0 (zX zT_E30 10) zT_w1 = true := by decide +kernel
theorem zT_k30 : zT_ok 30 zT_w0 ∧ zT_ok 30 zT_w1 := ⟨⟨zT_E30, 635, 10, 0, by decide, by decide, by decide, zT_E30_ok, zT_30_0⟩, ⟨zT_E30, 635, 10, 0, by decide, by decide, by decide, zT_E30_ok, zT_30_1⟩⟩
noncomputable def zT_E31 : ECal := zS_or zc157 (zc287)
theorem zT_E31_ok : ZE zT_E31 599 := (ZE.or zc157_ok (zc287_ok) (by decide) (by decide) : ZE (zS_or zc157 (zc287)) 599)
theorem zT_31_0 : zT_go 31 0 (zX zT_E31 10) zT_w0 = true := by decide +kernel
theorem zT_31_1 : zT_go 31 0 (zX zT_E31 10) zT_w1 = true := by decide +kernel
theorem zT_k31 : zT_ok 31 zT_w0 ∧ zT_ok 31 zT_w1 := ⟨⟨zT_E31, 599, 10, 0, by decide, by decide, by decide, zT_E31_ok, zT_31_0⟩, ⟨zT_E31, 599, 10, 0, by decide, by decide, by decide, zT_E31_ok, zT_31_1⟩⟩
noncomputable def zT_E32 : ECal := zS_or zc158 (zc288)
theorem zT_E32_ok : ZE zT_E32 599 := (ZE.or zc158_ok (zc288_ok) (by decide) (by decide) : ZE (zS_or zc158 (zc288)) 599)
theorem zT_32_0 : zT_go 32 0 (zX zT_E32 10) zT_w0 = true := by decide +kernel
theorem zT_32_1 : zT_go 32 0 (zX zT_E32 10) zT_w1 = true := by decide +kernel
theorem zT_k32 : zT_ok 32 zT_w0 ∧ zT_ok 32 zT_w1 := ⟨⟨zT_E32, 599, 10, 0, by decide, by decide, by decide, zT_E32_ok, zT_32_0⟩, ⟨zT_E32, 599, 10, 0, by decide, by decide, by decide, zT_E32_ok, zT_32_1⟩⟩
noncomputable def zT_E33 : ECal := zS_or zc159 (zc289)
theorem zT_E33_ok : ZE zT_E33 563 := (ZE.or zc159_ok (zc289_ok) (by decide) (by decide) : ZE (zS_or zc159 (zc289)) 563)
theorem zT_33_0 : zT_go 33 0 (zX zT_E33 10) zT_w0 = true := by decide +kernel
theorem zT_33_1 : zT_go 33 0 (zX zT_E33 10) zT_w1 = true := by decide +kernel
theorem zT_k33 : zT_ok 33 zT_w0 ∧ zT_ok 33 zT_w1 := ⟨⟨zT_E33, 563, 10, 0, by decide, by decide, by decide, zT_E33_ok, zT_33_0⟩, ⟨zT_E33, 563, 10, 0, by decide, by decide, by decide, zT_E33_ok, zT_33_1⟩⟩
noncomputable def zT_E34 : ECal := zS_or zc160 (zc290)
theorem zT_E34_ok : ZE zT_E34 563 := (ZE.or zc160_ok (zc290_ok) (by decide) (by decide) : ZE (zS_or zc160 (zc290)) 563)
theorem zT_34_0 : zT_go 34 0 (zX zT_E34 10) zT_w0 = true := by decide +kernel
theorem zT_34_1 : zT_go 34 0 (zX zT_E34 10) zT_w1 = true := by decide +kernel
theorem zT_k34 : zT_ok 34 zT_w0 ∧ zT_ok 34 zT_w1 := ⟨⟨zT_E34, 563, 10, 0, by decide, by decide, by decide, zT_E34_ok, zT_34_0⟩, ⟨zT_E34, 563, 10, 0, by decide, by decide, by decide, zT_E34_ok, zT_34_1⟩⟩
noncomputable def zT_E35 : ECal := zS_or zc161 (zc292)
theorem zT_E35_ok : ZE zT_E35 599 := (ZE.or zc161_ok (zc292_ok) (by decide) (by decide) : ZE (zS_or zc161 (zc292)) 599)
theorem zT_35_0 : zT_go 35 0 (zX zT_E35 10) zT_w0 = true := by decide +kernel
theorem zT_35_1 : zT_go 35 0 (zX zT_E35 10) zT_w1 = true := by decide +kernel
theorem zT_k35 : zT_ok 35 zT_w0 ∧ zT_ok 35 zT_w1 := ⟨⟨zT_E35, 599, 10, 0, by decide, by decide, by decide, zT_E35_ok, zT_35_0⟩, ⟨zT_E35, 599, 10, 0, by decide, by decide, by decide, zT_E35_ok, zT_35_1⟩⟩
noncomputable def zT_E36 : ECal := zS_or zc162 (zc293)
theorem zT_E36_ok : ZE zT_E36 599 := (ZE.or zc162_ok (zc293_ok) (by decide) (by decide) : ZE (zS_or zc162 (zc293)) 599)
theorem zT_36_0 : zT_go 36 0 (zX zT_E36 10) zT_w0 = true := by decide +kernel
theorem zT_36_1 : zT_go 36 0 (zX zT_E36 10) zT_w1 = true := by decide +kernel
theorem zT_k36 : zT_ok 36 zT_w0 ∧ zT_ok 36 zT_w1 := ⟨⟨zT_E36, 599, 10, 0, by decide, by decide, by decide, zT_E36_ok, zT_36_0⟩, ⟨zT_E36, 599, 10, 0, by decide, by decide, by decide, zT_E36_ok, zT_36_1⟩⟩
noncomputable def zT_E37 : ECal := zS_or zc163 (zc295)
theorem zT_E37_ok : ZE zT_E37 563 := (ZE.or zc163_ok (zc295_ok) (by decide) (by decide) : ZE (zS_or zc163 (zc295)) 563)
theorem zT_37_0 : zT_go 37 0 (zX zT_E37 10) zT_w0 = true := by decide +kernel
theorem zT_37_1 : zT_go 37 0 (zX zT_E37 10) zT_w1 = true := by decide +kernel
theorem zT_k37 : zT_ok 37 zT_w0 ∧ zT_ok 37 zT_w1 := ⟨⟨zT_E37, 563, 10, 0, by decide, by decide, by decide, zT_E37_ok, zT_37_0⟩, ⟨zT_E37, 563, 10, 0, by decide, by decide, by decide, zT_E37_ok, zT_37_1⟩⟩
noncomputable def zT_E38 : ECal := zS_or zc164 (zc296)
theorem zT_E38_ok : ZE zT_E38 563 := (ZE.or zc164_ok (zc296_ok) (by decide) (by decide) : ZE (zS_or zc164 (zc296)) 563)
theorem zT_38_0 : zT_go 38 0 (zX zT_E38 10) zT_w0 = true := by decide +kernel
theorem zT_38_1 : zT_go 38 0 (zX zT_E38 10) zT_w1 = true := by decide +kernel
theorem zT_k38 : zT_ok 38 zT_w0 ∧ zT_ok 38 zT_w1 := ⟨⟨zT_E38, 563, 10, 0, by decide, by decide, by decide, zT_E38_ok, zT_38_0⟩, ⟨zT_E38, 563, 10, 0, by decide, by decide, by decide, zT_E38_ok, zT_38_1⟩⟩
noncomputable def zT_E39 : ECal := zS_or zc165 (zc299)
theorem zT_E39_ok : ZE zT_E39 590 := (ZE.or zc165_ok (zc299_ok) (by decide) (by decide) : ZE (zS_or zc165 (zc299)) 590)
theorem zT_39_0 : zT_go 39 0 (zX zT_E39 10) zT_w0 = true := by decide +kernel
theorem zT_39_1 : zT_go 39 0 (zX zT_E39 10) zT_w1 = true := by decide +kernel
theorem zT_k39 : zT_ok 39 zT_w0 ∧ zT_ok 39 zT_w1 := ⟨⟨zT_E39, 590, 10, 0, by decide, by decide, by decide, zT_E39_ok, zT_39_0⟩, ⟨zT_E39, 590, 10, 0, by decide, by decide, by decide, zT_E39_ok, zT_39_1⟩⟩
noncomputable def zT_E40 : ECal := zS_or zc166 (zc300)
theorem zT_E40_ok : ZE zT_E40 590 := (ZE.or zc166_ok (zc300_ok) (by decide) (by decide) : ZE (zS_or zc166 (zc300)) 590)
theorem zT_40_0 : zT_go 40 0 (zX zT_E40 10) zT_w0 = true := by decide +kernel
theorem zT_40_1 : zT_go 40 0 (zX zT_E40 10) zT_w1 = true := by decide +kernel
theorem zT_k40 : zT_ok 40 zT_w0 ∧ zT_ok 40 zT_w1 := ⟨⟨zT_E40, 590, 10, 0, by decide, by decide, by decide, zT_E40_ok, zT_40_0⟩, ⟨zT_E40, 590, 10, 0, by decide, by decide, by decide, zT_E40_ok, zT_40_1⟩⟩
noncomputable def zT_E41 : ECal := zS_or zc167 (zc301)
theorem zT_E41_ok : ZE zT_E41 572 := (ZE.or zc167_ok (zc301_ok) (by decide) (by decide) : ZE (zS_or zc167 (zc301)) 572)
theorem zT_41_0 : zT_go 41 0 (zX zT_E41 10) zT_w0 = true := by decide +kernel
theorem zT_41_1 : zT_go 41 0 (zX zT_E41 10) zT_w1 = true := by decide +kernel
theorem zT_k41 : zT_ok 41 zT_w0 ∧ zT_ok 41 zT_w1 := ⟨⟨zT_E41, 572, 10, 0, by decide, by decide, by decide, zT_E41_ok, zT_41_0⟩, ⟨zT_E41, 572, 10, 0, by decide, by decide, by decide, zT_E41_ok, zT_41_1⟩⟩

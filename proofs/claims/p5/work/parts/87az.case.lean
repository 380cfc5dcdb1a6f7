/-! the cases of the law -/
noncomputable def zT_Z26 : ECal := zS_or zc152 (zc278)
theorem zT_Z26_ok : ZE zT_Z26 563 := (ZE.or zc152_ok (zc278_ok) (by decide) (by decide) : ZE (zS_or zc152 (zc278)) 563)
noncomputable def zT_Y26 : ECal := zT_Z26
theorem zT_Y26_ok : ZEF [] zT_Y26 563 := (ZEF.of zT_Z26_ok)
theorem zT_26_0 : zT_go 26 0 (zX zT_Y26 10) zT_w0 = true := by decide +kernel
theorem zT_26_1 : zT_go 26 0 (zX zT_Y26 10) zT_w1 = true := by decide +kernel
theorem zT_ck26 : zT_ok 26 zT_w0 ∧ zT_ok 26 zT_w1 := ⟨⟨zT_Y26, [], 563, 10, 0, by decide, by decide, by decide, (fun f h => by cases h), zT_Y26_ok, zT_26_0⟩, ⟨zT_Y26, [], 563, 10, 0, by decide, by decide, by decide, (fun f h => by cases h), zT_Y26_ok, zT_26_1⟩⟩
noncomputable def zT_Z27 : ECal := zS_or zc153 (zc281)
theorem zT_Z27_ok : ZE zT_Z27 590 := (ZE.or zc153_ok (zc281_ok) (by decide) (by decide) : ZE (zS_or zc153 (zc281)) 590)
noncomputable def zT_Y27 : ECal := zT_Z27
theorem zT_Y27_ok : ZEF [] zT_Y27 590 := (ZEF.of zT_Z27_ok)
theorem zT_27_0 : zT_go 27 0 (zX zT_Y27 10) zT_w0 = true := by decide +kernel
theorem zT_27_1 : zT_go 27 0 (zX zT_Y27 10) zT_w1 = true := by decide +kernel
theorem zT_ck27 : zT_ok 27 zT_w0 ∧ zT_ok 27 zT_w1 := ⟨⟨zT_Y27, [], 590, 10, 0, by decide, by decide, by decide, (fun f h => by cases h), zT_Y27_ok, zT_27_0⟩, ⟨zT_Y27, [], 590, 10, 0, by decide, by decide, by decide, (fun f h => by cases h), zT_Y27_ok, zT_27_1⟩⟩
noncomputable def zT_Z28 : ECal := zS_or zc154 (zc283)
theorem zT_Z28_ok : ZE zT_Z28 626 := (ZE.or zc154_ok (zc283_ok) (by decide) (by decide) : ZE (zS_or zc154 (zc283)) 626)
noncomputable def zT_Y28 : ECal := zT_Z28
theorem zT_Y28_ok : ZEF [] zT_Y28 626 := (ZEF.of zT_Z28_ok)
theorem zT_28_0 : zT_go 28 0 (zX zT_Y28 10) zT_w0 = true := by decide +kernel
theorem zT_28_1 : zT_go 28 0 (zX zT_Y28 10) zT_w1 = true := by decide +kernel
theorem zT_ck28 : zT_ok 28 zT_w0 ∧ zT_ok 28 zT_w1 := ⟨⟨zT_Y28, [], 626, 10, 0, by decide, by decide, by decide, (fun f h => by cases h), zT_Y28_ok, zT_28_0⟩, ⟨zT_Y28, [], 626, 10, 0, by decide, by decide, by decide, (fun f h => by cases h), zT_Y28_ok, zT_28_1⟩⟩
noncomputable def zT_Z29 : ECal := zS_or zc155 (zc284)
theorem zT_Z29_ok : ZE zT_Z29 572 := (ZE.or zc155_ok (zc284_ok) (by decide) (by decide) : ZE (zS_or zc155 (zc284)) 572)
noncomputable def zT_Y29 : ECal := zT_Z29
theorem zT_Y29_ok : ZEF [] zT_Y29 572 := (ZEF.of zT_Z29_ok)
theorem zT_29_0 : zT_go 29 0 (zX zT_Y29 10) zT_w0 = true := by decide +kernel
theorem zT_29_1 : zT_go 29 0 (zX zT_Y29 10) zT_w1 = true := by decide +kernel
theorem zT_ck29 : zT_ok 29 zT_w0 ∧ zT_ok 29 zT_w1 := ⟨⟨zT_Y29, [], 572, 10, 0, by decide, by decide, by decide, (fun f h => by cases h), zT_Y29_ok, zT_29_0⟩, ⟨zT_Y29, [], 572, 10, 0, by decide, by decide, by decide, (fun f h => by cases h), zT_Y29_ok, zT_29_1⟩⟩
noncomputable def zT_Z30 : ECal := zS_or zc156 (zc285)
theorem zT_Z30_ok : ZE zT_Z30 635 := (ZE.or zc156_ok (zc285_ok) (by decide) (by decide) : ZE (zS_or zc156 (zc285)) 635)
noncomputable def zT_Y30 : ECal := zT_Z30
theorem zT_Y30_ok : ZEF [] zT_Y30 635 := (ZEF.of zT_Z30_ok)
theorem zT_30_0 : zT_go 30 0 (zX zT_Y30 10) zT_w0 = true := by decide +kernel
theorem zT_30_1 : zT_go 30 0 (zX zT_Y30 10) zT_w1 = true := by decide +kernel
theorem zT_ck30 : zT_ok 30 zT_w0 ∧ zT_ok 30 zT_w1 := ⟨⟨zT_Y30, [], 635, 10, 0, by decide, by decide, by decide, (fun f h => by cases h), zT_Y30_ok, zT_30_0⟩, ⟨zT_Y30, [], 635, 10, 0, by decide, by decide, by decide, (fun f h => by cases h), zT_Y30_ok, zT_30_1⟩⟩
noncomputable def zT_Z31 : ECal := zS_or zc157 (zc287)
theorem zT_Z31_ok : ZE zT_Z31 599 := (ZE.or zc157_ok (zc287_ok) (by decide) (by decide) : ZE (zS_or zc157 (zc287)) 599)
noncomputable def zT_Y31 : ECal := zT_Z31
theorem zT_Y31_ok : ZEF [] zT_Y31 599 := (ZEF.of zT_Z31_ok)
theorem zT_31_0 : zT_go 31 0 (zX zT_Y31 10) zT_w0 = true := by decide +kernel
theorem zT_31_1 : zT_go 31 0 (zX zT_Y31 10) zT_w1 = true := by decide +kernel
theorem zT_ck31 : zT_ok 31 zT_w0 ∧ zT_ok 31 zT_w1 := ⟨⟨zT_Y31, [], 599, 10, 0, by decide, by decide, by decide, (fun f h => by cases h), zT_Y31_ok, zT_31_0⟩, ⟨zT_Y31, [], 599, 10, 0, by decide, by decide, by decide, (fun f h => by cases h), zT_Y31_ok, zT_31_1⟩⟩
noncomputable def zT_Z32 : ECal := zS_or zc158 (zc288)
theorem zT_Z32_ok : ZE zT_Z32 599 := (ZE.or zc158_ok (zc288_ok) (by decide) (by decide) : ZE (zS_or zc158 (zc288)) 599)
noncomputable def zT_Y32 : ECal := zT_Z32
theorem zT_Y32_ok : ZEF [] zT_Y32 599 := (ZEF.of zT_Z32_ok)
theorem zT_32_0 : zT_go 32 0 (zX zT_Y32 10) zT_w0 = true := by decide +kernel
theorem zT_32_1 : zT_go 32 0 (zX zT_Y32 10) zT_w1 = true := by decide +kernel
theorem zT_ck32 : zT_ok 32 zT_w0 ∧ zT_ok 32 zT_w1 := ⟨⟨zT_Y32, [], 599, 10, 0, by decide, by decide, by decide, (fun f h => by cases h), zT_Y32_ok, zT_32_0⟩, ⟨zT_Y32, [], 599, 10, 0, by decide, by decide, by decide, (fun f h => by cases h), zT_Y32_ok, zT_32_1⟩⟩
noncomputable def zT_Z33 : ECal := zS_or zc159 (zc289)
theorem zT_Z33_ok : ZE zT_Z33 563 := (ZE.or zc159_ok (zc289_ok) (by decide) (by decide) : ZE (zS_or zc159 (zc289)) 563)
noncomputable def zT_Y33 : ECal := zT_Z33
theorem zT_Y33_ok : ZEF [] zT_Y33 563 := (ZEF.of zT_Z33_ok)
theorem zT_33_0 : zT_go 33 0 (zX zT_Y33 10) zT_w0 = true := by decide +kernel
theorem zT_33_1 : zT_go 33 0 (zX zT_Y33 10) zT_w1 = true := by decide +kernel
theorem zT_ck33 : zT_ok 33 zT_w0 ∧ zT_ok 33 zT_w1 := ⟨⟨zT_Y33, [], 563, 10, 0, by decide, by decide, by decide, (fun f h => by cases h), zT_Y33_ok, zT_33_0⟩, ⟨zT_Y33, [], 563, 10, 0, by decide, by decide, by decide, (fun f h => by cases h), zT_Y33_ok, zT_33_1⟩⟩
noncomputable def zT_Z34 : ECal := zS_or zc160 (zc290)
theorem zT_Z34_ok : ZE zT_Z34 563 := (ZE.or zc160_ok (zc290_ok) (by decide) (by decide) : ZE (zS_or zc160 (zc290)) 563)
noncomputable def zT_Y34 : ECal := zT_Z34
theorem zT_Y34_ok : ZEF [] zT_Y34 563 := (ZEF.of zT_Z34_ok)
theorem zT_34_0 : zT_go 34 0 (zX zT_Y34 10) zT_w0 = true := by decide +kernel
theorem zT_34_1 : zT_go 34 0 (zX zT_Y34 10) zT_w1 = true := by decide +kernel
theorem zT_ck34 : zT_ok 34 zT_w0 ∧ zT_ok 34 zT_w1 := ⟨⟨zT_Y34, [], 563, 10, 0, by decide, by decide, by decide, (fun f h => by cases h), zT_Y34_ok, zT_34_0⟩, ⟨zT_Y34, [], 563, 10, 0, by decide, by decide, by decide, (fun f h => by cases h), zT_Y34_ok, zT_34_1⟩⟩
noncomputable def zT_Z35 : ECal := zS_or zc161 (zc292)
theorem zT_Z35_ok : ZE zT_Z35 599 := (ZE.or zc161_ok (zc292_ok) (by decide) (by decide) : ZE (zS_or zc161 (zc292)) 599)
noncomputable def zT_Y35 : ECal := zT_Z35
theorem zT_Y35_ok : ZEF [] zT_Y35 599 := (ZEF.of zT_Z35_ok)
theorem zT_35_0 : zT_go 35 0 (zX zT_Y35 10) zT_w0 = true := by decide +kernel
theorem zT_35_1 : zT_go 35 0 (zX zT_Y35 10) zT_w1 = true := by decide +kernel
theorem zT_ck35 : zT_ok 35 zT_w0 ∧ zT_ok 35 zT_w1 := ⟨⟨zT_Y35, [], 599, 10, 0, by decide, by decide, by decide, (fun f h => by cases h), zT_Y35_ok, zT_35_0⟩, ⟨zT_Y35, [], 599, 10, 0, by decide, by decide, by decide, (fun f h => by cases h), zT_Y35_ok, zT_35_1⟩⟩

/-! the cases of the law -/
theorem zT_31_1 : zT_go 31 0 (zX zT_Y31 10) zT_w1 = true := by decide +kernel
theorem zT_ck31 : zT_ok 31 zT_w0 ∧ zT_ok 31 zT_w1 := ⟨⟨zT_Y31, [], 599, 10, 0, by decide, by decide, by decide, (fun f h => by cases h), zT_Y31_ok, zT_31_0⟩, ⟨zT_Y31, [], 599, 10, 0, by decide, by decide, by decide, (fun f h => by cases h), zT_Y31_ok, zT_31_1⟩⟩
noncomputable def zT_Z32 : ECal := zS_or zc158 (zc288)
theorem zT_Z32_ok : ZE zT_Z32 599 := (ZE.or zc158_ok (zc288_ok) (by decide) (by decide) : ZE (zS_or zc158 (zc288)) 599)
noncomputable def zT_Y32 : ECal := zT_Z32
theorem zT_Y32_ok : ZEF [] zT_Y32 599 := (ZEF.of zT_Z32_ok)
theorem zT_32_0 : zT_go 32 0 (zX zT_Y32 10) zT_w0 = true := by decide +kernel
theorem zT_32_1 : zT_go 32 0 (zX zT_Y32 10) zT_w1 = true := by decide +kernel
theorem zT_ck32 : zT_ok 32 zT_w0 ∧ zT_ok 32 zT_w1 := ⟨⟨zT_Y32, [], 599, 10, 0, by decide, by decide, by decide, (fun f h => by cases h), zT_Y32_ok, zT_32_0⟩, ⟨zT_Y32, [], 599, 10, 0, by decide, by decide, by decide, (fun f h => by cases h), zT_Y32_ok, zT_32_1⟩⟩
noncomputable def zT_Z33 : ECal := zS_or zc159 (zc289)
theorem zT_Z33_ok : ZE zT_Z33 563 := (ZE.or zc159_ok (zc289_ok) (by decide) (by decide) : ZE (zS_or zc159 (zc289)) 563)
noncomputable def zT_Y33 : ECal := zT_Z33
theorem zT_Y33_ok : ZEF [] zT_Y33 563 := (ZEF.of zT_Z33_ok)
theorem zT_33_0 : zT_go 33 0 (zX zT_Y33 10) zT_w0 = true := by decide +kernel
theorem zT_33_1 : zT_go 33 0 (zX zT_Y33 10) zT_w1 = true := by decide +kernel
theorem zT_ck33 : zT_ok 33 zT_w0 ∧ zT_ok 33 zT_w1 := ⟨⟨zT_Y33, [], 563, 10, 0, by decide, by decide, by decide, (fun f h => by cases h), zT_Y33_ok, zT_33_0⟩, ⟨zT_Y33, [], 563, 10, 0, by decide, by decide, by decide, (fun f h => by cases h), zT_Y33_ok, zT_33_1⟩⟩
noncomputable def zT_Z34 : ECal := zS_or zc160 (zc290)
theorem zT_Z34_ok : ZE zT_Z34 563 := (ZE.or zc160_ok (zc290_ok) (by decide) (by decide) : ZE (zS_or zc160 (zc290)) 563)
noncomputable def zT_Y34 : ECal := zT_Z34
theorem zT_Y34_ok : ZEF [] zT_Y34 563 := (ZEF.of zT_Z34_ok)
theorem zT_34_0 : zT_go 34 0 (zX zT_Y34 10) zT_w0 = true := by decide +kernel
theorem zT_34_1 : zT_go 34 0 (zX zT_Y34 10) zT_w1 = true := by decide +kernel
theorem zT_ck34 : zT_ok 34 zT_w0 ∧ zT_ok 34 zT_w1 := ⟨⟨zT_Y34, [], 563, 10, 0, by decide, by decide, by decide, (fun f h => by cases h), zT_Y34_ok, zT_34_0⟩, ⟨zT_Y34, [], 563, 10, 0, by decide, by decide, by decide, (fun f h => by cases h), zT_Y34_ok, zT_34_1⟩⟩

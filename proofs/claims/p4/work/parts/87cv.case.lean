/-! the cases of the law -/
theorem zT_31_1 : zT_go 31 0 (zX zT_E31 10) zT_w1 = true := by decide +kernel
theorem zT_k31 : zT_ok 31 zT_w0 ∧ zT_ok 31 zT_w1 := ⟨⟨zT_E31, [], 599, 10, 0, by decide, by decide, by decide, (fun f h => by cases h), zT_E31_ok, zT_31_0⟩, ⟨zT_E31, [], 599, 10, 0, by decide, by decide, by decide, (fun f h => by cases h), zT_E31_ok, zT_31_1⟩⟩
noncomputable def zT_B32 : ECal := zS_or zc158 (zc288)
theorem zT_B32_ok : ZE zT_B32 599 := (ZE.or zc158_ok (zc288_ok) (by decide) (by decide) : ZE (zS_or zc158 (zc288)) 599)
noncomputable def zT_E32 : ECal := zT_B32
theorem zT_E32_ok : ZEF [] zT_E32 599 := (ZEF.of zT_B32_ok)
theorem zT_32_0 : zT_go 32 0 (zX zT_E32 10) zT_w0 = true := by decide +kernel
theorem zT_32_1 : zT_go 32 0 (zX zT_E32 10) zT_w1 = true := by decide +kernel
theorem zT_k32 : zT_ok 32 zT_w0 ∧ zT_ok 32 zT_w1 := ⟨⟨zT_E32, [], 599, 10, 0, by decide, by decide, by decide, (fun f h => by cases h), zT_E32_ok, zT_32_0⟩, ⟨zT_E32, [], 599, 10, 0, by decide, by decide, by decide, (fun f h => by cases h), zT_E32_ok, zT_32_1⟩⟩
noncomputable def zT_B33 : ECal := zS_or zc159 (zc289)
theorem zT_B33_ok : ZE zT_B33 563 := (ZE.or zc159_ok (zc289_ok) (by decide) (by decide) : ZE (zS_or zc159 (zc289)) 563)
noncomputable def zT_E33 : ECal := zT_B33
theorem zT_E33_ok : ZEF [] zT_E33 563 := (ZEF.of zT_B33_ok)
theorem zT_33_0 : zT_go 33 0 (zX zT_E33 10) zT_w0 = true := by decide +kernel
theorem zT_33_1 : zT_go 33 0 (zX zT_E33 10) zT_w1 = true := by decide +kernel
theorem zT_k33 : zT_ok 33 zT_w0 ∧ zT_ok 33 zT_w1 := ⟨⟨zT_E33, [], 563, 10, 0, by decide, by decide, by decide, (fun f h => by cases h), zT_E33_ok, zT_33_0⟩, ⟨zT_E33, [], 563, 10, 0, by decide, by decide, by decide, (fun f h => by cases h), zT_E33_ok, zT_33_1⟩⟩
noncomputable def zT_B34 : ECal := zS_or zc160 (zc290)
theorem zT_B34_ok : ZE zT_B34 563 := (ZE.or zc160_ok (zc290_ok) (by decide) (by decide) : ZE (zS_or zc160 (zc290)) 563)
noncomputable def zT_E34 : ECal := zT_B34
theorem zT_E34_ok : ZEF [] zT_E34 563 := (ZEF.of zT_B34_ok)
theorem zT_34_0 : zT_go 34 0 (zX zT_E34 10) zT_w0 = true := by decide +kernel
theorem zT_34_1 : zT_go 34 0 (zX zT_E34 10) zT_w1 = true := by decide +kernel
theorem zT_k34 : zT_ok 34 zT_w0 ∧ zT_ok 34 zT_w1 := ⟨⟨zT_E34, [], 563, 10, 0, by decide, by decide, by decide, (fun f h => by cases h), zT_E34_ok, zT_34_0⟩, ⟨zT_E34, [], 563, 10, 0, by decide, by decide, by decide, (fun f h => by cases h), zT_E34_ok, zT_34_1⟩⟩

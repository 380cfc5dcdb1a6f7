/-! the cases of the law -/
noncomputable def zT_B35 : ECal := zS_or zc161 (zc292)
theorem zT_B35_ok : ZE zT_B35 599 := (ZE.or zc161_ok (zc292_ok) (by decide) (by decide) : ZE (zS_or zc161 (zc292)) 599)
noncomputable def zT_E35 : ECal := zT_B35
theorem zT_E35_ok : ZEF [] zT_E35 599 := (ZEF.of zT_B35_ok)
theorem zT_35_0 : zT_go 35 0 (zX zT_E35 10) zT_w0 = true := by decide +kernel
theorem zT_35_1 : zT_go 35 0 (zX zT_E35 10) zT_w1 = true := by decide +kernel
theorem zT_k35 : zT_ok 35 zT_w0 ∧ zT_ok 35 zT_w1 := ⟨⟨zT_E35, [], 599, 10, 0, by decide, by decide, by decide, (fun f h => by cases h), zT_E35_ok, zT_35_0⟩, ⟨zT_E35, [], 599, 10, 0, by decide, by decide, by decide, (fun f h => by cases h), zT_E35_ok, zT_35_1⟩⟩
noncomputable def zT_B36 : ECal := zS_or zc162 (zc293)
theorem zT_B36_ok : ZE zT_B36 599 := (ZE.or zc162_ok (zc293_ok) (by decide) (by decide) : ZE (zS_or zc162 (zc293)) 599)
noncomputable def zT_E36 : ECal := zT_B36
theorem zT_E36_ok : ZEF [] zT_E36 599 := (ZEF.of zT_B36_ok)
theorem zT_36_0 : zT_go 36 0 (zX zT_E36 10) zT_w0 = true := by decide +kernel
theorem zT_36_1 : zT_go 36 0 (zX zT_E36 10) zT_w1 = true := by decide +kernel
theorem zT_k36 : zT_ok 36 zT_w0 ∧ zT_ok 36 zT_w1 := ⟨⟨zT_E36, [], 599, 10, 0, by decide, by decide, by decide, (fun f h => by cases h), zT_E36_ok, zT_36_0⟩, ⟨zT_E36, [], 599, 10, 0, by decide, by decide, by decide, (fun f h => by cases h), zT_E36_ok, zT_36_1⟩⟩
noncomputable def zT_B37 : ECal := zS_or zc163 (zc295)
theorem zT_B37_ok : ZE zT_B37 563 := (ZE.or zc163_ok (zc295_ok) (by decide) (by decide) : ZE (zS_or zc163 (zc295)) 563)
noncomputable def zT_E37 : ECal := zT_B37
theorem zT_E37_ok : ZEF [] zT_E37 563 := (ZEF.of zT_B37_ok)
theorem zT_37_0 : zT_go 37 0 (zX zT_E37 10) zT_w0 = true := by decide +kernel
theorem zT_37_1 : zT_go 37 0 (zX zT_E37 10) zT_w1 = true := by decide +kernel
theorem zT_k37 : zT_ok 37 zT_w0 ∧ zT_ok 37 zT_w1 := ⟨⟨zT_E37, [], 563, 10, 0, by decide, by decide, by decide, (fun f h => by cases h), zT_E37_ok, zT_37_0⟩, ⟨zT_E37, [], 563, 10, 0, by decide, by decide, by decide, (fun f h => by cases h), zT_E37_ok, zT_37_1⟩⟩
noncomputable def zT_B38 : ECal := zS_or zc164 (zc296)
theorem zT_B38_ok : ZE zT_B38 563 := (ZE.or zc164_ok (zc296_ok) (by decide) (by decide) : ZE (zS_or zc164 (zc296)) 563)
noncomputable def zT_E38 : ECal := zT_B38
theorem zT_E38_ok : ZEF [] zT_E38 563 := (ZEF.of zT_B38_ok)
theorem zT_38_0 : zT_go 38 0 (zX zT_E38 10) zT_w0 = true := by decide +kernel

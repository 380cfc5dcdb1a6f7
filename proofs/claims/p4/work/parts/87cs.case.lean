/-! the cases of the law -/
noncomputable def zT_B21 : ECal := zS_or zc147 (zc272)
theorem zT_B21_ok : ZE zT_B21 599 := (ZE.or zc147_ok (zc272_ok) (by decide) (by decide) : ZE (zS_or zc147 (zc272)) 599)
noncomputable def zT_E21 : ECal := zT_B21
theorem zT_E21_ok : ZEF [] zT_E21 599 := (ZEF.of zT_B21_ok)
theorem zT_21_0 : zT_go 21 0 (zX zT_E21 10) zT_w0 = true := by decide +kernel
theorem zT_21_1 : zT_go 21 0 (zX zT_E21 10) zT_w1 = true := by decide +kernel
theorem zT_k21 : zT_ok 21 zT_w0 ∧ zT_ok 21 zT_w1 := ⟨⟨zT_E21, [], 599, 10, 0, by decide, by decide, by decide, (fun f h => by cases h), zT_E21_ok, zT_21_0⟩, ⟨zT_E21, [], 599, 10, 0, by decide, by decide, by decide, (fun f h => by cases h), zT_E21_ok, zT_21_1⟩⟩
noncomputable def zT_B22 : ECal := zS_or zc148 (zc273)
theorem zT_B22_ok : ZE zT_B22 608 := (ZE.or zc148_ok (zc273_ok) (by decide) (by decide) : ZE (zS_or zc148 (zc273)) 608)
noncomputable def zT_E22 : ECal := zT_B22
theorem zT_E22_ok : ZEF [] zT_E22 608 := (ZEF.of zT_B22_ok)
theorem zT_22_0 : zT_go 22 0 (zX zT_E22 10) zT_w0 = true := by decide +kernel
theorem zT_22_1 : zT_go 22 0 (zX zT_E22 10) zT_w1 = true := by decide +kernel
theorem zT_k22 : zT_ok 22 zT_w0 ∧ zT_ok 22 zT_w1 := ⟨⟨zT_E22, [], 608, 10, 0, by decide, by decide, by decide, (fun f h => by cases h), zT_E22_ok, zT_22_0⟩, ⟨zT_E22, [], 608, 10, 0, by decide, by decide, by decide, (fun f h => by cases h), zT_E22_ok, zT_22_1⟩⟩
noncomputable def zT_B23 : ECal := zS_or zc149 (zc274)
theorem zT_B23_ok : ZE zT_B23 608 := (ZE.or zc149_ok (zc274_ok) (by decide) (by decide) : ZE (zS_or zc149 (zc274)) 608)
noncomputable def zT_E23 : ECal := zT_B23
theorem zT_E23_ok : ZEF [] zT_E23 608 := (ZEF.of zT_B23_ok)
theorem zT_23_0 : zT_go 23 0 (zX zT_E23 10) zT_w0 = true := by decide +kernel
theorem zT_23_1 : zT_go 23 0 (zX zT_E23 10) zT_w1 = true := by decide +kernel
theorem zT_k23 : zT_ok 23 zT_w0 ∧ zT_ok 23 zT_w1 := ⟨⟨zT_E23, [], 608, 10, 0, by decide, by decide, by decide, (fun f h => by cases h), zT_E23_ok, zT_23_0⟩, ⟨zT_E23, [], 608, 10, 0, by decide, by decide, by decide, (fun f h => by cases h), zT_E23_ok, zT_23_1⟩⟩
noncomputable def zT_B24 : ECal := zS_or zc150 (zc276)
theorem zT_B24_ok : ZE zT_B24 608 := (ZE.or zc150_ok (zc276_ok) (by decide) (by decide) : ZE (zS_or zc150 (zc276)) 608)
noncomputable def zT_E24 : ECal := zT_B24
theorem zT_E24_ok : ZEF [] zT_E24 608 := (ZEF.of zT_B24_ok)
theorem zT_24_0 : zT_go 24 0 (zX zT_E24 10) zT_w0 = true := by decide +kernel

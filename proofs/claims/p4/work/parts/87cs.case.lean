/-! the cases of the law -/
noncomputable def zT_Z21 : ECal := zS_or zc147 (zc272)
theorem zT_Z21_ok : ZE zT_Z21 599 := (ZE.or zc147_ok (zc272_ok) (by decide) (by decide) : ZE (zS_or zc147 (zc272)) 599)
noncomputable def zT_Y21 : ECal := zT_Z21
theorem zT_Y21_ok : ZEF [] zT_Y21 599 := (ZEF.of zT_Z21_ok)
theorem zT_21_0 : zT_go 21 0 (zX zT_Y21 10) zT_w0 = true := by decide +kernel
theorem zT_21_1 : zT_go 21 0 (zX zT_Y21 10) zT_w1 = true := by decide +kernel
theorem zT_ck21 : zT_ok 21 zT_w0 ∧ zT_ok 21 zT_w1 := ⟨⟨zT_Y21, [], 599, 10, 0, by decide, by decide, by decide, (fun f h => by cases h), zT_Y21_ok, zT_21_0⟩, ⟨zT_Y21, [], 599, 10, 0, by decide, by decide, by decide, (fun f h => by cases h), zT_Y21_ok, zT_21_1⟩⟩
noncomputable def zT_Z22 : ECal := zS_or zc148 (zc273)
theorem zT_Z22_ok : ZE zT_Z22 608 := (ZE.or zc148_ok (zc273_ok) (by decide) (by decide) : ZE (zS_or zc148 (zc273)) 608)
noncomputable def zT_Y22 : ECal := zT_Z22
theorem zT_Y22_ok : ZEF [] zT_Y22 608 := (ZEF.of zT_Z22_ok)
theorem zT_22_0 : zT_go 22 0 (zX zT_Y22 10) zT_w0 = true := by decide +kernel
theorem zT_22_1 : zT_go 22 0 (zX zT_Y22 10) zT_w1 = true := by decide +kernel
theorem zT_ck22 : zT_ok 22 zT_w0 ∧ zT_ok 22 zT_w1 := ⟨⟨zT_Y22, [], 608, 10, 0, by decide, by decide, by decide, (fun f h => by cases h), zT_Y22_ok, zT_22_0⟩, ⟨zT_Y22, [], 608, 10, 0, by decide, by decide, by decide, (fun f h => by cases h), zT_Y22_ok, zT_22_1⟩⟩
noncomputable def zT_Z23 : ECal := zS_or zc149 (zc274)
theorem zT_Z23_ok : ZE zT_Z23 608 := (ZE.or zc149_ok (zc274_ok) (by decide) (by decide) : ZE (zS_or zc149 (zc274)) 608)
noncomputable def zT_Y23 : ECal := zT_Z23
theorem zT_Y23_ok : ZEF [] zT_Y23 608 := (ZEF.of zT_Z23_ok)
theorem zT_23_0 : zT_go 23 0 (zX zT_Y23 10) zT_w0 = true := by decide +kernel
theorem zT_23_1 : zT_go 23 0 (zX zT_Y23 10) zT_w1 = true := by decide +kernel
theorem zT_ck23 : zT_ok 23 zT_w0 ∧ zT_ok 23 zT_w1 := ⟨⟨zT_Y23, [], 608, 10, 0, by decide, by decide, by decide, (fun f h => by cases h), zT_Y23_ok, zT_23_0⟩, ⟨zT_Y23, [], 608, 10, 0, by decide, by decide, by decide, (fun f h => by cases h), zT_Y23_ok, zT_23_1⟩⟩
noncomputable def zT_Z24 : ECal := zS_or zc150 (zc276)
theorem zT_Z24_ok : ZE zT_Z24 608 := (ZE.or zc150_ok (zc276_ok) (by decide) (by decide) : ZE (zS_or zc150 (zc276)) 608)
noncomputable def zT_Y24 : ECal := zT_Z24
theorem zT_Y24_ok : ZEF [] zT_Y24 608 := (ZEF.of zT_Z24_ok)
theorem zT_24_0 : zT_go 24 0 (zX zT_Y24 10) zT_w0 = true := by decide +kernel

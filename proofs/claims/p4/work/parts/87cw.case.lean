/-! the cases of the law -/
noncomputable def zT_Z35 : ECal := zS_or zc161 (zc292)
theorem zT_Z35_ok : ZE zT_Z35 599 := (ZE.or zc161_ok (zc292_ok) (by decide) (by decide) : ZE (zS_or zc161 (zc292)) 599)
noncomputable def zT_Y35 : ECal := zT_Z35
theorem zT_Y35_ok : ZEF [] zT_Y35 599 := (ZEF.of zT_Z35_ok)
theorem zT_35_0 : zT_go 35 0 (zX zT_Y35 10) zT_w0 = true := by decide +kernel
theorem zT_35_1 : zT_go 35 0 (zX zT_Y35 10) zT_w1 = true := by decide +kernel
theorem zT_ck35 : zT_ok 35 zT_w0 ∧ zT_ok 35 zT_w1 := ⟨⟨zT_Y35, [], 599, 10, 0, by decide, by decide, by decide, (fun f h => by cases h), zT_Y35_ok, zT_35_0⟩, ⟨zT_Y35, [], 599, 10, 0, by decide, by decide, by decide, (fun f h => by cases h), zT_Y35_ok, zT_35_1⟩⟩
noncomputable def zT_Z36 : ECal := zS_or zc162 (zc293)
theorem zT_Z36_ok : ZE zT_Z36 599 := (ZE.or zc162_ok (zc293_ok) (by decide) (by decide) : ZE (zS_or zc162 (zc293)) 599)
noncomputable def zT_Y36 : ECal := zT_Z36
theorem zT_Y36_ok : ZEF [] zT_Y36 599 := (ZEF.of zT_Z36_ok)
theorem zT_36_0 : zT_go 36 0 (zX zT_Y36 10) zT_w0 = true := by decide +kernel
theorem zT_36_1 : zT_go 36 0 (zX zT_Y36 10) zT_w1 = true := by decide +kernel
theorem zT_ck36 : zT_ok 36 zT_w0 ∧ zT_ok 36 zT_w1 := ⟨⟨zT_Y36, [], 599, 10, 0, by decide, by decide, by decide, (fun f h => by cases h), zT_Y36_ok, zT_36_0⟩, ⟨zT_Y36, [], 599, 10, 0, by decide, by decide, by decide, (fun f h => by cases h), zT_Y36_ok, zT_36_1⟩⟩
noncomputable def zT_Z37 : ECal := zS_or zc163 (zc295)
theorem zT_Z37_ok : ZE zT_Z37 563 := (ZE.or zc163_ok (zc295_ok) (by decide) (by decide) : ZE (zS_or zc163 (zc295)) 563)
noncomputable def zT_Y37 : ECal := zT_Z37
theorem zT_Y37_ok : ZEF [] zT_Y37 563 := (ZEF.of zT_Z37_ok)
theorem zT_37_0 : zT_go 37 0 (zX zT_Y37 10) zT_w0 = true := by decide +kernel
theorem zT_37_1 : zT_go 37 0 (zX zT_Y37 10) zT_w1 = true := by decide +kernel
theorem zT_ck37 : zT_ok 37 zT_w0 ∧ zT_ok 37 zT_w1 := ⟨⟨zT_Y37, [], 563, 10, 0, by decide, by decide, by decide, (fun f h => by cases h), zT_Y37_ok, zT_37_0⟩, ⟨zT_Y37, [], 563, 10, 0, by decide, by decide, by decide, (fun f h => by cases h), zT_Y37_ok, zT_37_1⟩⟩
noncomputable def zT_Z38 : ECal := zS_or zc164 (zc296)
theorem zT_Z38_ok : ZE zT_Z38 563 := (ZE.or zc164_ok (zc296_ok) (by decide) (by decide) : ZE (zS_or zc164 (zc296)) 563)
noncomputable def zT_Y38 : ECal := zT_Z38
theorem zT_Y38_ok : ZEF [] zT_Y38 563 := (ZEF.of zT_Z38_ok)
theorem zT_38_0 : zT_go 38 0 (zX zT_Y38 10) zT_w0 = true := by decide +kernel

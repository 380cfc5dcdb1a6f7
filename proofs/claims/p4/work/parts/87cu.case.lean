/-! the cases of the law -/
noncomputable def zT_Z28 : ECal := zS_or zc154 (zc283)
theorem zT_Z28_ok : ZE zT_Z28 626 := (ZE.or zc154_ok (zc283_ok) (by decide) (by decide) : ZE (zS_or zc154 (zc283)) 626)
noncomputable def zT_Y28 : ECal := zT_Z28
theorem zT_Y28_ok : ZEF [] zT_Y28 626 := (ZEF.of zT_Z28_ok)
theorem zT_28_0 : zT_go 28 0 (zX zT_Y28 10) zT_w0 = true := by decide +kernel
theorem zT_28_1 : zT_go 28 0 (zX zT_Y28 10) zT_w1 = true := by decide +kernel
theorem zT_ck28 : zT_ok 28 zT_w0 ∧ zT_ok 28 zT_w1 := ⟨⟨zT_Y28, [], 626, 10, 0, by decide, by decide, by decide, (fun f h => by cases h), zT_Y28_ok, zT_28_0⟩, ⟨zT_Y28, [], 626, 10, 0, by decide, by decide, by decide, (fun f h => by cases h), zT_Y28_ok, zT_28_1⟩⟩
noncomputable def zT_Z29 : ECal := zS_or zc155 (zc284)
theorem zT_Z29_ok : ZE zT_Z29 572 := (ZE.or zc155_ok (zc284_ok) (by decide) (by decide) : ZE (zS_or zc155 (zc284)) 572)
noncomputable def zT_Y29 : ECal := zT_Z29
theorem zT_Y29_ok : ZEF [] zT_Y29 572 := (ZEF.of zT_Z29_ok)
theorem zT_29_0 : zT_go 29 0 (zX zT_Y29 10) zT_w0 = true := by decide +kernel
theorem zT_29_1 : zT_go 29 0 (zX zT_Y29 10) zT_w1 = true := by decide +kernel
theorem zT_ck29 : zT_ok 29 zT_w0 ∧ zT_ok 29 zT_w1 := ⟨⟨zT_Y29, [], 572, 10, 0, by decide, by decide, by decide, (fun f h => by cases h), zT_Y29_ok, zT_29_0⟩, ⟨zT_Y29, [], 572, 10, 0, by decide, by decide, by decide, (fun f h => by cases h), zT_Y29_ok, zT_29_1⟩⟩
noncomputable def zT_Z30 : ECal := zS_or zc156 (zc285)
theorem zT_Z30_ok : ZE zT_Z30 635 := (ZE.or zc156_ok (zc285_ok) (by decide) (by decide) : ZE (zS_or zc156 (zc285)) 635)
noncomputable def zT_Y30 : ECal := zT_Z30
theorem zT_Y30_ok : ZEF [] zT_Y30 635 := (ZEF.of zT_Z30_ok)
theorem zT_30_0 : zT_go 30 0 (zX zT_Y30 10) zT_w0 = true := by decide +kernel
theorem zT_30_1 : zT_go 30 0 (zX zT_Y30 10) zT_w1 = true := by decide +kernel
theorem zT_ck30 : zT_ok 30 zT_w0 ∧ zT_ok 30 zT_w1 := ⟨⟨zT_Y30, [], 635, 10, 0, by decide, by decide, by decide, (fun f h => by cases h), zT_Y30_ok, zT_30_0⟩, ⟨zT_Y30, [], 635, 10, 0, by decide, by decide, by decide, (fun f h => by cases h), zT_Y30_ok, zT_30_1⟩⟩
noncomputable def zT_Z31 : ECal := zS_or zc157 (zc287)
theorem zT_Z31_ok : ZE zT_Z31 599 := (ZE.or zc157_ok (zc287_ok) (by decide) (by decide) : ZE (zS_or zc157 (zc287)) 599)
noncomputable def zT_Y31 : ECal := zT_Z31
theorem zT_Y31_ok : ZEF [] zT_Y31 599 := (ZEF.of zT_Z31_ok)
theorem zT_31_0 : zT_go 31 0 (zX zT_Y31 10) zT_w0 = true := by decide +kernel

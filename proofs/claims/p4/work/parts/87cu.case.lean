/-! the cases of the law -/
noncomputable def zT_B28 : ECal := zS_or zc154 (zc283)
theorem zT_B28_ok : ZE zT_B28 626 := (ZE.or zc154_ok (zc283_ok) (by decide) (by decide) : ZE (zS_or zc154 (zc283)) 626)
noncomputable def zT_E28 : ECal := zT_B28
theorem zT_E28_ok : ZEF [] zT_E28 626 := (ZEF.of zT_B28_ok)
theorem zT_28_0 : zT_go 28 0 (zX zT_E28 10) zT_w0 = true := by decide +kernel
theorem zT_28_1 : zT_go 28 0 (zX zT_E28 10) zT_w1 = true := by decide +kernel
theorem zT_k28 : zT_ok 28 zT_w0 ∧ zT_ok 28 zT_w1 := ⟨⟨zT_E28, [], 626, 10, 0, by decide, by decide, by decide, (fun f h => by cases h), zT_E28_ok, zT_28_0⟩, ⟨zT_E28, [], 626, 10, 0, by decide, by decide, by decide, (fun f h => by cases h), zT_E28_ok, zT_28_1⟩⟩
noncomputable def zT_B29 : ECal := zS_or zc155 (zc284)
theorem zT_B29_ok : ZE zT_B29 572 := (ZE.or zc155_ok (zc284_ok) (by decide) (by decide) : ZE (zS_or zc155 (zc284)) 572)
noncomputable def zT_E29 : ECal := zT_B29
theorem zT_E29_ok : ZEF [] zT_E29 572 := (ZEF.of zT_B29_ok)
theorem zT_29_0 : zT_go 29 0 (zX zT_E29 10) zT_w0 = true := by decide +kernel
theorem zT_29_1 : zT_go 29 0 (zX zT_E29 10) zT_w1 = true := by decide +kernel
theorem zT_k29 : zT_ok 29 zT_w0 ∧ zT_ok 29 zT_w1 := ⟨⟨zT_E29, [], 572, 10, 0, by decide, by decide, by decide, (fun f h => by cases h), zT_E29_ok, zT_29_0⟩, ⟨zT_E29, [], 572, 10, 0, by decide, by decide, by decide, (fun f h => by cases h), zT_E29_ok, zT_29_1⟩⟩
noncomputable def zT_B30 : ECal := zS_or zc156 (zc285)
theorem zT_B30_ok : ZE zT_B30 635 := (ZE.or zc156_ok (zc285_ok) (by decide) (by decide) : ZE (zS_or zc156 (zc285)) 635)
noncomputable def zT_E30 : ECal := zT_B30
theorem zT_E30_ok : ZEF [] zT_E30 635 := (ZEF.of zT_B30_ok)
theorem zT_30_0 : zT_go 30 0 (zX zT_E30 10) zT_w0 = true := by decide +kernel
theorem zT_30_1 : zT_go 30 0 (zX zT_E30 10) zT_w1 = true := by decide +kernel
theorem zT_k30 : zT_ok 30 zT_w0 ∧ zT_ok 30 zT_w1 := ⟨⟨zT_E30, [], 635, 10, 0, by decide, by decide, by decide, (fun f h => by cases h), zT_E30_ok, zT_30_0⟩, ⟨zT_E30, [], 635, 10, 0, by decide, by decide, by decide, (fun f h => by cases h), zT_E30_ok, zT_30_1⟩⟩
noncomputable def zT_B31 : ECal := zS_or zc157 (zc287)
theorem zT_B31_ok : ZE zT_B31 599 := (ZE.or zc157_ok (zc287_ok) (by decide) (by decide) : ZE (zS_or zc157 (zc287)) 599)
noncomputable def zT_E31 : ECal := zT_B31
theorem zT_E31_ok : ZEF [] zT_E31 599 := (ZEF.of zT_B31_ok)
theorem zT_31_0 : zT_go 31 0 (zX zT_E31 10) zT_w0 = true := by decide +kernel

/-! the cases of the law -/
theorem zT_38_1 : zT_go 38 0 (zX zT_Y38 10) zT_w1 = true := by decide +kernel
theorem zT_ck38 : zT_ok 38 zT_w0 ∧ zT_ok 38 zT_w1 := ⟨⟨zT_Y38, [], 563, 10, 0, by decide, by decide, by decide, (fun f h => by cases h), zT_Y38_ok, zT_38_0⟩, ⟨zT_Y38, [], 563, 10, 0, by decide, by decide, by decide, (fun f h => by cases h), zT_Y38_ok, zT_38_1⟩⟩
noncomputable def zT_Z39 : ECal := zS_or zc165 (zc299)
theorem zT_Z39_ok : ZE zT_Z39 590 := (ZE.or zc165_ok (zc299_ok) (by decide) (by decide) : ZE (zS_or zc165 (zc299)) 590)
noncomputable def zT_Y39 : ECal := zT_Z39
theorem zT_Y39_ok : ZEF [] zT_Y39 590 := (ZEF.of zT_Z39_ok)
theorem zT_39_0 : zT_go 39 0 (zX zT_Y39 10) zT_w0 = true := by decide +kernel
theorem zT_39_1 : zT_go 39 0 (zX zT_Y39 10) zT_w1 = true := by decide +kernel
theorem zT_ck39 : zT_ok 39 zT_w0 ∧ zT_ok 39 zT_w1 := ⟨⟨zT_Y39, [], 590, 10, 0, by decide, by decide, by decide, (fun f h => by cases h), zT_Y39_ok, zT_39_0⟩, ⟨zT_Y39, [], 590, 10, 0, by decide, by decide, by decide, (fun f h => by cases h), zT_Y39_ok, zT_39_1⟩⟩
noncomputable def zT_Z40 : ECal := zS_or zc166 (zc300)
theorem zT_Z40_ok : ZE zT_Z40 590 := (ZE.or zc166_ok (zc300_ok) (by decide) (by decide) : ZE (zS_or zc166 (zc300)) 590)
noncomputable def zT_Y40 : ECal := zT_Z40
theorem zT_Y40_ok : ZEF [] zT_Y40 590 := (ZEF.of zT_Z40_ok)
theorem zT_40_0 : zT_go 40 0 (zX zT_Y40 10) zT_w0 = true := by decide +kernel
theorem zT_40_1 : zT_go 40 0 (zX zT_Y40 10) zT_w1 = true := by decide +kernel
theorem zT_ck40 : zT_ok 40 zT_w0 ∧ zT_ok 40 zT_w1 := ⟨⟨zT_Y40, [], 590, 10, 0, by decide, by decide, by decide, (fun f h => by cases h), zT_Y40_ok, zT_40_0⟩, ⟨zT_Y40, [], 590, 10, 0, by decide, by decide, by decide, (fun f h => by cases h), zT_Y40_ok, zT_40_1⟩⟩
noncomputable def zT_Z41 : ECal := zS_or zc167 (zc301)
theorem zT_Z41_ok : ZE zT_Z41 572 := (ZE.or zc167_ok (zc301_ok) (by decide) (by decide) : ZE (zS_or zc167 (zc301)) 572)
noncomputable def zT_Y41 : ECal := zT_Z41
theorem zT_Y41_ok : ZEF [] zT_Y41 572 := (ZEF.of zT_Z41_ok)
theorem zT_41_0 : zT_go 41 0 (zX zT_Y41 10) zT_w0 = true := by decide +kernel
theorem zT_41_1 : zT_go 41 0 (zX zT_Y41 10) zT_w1 = true := by decide +kernel
theorem zT_ck41 : zT_ok 41 zT_w0 ∧ zT_ok 41 zT_w1 := ⟨⟨zT_Y41, [], 572, 10, 0, by decide, by decide, by decide, (fun f h => by cases h), zT_Y41_ok, zT_41_0⟩, ⟨zT_Y41, [], 572, 10, 0, by decide, by decide, by decide, (fun f h => by cases h), zT_Y41_ok, zT_41_1⟩⟩

/-! the cases of the law -/
theorem zT_38_1 : zT_go 38 0 (zX zT_E38 10) zT_w1 = true := by decide +kernel
theorem zT_k38 : zT_ok 38 zT_w0 ∧ zT_ok 38 zT_w1 := ⟨⟨zT_E38, [], 563, 10, 0, by decide, by decide, by decide, (fun f h => by cases h), zT_E38_ok, zT_38_0⟩, ⟨zT_E38, [], 563, 10, 0, by decide, by decide, by decide, (fun f h => by cases h), zT_E38_ok, zT_38_1⟩⟩
noncomputable def zT_B39 : ECal := zS_or zc165 (zc299)
theorem zT_B39_ok : ZE zT_B39 590 := (ZE.or zc165_ok (zc299_ok) (by decide) (by decide) : ZE (zS_or zc165 (zc299)) 590)
noncomputable def zT_E39 : ECal := zT_B39
theorem zT_E39_ok : ZEF [] zT_E39 590 := (ZEF.of zT_B39_ok)
theorem zT_39_0 : zT_go 39 0 (zX zT_E39 10) zT_w0 = true := by decide +kernel
theorem zT_39_1 : zT_go 39 0 (zX zT_E39 10) zT_w1 = true := by decide +kernel
theorem zT_k39 : zT_ok 39 zT_w0 ∧ zT_ok 39 zT_w1 := ⟨⟨zT_E39, [], 590, 10, 0, by decide, by decide, by decide, (fun f h => by cases h), zT_E39_ok, zT_39_0⟩, ⟨zT_E39, [], 590, 10, 0, by decide, by decide, by decide, (fun f h => by cases h), zT_E39_ok, zT_39_1⟩⟩
noncomputable def zT_B40 : ECal := zS_or zc166 (zc300)
theorem zT_B40_ok : ZE zT_B40 590 := (ZE.or zc166_ok (zc300_ok) (by decide) (by decide) : ZE (zS_or zc166 (zc300)) 590)
noncomputable def zT_E40 : ECal := zT_B40
theorem zT_E40_ok : ZEF [] zT_E40 590 := (ZEF.of zT_B40_ok)
theorem zT_40_0 : zT_go 40 0 (zX zT_E40 10) zT_w0 = true := by decide +kernel
theorem zT_40_1 : zT_go 40 0 (zX zT_E40 10) zT_w1 = true := by decide +kernel
theorem zT_k40 : zT_ok 40 zT_w0 ∧ zT_ok 40 zT_w1 := ⟨⟨zT_E40, [], 590, 10, 0, by decide, by decide, by decide, (fun f h => by cases h), zT_E40_ok, zT_40_0⟩, ⟨zT_E40, [], 590, 10, 0, by decide, by decide, by decide, (fun f h => by cases h), zT_E40_ok, zT_40_1⟩⟩
noncomputable def zT_B41 : ECal := zS_or zc167 (zc301)
theorem zT_B41_ok : ZE zT_B41 572 := (ZE.or zc167_ok (zc301_ok) (by decide) (by decide) : ZE (zS_or zc167 (zc301)) 572)
noncomputable def zT_E41 : ECal := zT_B41
theorem zT_E41_ok : ZEF [] zT_E41 572 := (ZEF.of zT_B41_ok)
theorem zT_41_0 : zT_go 41 0 (zX zT_E41 10) zT_w0 = true := by decide +kernel
theorem zT_41_1 : zT_go 41 0 (zX zT_E41 10) zT_w1 = true := by decide +kernel
theorem zT_k41 : zT_ok 41 zT_w0 ∧ zT_ok 41 zT_w1 := ⟨⟨zT_E41, [], 572, 10, 0, by decide, by decide, by decide, (fun f h => by cases h), zT_E41_ok, zT_41_0⟩, ⟨zT_E41, [], 572, 10, 0, by decide, by decide, by decide, (fun f h => by cases h), zT_E41_ok, zT_41_1⟩⟩

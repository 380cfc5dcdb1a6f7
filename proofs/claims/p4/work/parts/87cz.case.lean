/-! the cases of the law -/
theorem zT_45_1 : zT_go 45 0 (zX zT_E45 10) zT_w1 = true := by decide +kernel
theorem zT_k45 : zT_ok 45 zT_w0 ∧ zT_ok 45 zT_w1 := ⟨⟨zT_E45, [], 572, 10, 0, by decide, by decide, by decide, (fun f h => by cases h), zT_E45_ok, zT_45_0⟩, ⟨zT_E45, [], 572, 10, 0, by decide, by decide, by decide, (fun f h => by cases h), zT_E45_ok, zT_45_1⟩⟩
noncomputable def zT_B46 : ECal := zS_or zc172 (zc308)
theorem zT_B46_ok : ZE zT_B46 563 := (ZE.or zc172_ok (zc308_ok) (by decide) (by decide) : ZE (zS_or zc172 (zc308)) 563)
noncomputable def zT_E46 : ECal := zT_B46
theorem zT_E46_ok : ZEF [] zT_E46 563 := (ZEF.of zT_B46_ok)
theorem zT_46_0 : zT_go 46 0 (zX zT_E46 10) zT_w0 = true := by decide +kernel
theorem zT_46_1 : zT_go 46 0 (zX zT_E46 10) zT_w1 = true := by decide +kernel
theorem zT_k46 : zT_ok 46 zT_w0 ∧ zT_ok 46 zT_w1 := ⟨⟨zT_E46, [], 563, 10, 0, by decide, by decide, by decide, (fun f h => by cases h), zT_E46_ok, zT_46_0⟩, ⟨zT_E46, [], 563, 10, 0, by decide, by decide, by decide, (fun f h => by cases h), zT_E46_ok, zT_46_1⟩⟩
noncomputable def zT_B47 : ECal := zS_or zc173 (zc309)
theorem zT_B47_ok : ZE zT_B47 608 := (ZE.or zc173_ok (zc309_ok) (by decide) (by decide) : ZE (zS_or zc173 (zc309)) 608)
noncomputable def zT_E47 : ECal := zT_B47
theorem zT_E47_ok : ZEF [] zT_E47 608 := (ZEF.of zT_B47_ok)
theorem zT_47_0 : zT_go 47 0 (zX zT_E47 10) zT_w0 = true := by decide +kernel
theorem zT_47_1 : zT_go 47 0 (zX zT_E47 10) zT_w1 = true := by decide +kernel
theorem zT_k47 : zT_ok 47 zT_w0 ∧ zT_ok 47 zT_w1 := ⟨⟨zT_E47, [], 608, 10, 0, by decide, by decide, by decide, (fun f h => by cases h), zT_E47_ok, zT_47_0⟩, ⟨zT_E47, [], 608, 10, 0, by decide, by decide, by decide, (fun f h => by cases h), zT_E47_ok, zT_47_1⟩⟩
noncomputable def zT_B48 : ECal := zS_or zc174 (zc312)
theorem zT_B48_ok : ZE zT_B48 572 := (ZE.or zc174_ok (zc312_ok) (by decide) (by decide) : ZE (zS_or zc174 (zc312)) 572)
noncomputable def zT_E48 : ECal := zT_B48
theorem zT_E48_ok : ZEF [] zT_E48 572 := (ZEF.of zT_B48_ok)
theorem zT_48_0 : zT_go 48 0 (zX zT_E48 10) zT_w0 = true := by decide +kernel
theorem zT_48_1 : zT_go 48 0 (zX zT_E48 10) zT_w1 = true := by decide +kernel
theorem zT_k48 : zT_ok 48 zT_w0 ∧ zT_ok 48 zT_w1 := ⟨⟨zT_E48, [], 572, 10, 0, by decide, by decide, by decide, (fun f h => by cases h), zT_E48_ok, zT_48_0⟩, ⟨zT_E48, [], 572, 10, 0, by decide, by decide, by decide, (fun f h => by cases h), zT_E48_ok, zT_48_1⟩⟩

/-! the cases of the law -/
theorem zT_45_1 : zT_go 45 0 (zX zT_Y45 10) zT_w1 = true := by decide +kernel
theorem zT_ck45 : zT_ok 45 zT_w0 ∧ zT_ok 45 zT_w1 := ⟨⟨zT_Y45, [], 572, 10, 0, by decide, by decide, by decide, (fun f h => by cases h), zT_Y45_ok, zT_45_0⟩, ⟨zT_Y45, [], 572, 10, 0, by decide, by decide, by decide, (fun f h => by cases h), zT_Y45_ok, zT_45_1⟩⟩
noncomputable def zT_Z46 : ECal := zS_or zc172 (zc308)
theorem zT_Z46_ok : ZE zT_Z46 563 := (ZE.or zc172_ok (zc308_ok) (by decide) (by decide) : ZE (zS_or zc172 (zc308)) 563)
noncomputable def zT_Y46 : ECal := zT_Z46
theorem zT_Y46_ok : ZEF [] zT_Y46 563 := (ZEF.of zT_Z46_ok)
theorem zT_46_0 : zT_go 46 0 (zX zT_Y46 10) zT_w0 = true := by decide +kernel
theorem zT_46_1 : zT_go 46 0 (zX zT_Y46 10) zT_w1 = true := by decide +kernel
theorem zT_ck46 : zT_ok 46 zT_w0 ∧ zT_ok 46 zT_w1 := ⟨⟨zT_Y46, [], 563, 10, 0, by decide, by decide, by decide, (fun f h => by cases h), zT_Y46_ok, zT_46_0⟩, ⟨zT_Y46, [], 563, 10, 0, by decide, by decide, by decide, (fun f h => by cases h), zT_Y46_ok, zT_46_1⟩⟩
noncomputable def zT_Z47 : ECal := zS_or zc173 (zc309)
theorem zT_Z47_ok : ZE zT_Z47 608 := (ZE.or zc173_ok (zc309_ok) (by decide) (by decide) : ZE (zS_or zc173 (zc309)) 608)
noncomputable def zT_Y47 : ECal := zT_Z47
theorem zT_Y47_ok : ZEF [] zT_Y47 608 := (ZEF.of zT_Z47_ok)
theorem zT_47_0 : zT_go 47 0 (zX zT_Y47 10) zT_w0 = true := by decide +kernel
theorem zT_47_1 : zT_go 47 0 (zX zT_Y47 10) zT_w1 = true := by decide +kernel
theorem zT_ck47 : zT_ok 47 zT_w0 ∧ zT_ok 47 zT_w1 := ⟨⟨zT_Y47, [], 608, 10, 0, by decide, by decide, by decide, (fun f h => by cases h), zT_Y47_ok, zT_47_0⟩, ⟨zT_Y47, [], 608, 10, 0, by decide, by decide, by decide, (fun f h => by cases h), zT_Y47_ok, zT_47_1⟩⟩
noncomputable def zT_Z48 : ECal := zS_or zc174 (zc312)
theorem zT_Z48_ok : ZE zT_Z48 572 := (ZE.or zc174_ok (zc312_ok) (by decide) (by decide) : ZE (zS_or zc174 (zc312)) 572)
noncomputable def zT_Y48 : ECal := zT_Z48
theorem zT_Y48_ok : ZEF [] zT_Y48 572 := (ZEF.of zT_Z48_ok)
theorem zT_48_0 : zT_go 48 0 (zX zT_Y48 10) zT_w0 = true := by decide +kernel
theorem zT_48_1 : zT_go 48 0 (zX zT_Y48 10) zT_w1 = true := by decide +kernel
theorem zT_ck48 : zT_ok 48 zT_w0 ∧ zT_ok 48 zT_w1 := ⟨⟨zT_Y48, [], 572, 10, 0, by decide, by decide, by decide, (fun f h => by cases h), zT_Y48_ok, zT_48_0⟩, ⟨zT_Y48, [], 572, 10, 0, by decide, by decide, by decide, (fun f h => by cases h), zT_Y48_ok, zT_48_1⟩⟩

/-! the cases of the law -/
theorem zT_24_1 : zT_go 24 0 (zX zT_E24 10) zT_w1 = true := by decide +kernel
theorem zT_k24 : zT_ok 24 zT_w0 ∧ zT_ok 24 zT_w1 := ⟨⟨zT_E24, [], 608, 10, 0, by decide, by decide, by decide, (fun f h => by cases h), zT_E24_ok, zT_24_0⟩, ⟨zT_E24, [], 608, 10, 0, by decide, by decide, by decide, (fun f h => by cases h), zT_E24_ok, zT_24_1⟩⟩
noncomputable def zT_B25 : ECal := zS_or zc151 (zc277)
theorem zT_B25_ok : ZE zT_B25 608 := (ZE.or zc151_ok (zc277_ok) (by decide) (by decide) : ZE (zS_or zc151 (zc277)) 608)
noncomputable def zT_E25 : ECal := zT_B25
theorem zT_E25_ok : ZEF [] zT_E25 608 := (ZEF.of zT_B25_ok)
theorem zT_25_0 : zT_go 25 0 (zX zT_E25 10) zT_w0 = true := by decide +kernel
theorem zT_25_1 : zT_go 25 0 (zX zT_E25 10) zT_w1 = true := by decide +kernel
theorem zT_k25 : zT_ok 25 zT_w0 ∧ zT_ok 25 zT_w1 := ⟨⟨zT_E25, [], 608, 10, 0, by decide, by decide, by decide, (fun f h => by cases h), zT_E25_ok, zT_25_0⟩, ⟨zT_E25, [], 608, 10, 0, by decide, by decide, by decide, (fun f h => by cases h), zT_E25_ok, zT_25_1⟩⟩
noncomputable def zT_B26 : ECal := zS_or zc152 (zc278)
theorem zT_B26_ok : ZE zT_B26 563 := (ZE.or zc152_ok (zc278_ok) (by decide) (by decide) : ZE (zS_or zc152 (zc278)) 563)
noncomputable def zT_E26 : ECal := zT_B26
theorem zT_E26_ok : ZEF [] zT_E26 563 := (ZEF.of zT_B26_ok)
theorem zT_26_0 : zT_go 26 0 (zX zT_E26 10) zT_w0 = true := by decide +kernel
theorem zT_26_1 : zT_go 26 0 (zX zT_E26 10) zT_w1 = true := by decide +kernel
theorem zT_k26 : zT_ok 26 zT_w0 ∧ zT_ok 26 zT_w1 := ⟨⟨zT_E26, [], 563, 10, 0, by decide, by decide, by decide, (fun f h => by cases h), zT_E26_ok, zT_26_0⟩, ⟨zT_E26, [], 563, 10, 0, by decide, by decide, by decide, (fun f h => by cases h), zT_E26_ok, zT_26_1⟩⟩
noncomputable def zT_B27 : ECal := zS_or zc153 (zc281)
theorem zT_B27_ok : ZE zT_B27 590 := (ZE.or zc153_ok (zc281_ok) (by decide) (by decide) : ZE (zS_or zc153 (zc281)) 590)
noncomputable def zT_E27 : ECal := zT_B27
theorem zT_E27_ok : ZEF [] zT_E27 590 := (ZEF.of zT_B27_ok)
theorem zT_27_0 : zT_go 27 0 (zX zT_E27 10) zT_w0 = true := by decide +kernel
theorem zT_27_1 : zT_go 27 0 (zX zT_E27 10) zT_w1 = true := by decide +kernel
theorem zT_k27 : zT_ok 27 zT_w0 ∧ zT_ok 27 zT_w1 := ⟨⟨zT_E27, [], 590, 10, 0, by decide, by decide, by decide, (fun f h => by cases h), zT_E27_ok, zT_27_0⟩, ⟨zT_E27, [], 590, 10, 0, by decide, by decide, by decide, (fun f h => by cases h), zT_E27_ok, zT_27_1⟩⟩

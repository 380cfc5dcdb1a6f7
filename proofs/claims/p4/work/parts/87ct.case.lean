/-! the cases of the law -/
theorem zT_24_1 : zT_go 24 0 (zX zT_Y24 10) zT_w1 = true := by decide +kernel
theorem zT_ck24 : zT_ok 24 zT_w0 ∧ zT_ok 24 zT_w1 := ⟨⟨zT_Y24, [], 608, 10, 0, by decide, by decide, by decide, (fun f h => by cases h), zT_Y24_ok, zT_24_0⟩, ⟨zT_Y24, [], 608, 10, 0, by decide, by decide, by decide, (fun f h => by cases h), zT_Y24_ok, zT_24_1⟩⟩
noncomputable def zT_Z25 : ECal := zS_or zc151 (zc277)
theorem zT_Z25_ok : ZE zT_Z25 608 := (ZE.or zc151_ok (zc277_ok) (by decide) (by decide) : ZE (zS_or zc151 (zc277)) 608)
noncomputable def zT_Y25 : ECal := zT_Z25
theorem zT_Y25_ok : ZEF [] zT_Y25 608 := (ZEF.of zT_Z25_ok)
theorem zT_25_0 : zT_go 25 0 (zX zT_Y25 10) zT_w0 = true := by decide +kernel
theorem zT_25_1 : zT_go 25 0 (zX zT_Y25 10) zT_w1 = true := by decide +kernel
theorem zT_ck25 : zT_ok 25 zT_w0 ∧ zT_ok 25 zT_w1 := ⟨⟨zT_Y25, [], 608, 10, 0, by decide, by decide, by decide, (fun f h => by cases h), zT_Y25_ok, zT_25_0⟩, ⟨zT_Y25, [], 608, 10, 0, by decide, by decide, by decide, (fun f h => by cases h), zT_Y25_ok, zT_25_1⟩⟩
noncomputable def zT_Z26 : ECal := zS_or zc152 (zc278)
theorem zT_Z26_ok : ZE zT_Z26 563 := (ZE.or zc152_ok (zc278_ok) (by decide) (by decide) : ZE (zS_or zc152 (zc278)) 563)
noncomputable def zT_Y26 : ECal := zT_Z26
theorem zT_Y26_ok : ZEF [] zT_Y26 563 := (ZEF.of zT_Z26_ok)
theorem zT_26_0 : zT_go 26 0 (zX zT_Y26 10) zT_w0 = true := by decide +kernel
theorem zT_26_1 : zT_go 26 0 (zX zT_Y26 10) zT_w1 = true := by decide +kernel
theorem zT_ck26 : zT_ok 26 zT_w0 ∧ zT_ok 26 zT_w1 := ⟨⟨zT_Y26, [], 563, 10, 0, by decide, by decide, by decide, (fun f h => by cases h), zT_Y26_ok, zT_26_0⟩, ⟨zT_Y26, [], 563, 10, 0, by decide, by decide, by decide, (fun f h => by cases h), zT_Y26_ok, zT_26_1⟩⟩
noncomputable def zT_Z27 : ECal := zS_or zc153 (zc281)
theorem zT_Z27_ok : ZE zT_Z27 590 := (ZE.or zc153_ok (zc281_ok) (by decide) (by decide) : ZE (zS_or zc153 (zc281)) 590)
noncomputable def zT_Y27 : ECal := zT_Z27
theorem zT_Y27_ok : ZEF [] zT_Y27 590 := (ZEF.of zT_Z27_ok)
theorem zT_27_0 : zT_go 27 0 (zX zT_Y27 10) zT_w0 = true := by decide +kernel
theorem zT_27_1 : zT_go 27 0 (zX zT_Y27 10) zT_w1 = true := by decide +kernel
theorem zT_ck27 : zT_ok 27 zT_w0 ∧ zT_ok 27 zT_w1 := ⟨⟨zT_Y27, [], 590, 10, 0, by decide, by decide, by decide, (fun f h => by cases h), zT_Y27_ok, zT_27_0⟩, ⟨zT_Y27, [], 590, 10, 0, by decide, by decide, by decide, (fun f h => by cases h), zT_Y27_ok, zT_27_1⟩⟩

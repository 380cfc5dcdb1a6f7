/-! the cases of the law -/
noncomputable def zT_B42 : ECal := zS_or zc168 (zc302)
theorem zT_B42_ok : ZE zT_B42 563 := (ZE.or zc168_ok (zc302_ok) (by decide) (by decide) : ZE (zS_or zc168 (zc302)) 563)
noncomputable def zT_E42 : ECal := zT_B42
theorem zT_E42_ok : ZEF [] zT_E42 563 := (ZEF.of zT_B42_ok)
theorem zT_42_0 : zT_go 42 0 (zX zT_E42 10) zT_w0 = true := by decide +kernel
theorem zT_42_1 : zT_go 42 0 (zX zT_E42 10) zT_w1 = true := by decide +kernel
theorem zT_k42 : zT_ok 42 zT_w0 ∧ zT_ok 42 zT_w1 := ⟨⟨zT_E42, [], 563, 10, 0, by decide, by decide, by decide, (fun f h => by cases h), zT_E42_ok, zT_42_0⟩, ⟨zT_E42, [], 563, 10, 0, by decide, by decide, by decide, (fun f h => by cases h), zT_E42_ok, zT_42_1⟩⟩
noncomputable def zT_B43 : ECal := zS_or zc169 (zc303)
theorem zT_B43_ok : ZE zT_B43 563 := (ZE.or zc169_ok (zc303_ok) (by decide) (by decide) : ZE (zS_or zc169 (zc303)) 563)
noncomputable def zT_E43 : ECal := zT_B43
theorem zT_E43_ok : ZEF [] zT_E43 563 := (ZEF.of zT_B43_ok)
theorem zT_43_0 : zT_go 43 0 (zX zT_E43 10) zT_w0 = true := by decide +kernel
theorem zT_43_1 : zT_go 43 0 (zX zT_E43 10) zT_w1 = true := by decide +kernel
theorem zT_k43 : zT_ok 43 zT_w0 ∧ zT_ok 43 zT_w1 := ⟨⟨zT_E43, [], 563, 10, 0, by decide, by decide, by decide, (fun f h => by cases h), zT_E43_ok, zT_43_0⟩, ⟨zT_E43, [], 563, 10, 0, by decide, by decide, by decide, (fun f h => by cases h), zT_E43_ok, zT_43_1⟩⟩
noncomputable def zT_B44 : ECal := zS_or zc170 (zc306)
theorem zT_B44_ok : ZE zT_B44 572 := (ZE.or zc170_ok (zc306_ok) (by decide) (by decide) : ZE (zS_or zc170 (zc306)) 572)
noncomputable def zT_E44 : ECal := zT_B44
theorem zT_E44_ok : ZEF [] zT_E44 572 := (ZEF.of zT_B44_ok)
theorem zT_44_0 : zT_go 44 0 (zX zT_E44 10) zT_w0 = true := by decide +kernel
theorem zT_44_1 : zT_go 44 0 (zX zT_E44 10) zT_w1 = true := by decide +kernel
theorem zT_k44 : zT_ok 44 zT_w0 ∧ zT_ok 44 zT_w1 := ⟨⟨zT_E44, [], 572, 10, 0, by decide, by decide, by decide, (fun f h => by cases h), zT_E44_ok, zT_44_0⟩, ⟨zT_E44, [], 572, 10, 0, by decide, by decide, by decide, (fun f h => by cases h), zT_E44_ok, zT_44_1⟩⟩
noncomputable def zT_B45 : ECal := zS_or zc171 (zc307)
theorem zT_B45_ok : ZE zT_B45 572 := (ZE.or zc171_ok (zc307_ok) (by decide) (by decide) : ZE (zS_or zc171 (zc307)) 572)
noncomputable def zT_E45 : ECal := zT_B45
theorem zT_E45_ok : ZEF [] zT_E45 572 := (ZEF.of zT_B45_ok)
theorem zT_45_0 : zT_go 45 0 (zX zT_E45 10) zT_w0 = true := by decide +kernel

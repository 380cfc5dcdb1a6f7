/-! the cases of the law -/
noncomputable def zT_Z42 : ECal := zS_or zc168 (zc302)
theorem zT_Z42_ok : ZE zT_Z42 563 := (ZE.or zc168_ok (zc302_ok) (by decide) (by decide) : ZE (zS_or zc168 (zc302)) 563)
noncomputable def zT_Y42 : ECal := zT_Z42
theorem zT_Y42_ok : ZEF [] zT_Y42 563 := (ZEF.of zT_Z42_ok)
theorem zT_42_0 : zT_go 42 0 (zX zT_Y42 10) zT_w0 = true := by decide +kernel
theorem zT_42_1 : zT_go 42 0 (zX zT_Y42 10) zT_w1 = true := by decide +kernel
theorem zT_ck42 : zT_ok 42 zT_w0 ∧ zT_ok 42 zT_w1 := ⟨⟨zT_Y42, [], 563, 10, 0, by decide, by decide, by decide, (fun f h => by cases h), zT_Y42_ok, zT_42_0⟩, ⟨zT_Y42, [], 563, 10, 0, by decide, by decide, by decide, (fun f h => by cases h), zT_Y42_ok, zT_42_1⟩⟩
noncomputable def zT_Z43 : ECal := zS_or zc169 (zc303)
theorem zT_Z43_ok : ZE zT_Z43 563 := (ZE.or zc169_ok (zc303_ok) (by decide) (by decide) : ZE (zS_or zc169 (zc303)) 563)
noncomputable def zT_Y43 : ECal := zT_Z43
theorem zT_Y43_ok : ZEF [] zT_Y43 563 := (ZEF.of zT_Z43_ok)
theorem zT_43_0 : zT_go 43 0 (zX zT_Y43 10) zT_w0 = true := by decide +kernel
theorem zT_43_1 : zT_go 43 0 (zX zT_Y43 10) zT_w1 = true := by decide +kernel
theorem zT_ck43 : zT_ok 43 zT_w0 ∧ zT_ok 43 zT_w1 := ⟨⟨zT_Y43, [], 563, 10, 0, by decide, by decide, by decide, (fun f h => by cases h), zT_Y43_ok, zT_43_0⟩, ⟨zT_Y43, [], 563, 10, 0, by decide, by decide, by decide, (fun f h => by cases h), zT_Y43_ok, zT_43_1⟩⟩
noncomputable def zT_Z44 : ECal := zS_or zc170 (zc306)
theorem zT_Z44_ok : ZE zT_Z44 572 := (ZE.or zc170_ok (zc306_ok) (by decide) (by decide) : ZE (zS_or zc170 (zc306)) 572)
noncomputable def zT_Y44 : ECal := zT_Z44
theorem zT_Y44_ok : ZEF [] zT_Y44 572 := (ZEF.of zT_Z44_ok)
theorem zT_44_0 : zT_go 44 0 (zX zT_Y44 10) zT_w0 = true := by decide +kernel
theorem zT_44_1 : zT_go 44 0 (zX zT_Y44 10) zT_w1 = true := by decide +kernel
theorem zT_ck44 : zT_ok 44 zT_w0 ∧ zT_ok 44 zT_w1 := ⟨⟨zT_Y44, [], 572, 10, 0, by decide, by decide, by decide, (fun f h => by cases h), zT_Y44_ok, zT_44_0⟩, ⟨zT_Y44, [], 572, 10, 0, by decide, by decide, by decide, (fun f h => by cases h), zT_Y44_ok, zT_44_1⟩⟩
noncomputable def zT_Z45 : ECal := zS_or zc171 (zc307)
theorem zT_Z45_ok : ZE zT_Z45 572 := (ZE.or zc171_ok (zc307_ok) (by decide) (by decide) : ZE (zS_or zc171 (zc307)) 572)
noncomputable def zT_Y45 : ECal := zT_Z45
theorem zT_Y45_ok : ZEF [] zT_Y45 572 := (ZEF.of zT_Z45_ok)
theorem zT_45_0 : zT_go 45 0 (zX zT_Y45 10) zT_w0 = true := by decide +kernel

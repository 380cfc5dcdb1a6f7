/-! the cases of the law -/
noncomputable def zT_Z36 : ECal := zS_or zc162 (zc293)
theorem zT_Z36_ok : ZE zT_Z36 599 := (ZE.or zc162_ok (zc293_ok) (by decide) (by decide) : ZE (zS_or zc162 (zc293)) 599)
noncomputable def zT_Y36 : ECal := zT_Z36
theorem zT_Y36_ok : ZEF [] zT_Y36 599 := (ZEF.of zT_Z36_ok)
theorem zT_36_0 : zT_go 36 0 (zX zT_Y36 10) zT_w0 = true := by decide +kernel
theorem zT_36_1 : zT_go 36 0 (zX zT_Y36 10) zT_w1 = true := by decide +kernel
theorem zT_ck36 : zT_ok 36 zT_w0 ∧ zT_ok 36 zT_w1 := ⟨⟨zT_Y36, [], 599, 10, 0, by decide, by decide, by decide, (fun f h => by cases h), zT_Y36_ok, zT_36_0⟩, ⟨zT_Y36, [], 599, 10, 0, by decide, by decide, by decide, (fun f h => by cases h), zT_Y36_ok, zT_36_1⟩⟩
noncomputable def zT_Z37 : ECal := zS_or zc163 (zc295)
theorem zT_Z37_ok : ZE zT_Z37 563 := (ZE.or zc163_ok (zc295_ok) (by decide) (by decide) : ZE (zS_or zc163 (zc295)) 563)
noncomputable def zT_Y37 : ECal := zT_Z37
theorem zT_Y37_ok : ZEF [] zT_Y37 563 := (ZEF.of zT_Z37_ok)
theorem zT_37_0 : zT_go 37 0 (zX zT_Y37 10) zT_w0 = true := by decide +kernel
theorem zT_37_1 : zT_go 37 0 (zX zT_Y37 10) zT_w1 = true := by decide +kernel
theorem zT_ck37 : zT_ok 37 zT_w0 ∧ zT_ok 37 zT_w1 := ⟨⟨zT_Y37, [], 563, 10, 0, by decide, by decide, by decide, (fun f h => by cases h), zT_Y37_ok, zT_37_0⟩, ⟨zT_Y37, [], 563, 10, 0, by decide, by decide, by decide, (fun f h => by cases h), zT_Y37_ok, zT_37_1⟩⟩
noncomputable def zT_Z38 : ECal := zS_or zc164 (zc296)
theorem zT_Z38_ok : ZE zT_Z38 563 := (ZE.or zc164_ok (zc296_ok) (by decide) (by decide) : ZE (zS_or zc164 (zc296)) 563)
noncomputable def zT_Y38 : ECal := zT_Z38
theorem zT_Y38_ok : ZEF [] zT_Y38 563 := (ZEF.of zT_Z38_ok)
theorem zT_38_0 : zT_go 38 0 (zX zT_Y38 10) zT_w0 = true := by decide +kernel
theorem zT_38_1 : zT_go 38 0 (zX zT_Y38 10) zT_w1 = true := by decide +kernel
theorem zT_ck38 : zT_ok 38 zT_w0 ∧ zT_ok 38 zT_w1 := ⟨⟨zT_Y38, [], 563, 10, 0, by decide, by decide, by decide, (fun f h => by cases h), zT_Y38_ok, zT_38_0⟩, ⟨zT_Y38, [], 563, 10, 0, by decide, by decide, by decide, (fun f h => by cases h), zT_Y38_ok, zT_38_1⟩⟩
noncomputable def zT_Z39 : ECal := zS_or zc165 (zc299)
theorem zT_Z39_ok : ZE zT_Z39 590 := (ZE.or zc165_ok (zc299_ok) (by decide) (by decide) : ZE (zS_or zc165 (zc299)) 590)
noncomputable def zT_Y39 : ECal := zT_Z39
theorem zT_Y39_ok : ZEF [] zT_Y39 590 := (ZEF.of zT_Z39_ok)
theorem zT_39_0 : zT_go 39 0 (zX zT_Y39 10) zT_w0 = true := by decide +kernel
theorem zT_39_1 : zT_go 39 0 (zX zT_Y39 10) zT_w1 = true := by decide +kernel
theorem zT_ck39 : zT_ok 39 zT_w0 ∧ zT_ok 39 zT_w1 := ⟨⟨zT_Y39, [], 590, 10, 0, by decide, by decide, by decide, (fun f h => by cases h), zT_Y39_ok, zT_39_0⟩, ⟨zT_Y39, [], 590, 10, 0, by decide, by decide, by decide, (fun f h => by cases h), zT_Y39_ok, zT_39_1⟩⟩
noncomputable def zT_Z40 : ECal := zS_or zc166 (zc300)
theorem zT_Z40_ok : ZE zT_Z40 590 := (ZE.or zc166_ok (zc300_ok) (by decide) (by decide) : ZE (zS_or zc166 (zc300)) 590)
noncomputable def zT_Y40 : ECal := zT_Z40
theorem zT_Y40_ok : ZEF [] zT_Y40 590 := (ZEF.of zT_Z40_ok)
theorem zT_40_0 : zT_go 40 0 (zX zT_Y40 10) zT_w0 = true := by decide +kernel
theorem zT_40_1 : zT_go 40 0 (zX zT_Y40 10) zT_w1 = true := by decide +kernel
theorem zT_ck40 : zT_ok 40 zT_w0 ∧ zT_ok 40 zT_w1 := ⟨⟨zT_Y40, [], 590, 10, 0, by decide, by decide, by decide, (fun f h => by cases h), zT_Y40_ok, zT_40_0⟩, ⟨zT_Y40, [], 590, 10, 0, by decide, by decide, by decide, (fun f h => by cases h), zT_Y40_ok, zT_40_1⟩⟩
noncomputable def zT_Z41 : ECal := zS_or zc167 (zc301)
theorem zT_Z41_ok : ZE zT_Z41 572 := (ZE.or zc167_ok (zc301_ok) (by decide) (by decide) : ZE (zS_or zc167 (zc301)) 572)
noncomputable def zT_Y41 : ECal := zT_Z41
theorem zT_Y41_ok : ZEF [] zT_Y41 572 := (ZEF.of zT_Z41_ok)
theorem zT_41_0 : zT_go 41 0 (zX zT_Y41 10) zT_w0 = true := by decide +kernel
theorem zT_41_1 : zT_go 41 0 (zX zT_Y41 10) zT_w1 = true := by decide +kernel
theorem zT_ck41 : zT_ok 41 zT_w0 ∧ zT_ok 41 zT_w1 := ⟨⟨zT_Y41, [], 572, 10, 0, by decide, by decide, by decide, (fun f h => by cases h), zT_Y41_ok, zT_41_0⟩, ⟨zT_Y41, [], 572, 10, 0, by decide, by decide, by decide, (fun f h => by cases h), zT_Y41_ok, zT_41_1⟩⟩
noncomputable def zT_Z42 : ECal := zS_or zc168 (zc302)
theorem zT_Z42_ok : ZE zT_Z42 563 := (ZE.or zc168_ok (zc302_ok) (by decide) (by decide) : ZE (zS_or zc168 (zc302)) 563)
noncomputable def zT_Y42 : ECal := zT_Z42
theorem zT_Y42_ok : ZEF [] zT_Y42 563 := (ZEF.of zT_Z42_ok)
theorem zT_42_0 : zT_go 42 0 (zX zT_Y42 10) zT_w0 = true := by decide +kernel
theorem zT_42_1 : zT_go 42 0 (zX zT_Y42 10) zT_w1 = true := by decide +kernel
theorem zT_ck42 : zT_ok 42 zT_w0 ∧ zT_ok 42 zT_w1 := ⟨⟨zT_Y42, [], 563, 10, 0, by decide, by decide, by decide, (fun f h => by cases h), zT_Y42_ok, zT_42_0⟩, ⟨zT_Y42, [], 563, 10, 0, by decide, by decide, by decide, (fun f h => by cases h), zT_Y42_ok, zT_42_1⟩⟩
noncomputable def zT_Z43 : ECal := zS_or zc169 (zc303)
theorem zT_Z43_ok : ZE zT_Z43 563 := (ZE.or zc169_ok (zc303_ok) (by decide) (by decide) : ZE (zS_or zc169 (zc303)) 563)
noncomputable def zT_Y43 : ECal := zT_Z43
theorem zT_Y43_ok : ZEF [] zT_Y43 563 := (ZEF.of zT_Z43_ok)
theorem zT_43_0 : zT_go 43 0 (zX zT_Y43 10) zT_w0 = true := by decide +kernel
theorem zT_43_1 : zT_go 43 0 (zX zT_Y43 10) zT_w1 = true := by decide +kernel
theorem zT_ck43 : zT_ok 43 zT_w0 ∧ zT_ok 43 zT_w1 := ⟨⟨zT_Y43, [], 563, 10, 0, by decide, by decide, by decide, (fun f h => by cases h), zT_Y43_ok, zT_43_0⟩, ⟨zT_Y43, [], 563, 10, 0, by decide, by decide, by decide, (fun f h => by cases h), zT_Y43_ok, zT_43_1⟩⟩
noncomputable def zT_Z44 : ECal := zS_or zc170 (zc306)
theorem zT_Z44_ok : ZE zT_Z44 572 := (ZE.or zc170_ok (zc306_ok) (by decide) (by decide) : ZE (zS_or zc170 (zc306)) 572)
noncomputable def zT_Y44 : ECal := zT_Z44
theorem zT_Y44_ok : ZEF [] zT_Y44 572 := (ZEF.of zT_Z44_ok)
theorem zT_44_0 : zT_go 44 0 (zX zT_Y44 10) zT_w0 = true := by decide +kernel
theorem zT_44_1 : zT_go 44 0 (zX zT_Y44 10) zT_w1 = true := by decide +kernel
theorem zT_ck44 : zT_ok 44 zT_w0 ∧ zT_ok 44 zT_w1 := ⟨⟨zT_Y44, [], 572, 10, 0, by decide, by decide, by decide, (fun f h => by cases h), zT_Y44_ok, zT_44_0⟩, ⟨zT_Y44, [], 572, 10, 0, by decide, by decide, by decide, (fun f h => by cases h), zT_Y44_ok, zT_44_1⟩⟩
noncomputable def zT_Z45 : ECal := zS_or zc171 (zc307)
theorem zT_Z45_ok : ZE zT_Z45 572 := (ZE.or zc171_ok (zc307_ok) (by decide) (by decide) : ZE (zS_or zc171 (zc307)) 572)
noncomputable def zT_Y45 : ECal := zT_Z45
theorem zT_Y45_ok : ZEF [] zT_Y45 572 := (ZEF.of zT_Z45_ok)
theorem zT_45_0 : zT_go 45 0 (zX zT_Y45 10) zT_w0 = true := by decide +kernel
theorem zT_45_1 : zT_go 45 0 (zX zT_Y45 10) zT_w1 = true := by decide +kernel
theorem zT_ck45 : zT_ok 45 zT_w0 ∧ zT_ok 45 zT_w1 := ⟨⟨zT_Y45, [], 572, 10, 0, by decide, by decide, by decide, (fun f h => by cases h), zT_Y45_ok, zT_45_0⟩, ⟨zT_Y45, [], 572, 10, 0, by decide, by decide, by decide, (fun f h => by cases h), zT_Y45_ok, zT_45_1⟩⟩

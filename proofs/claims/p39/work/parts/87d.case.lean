/-! the cases of the law -/
noncomputable def zT_E42 : ECal := zS_or zc168 (zc302)
theorem zT_E42_ok : ZE zT_E42 563 := (ZE.or zc168_ok (zc302_ok) (by decide) (by decide) : ZE (zS_or zc168 (zc302)) 563)
theorem zT_42_0 : zT_go 42 0 (zX zT_E42 10) zT_w0 = true := by decide +kernel
theorem zT_42_1 : zT_go 42 0 (zX zT_E42 10) zT_w1 = true := by decide +kernel
theorem zT_k42 : zT_ok 42 zT_w0 ∧ zT_ok 42 zT_w1 := ⟨⟨zT_E42, 563, 10, 0, by decide, by decide, by decide, zT_E42_ok, zT_42_0⟩, ⟨zT_E42, 563, 10, 0, by decide, by decide, by decide, zT_E42_ok, zT_42_1⟩⟩
noncomputable def zT_E43 : ECal := zS_or zc169 (zc303)
theorem zT_E43_ok : ZE zT_E43 563 := (ZE.or zc169_ok (zc303_ok) (by decide) (by decide) : ZE (zS_or zc169 (zc303)) 563)
theorem zT_43_0 : zT_go 43 0 (zX zT_E43 10) zT_w0 = true := by decide +kernel
theorem zT_43_1 : zT_go 43 0 (zX zT_E43 10) zT_w1 = true := by decide +kernel
theorem zT_k43 : zT_ok 43 zT_w0 ∧ zT_ok 43 zT_w1 := ⟨⟨zT_E43, 563, 10, 0, by decide, by decide, by decide, zT_E43_ok, zT_43_0⟩, ⟨zT_E43, 563, 10, 0, by decide, by decide, by decide, zT_E43_ok, zT_43_1⟩⟩
noncomputable def zT_E44 : ECal := zS_or zc170 (zc306)
theorem zT_E44_ok : ZE zT_E44 572 := (ZE.or zc170_ok (zc306_ok) (by decide) (by decide) : ZE (zS_or zc170 (zc306)) 572)
theorem zT_44_0 : zT_go 44 0 (zX zT_E44 10) zT_w0 = true := by decide +kernel
theorem zT_44_1 : zT_go 44 0 (zX zT_E44 10) zT_w1 = true := by decide +kernel
theorem zT_k44 : zT_ok 44 zT_w0 ∧ zT_ok 44 zT_w1 := ⟨⟨zT_E44, 572, 10, 0, by decide, by decide, by decide, zT_E44_ok, zT_44_0⟩, ⟨zT_E44, 572, 10, 0, by decide, by decide, by decide, zT_E44_ok, zT_44_1⟩⟩
noncomputable def zT_E45 : ECal := zS_or zc171 (zc307)
theorem zT_E45_ok : ZE zT_E45 572 := (ZE.or zc171_ok (zc307_ok) (by decide) (by decide) : ZE (zS_or zc171 (zc307)) 572)
theorem zT_45_0 : zT_go 45 0 (zX zT_E45 10) zT_w0 = true := by decide +kernel
theorem zT_45_1 : zT_go 45 0 (zX zT_E45 10) zT_w1 = true := by decide +kernel
theorem zT_k45 : zT_ok 45 zT_w0 ∧ zT_ok 45 zT_w1 := ⟨⟨zT_E45, 572, 10, 0, by decide, by decide, by decide, zT_E45_ok, zT_45_0⟩, ⟨zT_E45, 572, 10, 0, by decide, by decide, by decide, zT_E45_ok, zT_45_1⟩⟩
noncomputable def zT_E46 : ECal := zS_or zc172 (zc308)
theorem zT_E46_ok : ZE zT_E46 563 := (ZE.or zc172_ok (zc308_ok) (by decide) (by decide) : ZE (zS_or zc172 (zc308)) 563)
theorem zT_46_0 : zT_go 46 0 (zX zT_E46 10) zT_w0 = true := by decide +kernel
theorem zT_46_1 : zT_go 46 0 (zX zT_E46 10) zT_w1 = true := by decide +kernel
theorem zT_k46 : zT_ok 46 zT_w0 ∧ zT_ok 46 zT_w1 := ⟨⟨zT_E46, 563, 10, 0, by decide, by decide, by decide, zT_E46_ok, zT_46_0⟩, ⟨zT_E46, 563, 10, 0, by decide, by decide, by decide, zT_E46_ok, zT_46_1⟩⟩
noncomputable def zT_E47 : ECal := zS_or zc173 (zc309)
theorem zT_E47_ok : ZE zT_E47 608 := (ZE.or zc173_ok (zc309_ok) (by decide) (by decide) : ZE (zS_or zc173 (zc309)) 608)
theorem zT_47_0 : zT_go 47 0 (zX zT_E47 10) zT_w0 = true := by decide +kernel
theorem zT_47_1 : zT_go 47 0 (zX zT_E47 10) zT_w1 = true := by decide +kernel
theorem zT_k47 : zT_ok 47 zT_w0 ∧ zT_ok 47 zT_w1 := ⟨⟨zT_E47, 608, 10, 0, by decide, by decide, by decide, zT_E47_ok, zT_47_0⟩, ⟨zT_E47, 608, 10, 0, by decide, by decide, by decide, zT_E47_ok, zT_47_1⟩⟩
noncomputable def zT_E48 : ECal := zS_or zc174 (zc312)
theorem zT_E48_ok : ZE zT_E48 572 := (ZE.or zc174_ok (zc312_ok) (by decide) (by decide) : ZE (zS_or zc174 (zc312)) 572)
theorem zT_48_0 : zT_go 48 0 (zX zT_E48 10) zT_w0 = true := by decide +kernel
theorem zT_48_1 : zT_go 48 0 (zX zT_E48 10) zT_w1 = true := by decide +kernel
theorem zT_k48 : zT_ok 48 zT_w0 ∧ zT_ok 48 zT_w1 := ⟨⟨zT_E48, 572, 10, 0, by decide, by decide, by decide, zT_E48_ok, zT_48_0⟩, ⟨zT_E48, 572, 10, 0, by decide, by decide, by decide, zT_E48_ok, zT_48_1⟩⟩
noncomputable def zT_E49 : ECal := zS_or zc175 (zc314)
theorem zT_E49_ok : ZE zT_E49 599 := (ZE.or zc175_ok (zc314_ok) (by decide) (by decide) : ZE (zS_or zc175 (zc314)) 599)
theorem zT_49_0 : zT_go 49 0 (zX zT_E49 10) zT_w0 = true := by decide +kernel
theorem zT_49_1 : zT_go 49 0 (zX zT_E49 10) zT_w1 = true := by decide +kernel
theorem zT_k49 : zT_ok 49 zT_w0 ∧ zT_ok 49 zT_w1 := ⟨⟨zT_E49, 599, 10, 0, by decide, by decide, by decide, zT_E49_ok, zT_49_0⟩, ⟨zT_E49, 599, 10, 0, by decide, by decide, by decide, zT_E49_ok, zT_49_1⟩⟩
noncomputable def zT_E50 : ECal := zS_or zc176 (zc315)
theorem zT_E50_ok : ZE zT_E50 563 := (ZE.or zc176_ok (zc315_ok) (by decide) (by decide) : ZE (zS_or zc176 (zc315)) 563)
theorem zT_50_0 : zT_go 50 0 (zX zT_E50 10) zT_w0 = true := by decide +kernel
theorem zT_50_1 : zT_go 50 0 (zX zT_E50 10) zT_w1 = true := by decide +kernel
theorem zT_k50 : zT_ok 50 zT_w0 ∧ zT_ok 50 zT_w1 := ⟨⟨zT_E50, 563, 10, 0, by decide, by decide, by decide, zT_E50_ok, zT_50_0⟩, ⟨zT_E50, 563, 10, 0, by decide, by decide, by decide, zT_E50_ok, zT_50_1⟩⟩
noncomputable def zT_E51 : ECal := zS_or zc177 (zc316)
theorem zT_E51_ok : ZE zT_E51 563 := (ZE.or zc177_ok (zc316_ok) (by decide) (by decide) : ZE (zS_or zc177 (zc316)) 563)
theorem zT_51_0 : zT_go 51 0 (zX zT_E51 10) zT_w0 = true := by decide +kernel
theorem zT_51_1 : zT_go 51 0 (zX zT_E51 10) zT_w1 = true := by decide +kernel
theorem zT_k51 : zT_ok 51 zT_w0 ∧ zT_ok 51 zT_w1 := ⟨⟨zT_E51, 563, 10, 0, by decide, by decide, by decide, zT_E51_ok, zT_51_0⟩, ⟨zT_E51, 563, 10, 0, by decide, by decide, by decide, zT_E51_ok, zT_51_1⟩⟩
noncomputable def zT_E52 : ECal := zS_or zc178 (zc317)
theorem zT_E52_ok : ZE zT_E52 590 := (ZE.or zc178_ok (zc317_ok) (by decide) (by decide) : ZE (zS_or zc178 (zc317)) 590)
theorem zT_52_0 : zT_go 52 0 (zX zT_E52 10) zT_w0 = true := by decide +kernel
theorem zT_52_1 : zT_go 52 0 (zX zT_E52 10) zT_w1 = true := by decide +kernel
theorem zT_k52 : zT_ok 52 zT_w0 ∧ zT_ok 52 zT_w1 := ⟨⟨zT_E52, 590, 10, 0, by decide, by decide, by decide, zT_E52_ok, zT_52_0⟩, ⟨zT_E52, 590, 10, 0, by decide, by decide, by decide, zT_E52_ok, zT_52_1⟩⟩
noncomputable def zT_E53 : ECal := zc318
theorem zT_E53_ok : ZE zT_E53 563 := zc318_ok
theorem zT_53_0 : zT_go 53 4 (zX zT_E53 10) zT_w0 = true := by decide +kernel
theorem zT_53_1 : zT_go 53 4 (zX zT_E53 10) zT_w1 = true := by decide +kernel
theorem zT_k53 : zT_ok 53 zT_w0 ∧ zT_ok 53 zT_w1 := ⟨⟨zT_E53, 563, 10, 4, by decide, by decide, by decide, zT_E53_ok, zT_53_0⟩, ⟨zT_E53, 563, 10, 4, by decide, by decide, by decide, zT_E53_ok, zT_53_1⟩⟩
theorem zT_54_0 : (zT_go 54 0 (zX zS_no 10) zT_w0 && zT_go 55 0 (zX zS_no 10) zT_w0 && zT_go 56 0 (zX zS_no 10) zT_w0 && zT_go 57 0 (zX zS_no 10) zT_w0 && zT_go 58 0 (zX zS_no 10) zT_w0 && zT_go 59 0 (zX zS_no 10) zT_w0 && zT_go 60 0 (zX zS_no 10) zT_w0 && zT_go 61 0 (zX zS_no 10) zT_w0 && zT_go 62 0 (zX zS_no 10) zT_w0 && zT_go 63 0 (zX zS_no 10) zT_w0) = true := by decide +kernel
theorem zT_54_1 : (zT_go 54 0 (zX zS_no 10) zT_w1 && zT_go 55 0 (zX zS_no 10) zT_w1 && zT_go 56 0 (zX zS_no 10) zT_w1 && zT_go 57 0 (zX zS_no 10) zT_w1 && zT_go 58 0 (zX zS_no 10) zT_w1 && zT_go 59 0 (zX zS_no 10) zT_w1 && zT_go 60 0 (zX zS_no 10) zT_w1 && zT_go 61 0 (zX zS_no 10) zT_w1 && zT_go 62 0 (zX zS_no 10) zT_w1 && zT_go 63 0 (zX zS_no 10) zT_w1) = true := by decide +kernel

/-! the cases of the law -/
noncomputable def zT_E14 : ECal := zS_or zc140 (zc264)
theorem zT_E14_ok : ZE zT_E14 572 := (ZE.or zc140_ok (zc264_ok) (by decide) (by decide) : ZE (zS_or zc140 (zc264)) 572)
theorem zT_14_0 : zT_go 14 0 (zX zT_E14 10) zT_w0 = true := by decide +kernel
theorem zT_14_1 : zT_go 14 0 (zX zT_E14 10) zT_w1 = true := by decide +kernel
theorem zT_k14 : zT_ok 14 zT_w0 ∧ zT_ok 14 zT_w1 := ⟨⟨zT_E14, 572, 10, 0, by decide, by decide, by decide, zT_E14_ok, zT_14_0⟩, ⟨zT_E14, 572, 10, 0, by decide, by decide, by decide, zT_E14_ok, zT_14_1⟩⟩
noncomputable def zT_E15 : ECal := zS_or zc141 (zc265)
theorem zT_E15_ok : ZE zT_E15 572 := (ZE.or zc141_ok (zc265_ok) (by decide) (by decide) : ZE (zS_or zc141 (zc265)) 572)
theorem zT_15_0 : zT_go 15 0 (zX zT_E15 10) zT_w0 = true := by decide +kernel
theorem zT_15_1 : zT_go 15 0 (zX zT_E15 10) zT_w1 = true := by decide +kernel
theorem zT_k15 : zT_ok 15 zT_w0 ∧ zT_ok 15 zT_w1 := ⟨⟨zT_E15, 572, 10, 0, by decide, by decide, by decide, zT_E15_ok, zT_15_0⟩, ⟨zT_E15, 572, 10, 0, by decide, by decide, by decide, zT_E15_ok, zT_15_1⟩⟩
noncomputable def zT_E16 : ECal := zS_or zc142 (zc266)
theorem zT_E16_ok : ZE zT_E16 572 := (ZE.or zc142_ok (zc266_ok) (by decide) (by decide) : ZE (zS_or zc142 (zc266)) 572)
theorem zT_16_0 : zT_go 16 0 (zX zT_E16 10) zT_w0 = true := by decide +kernel
theorem zT_16_1 : zT_go 16 0 (zX zT_E16 10) zT_w1 = true := by decide +kernel
theorem zT_k16 : zT_ok 16 zT_w0 ∧ zT_ok 16 zT_w1 := ⟨⟨zT_E16, 572, 10, 0, by decide, by decide, by decide, zT_E16_ok, zT_16_0⟩, ⟨zT_E16, 572, 10, 0, by decide, by decide, by decide, zT_E16_ok, zT_16_1⟩⟩
noncomputable def zT_E17 : ECal := zS_or zc143 (zc269)
theorem zT_E17_ok : ZE zT_E17 635 := (ZE.or zc143_ok (zc269_ok) (by decide) (by decide) : ZE (zS_or zc143 (zc269)) 635)
theorem zT_17_0 : zT_go 17 0 (zX zT_E17 10) zT_w0 = true := by decide +kernel
theorem zT_17_1 : zT_go 17 0 (zX zT_E17 10) zT_w1 = true := by decide +kernel
theorem zT_k17 : zT_ok 17 zT_w0 ∧ zT_ok 17 zT_w1 := ⟨⟨zT_E17, 635, 10, 0, by decide, by decide, by decide, zT_E17_ok, zT_17_0⟩, ⟨zT_E17, 635, 10, 0, by decide, by decide, by decide, zT_E17_ok, zT_17_1⟩⟩
noncomputable def zT_E18 : ECal := zS_or zc144 (zc247)
theorem zT_E18_ok : ZE zT_E18 563 := (ZE.or zc144_ok (zc247_ok) (by decide) (by decide) : ZE (zS_or zc144 (zc247)) 563)
theorem zT_18_0 : zT_go 18 0 (zX zT_E18 10) zT_w0 = true := by decide +kernel
theorem zT_18_1 : zT_go 18 0 (zX zT_E18 10) zT_w1 = true := by decide +kernel
theorem zT_k18 : zT_ok 18 zT_w0 ∧ zT_ok 18 zT_w1 := ⟨⟨zT_E18, 563, 10, 0, by decide, by decide, by decide, zT_E18_ok, zT_18_0⟩, ⟨zT_E18, 563, 10, 0, by decide, by decide, by decide, zT_E18_ok, zT_18_1⟩⟩
noncomputable def zT_E19 : ECal := zS_or zc145 (zc270)
theorem zT_E19_ok : ZE zT_E19 608 := (ZE.or zc145_ok (zc270_ok) (by decide) (by decide) : ZE (zS_or zc145 (zc270)) 608)
theorem zT_19_0 : zT_go 19 0 (zX zT_E19 10) zT_w0 = true := by decide +kernel
theorem zT_19_1 : zT_go 19 0 (zX zT_E19 10) zT_w1 = true := by decide +kernel
theorem zT_k19 : zT_ok 19 zT_w0 ∧ zT_ok 19 zT_w1 := ⟨⟨zT_E19, 608, 10, 0, by decide, by decide, by decide, zT_E19_ok, zT_19_0⟩, ⟨zT_E19, 608, 10, 0, by decide, by decide, by decide, zT_E19_ok, zT_19_1⟩⟩
noncomputable def zT_E20 : ECal := zS_or zc146 (zc271)
theorem zT_E20_ok : ZE zT_E20 599 := (ZE.or zc146_ok (zc271_ok) (by decide) (by decide) : ZE (zS_or zc146 (zc271)) 599)
theorem zT_20_0 : zT_go 20 0 (zX zT_E20 10) zT_w0 = true := by decide +kernel
theorem zT_20_1 : zT_go 20 0 (zX zT_E20 10) zT_w1 = true := by decide +kernel
theorem zT_k20 : zT_ok 20 zT_w0 ∧ zT_ok 20 zT_w1 := ⟨⟨zT_E20, 599, 10, 0, by decide, by decide, by decide, zT_E20_ok, zT_20_0⟩, ⟨zT_E20, 599, 10, 0, by decide, by decide, by decide, zT_E20_ok, zT_20_1⟩⟩
noncomputable def zT_E21 : ECal := zS_or zc147 (zc272)
theorem zT_E21_ok : ZE zT_E21 599 := (ZE.or zc147_ok (zc272_ok) (by decide) (by decide) : ZE (zS_or zc147 (zc272)) 599)
theorem zT_21_0 : zT_go 21 0 (zX zT_E21 10) zT_w0 = true := by decide +kernel
theorem zT_21_1 : zT_go 21 0 (zX zT_E21 10) zT_w1 = true := by decide +kernel
theorem zT_k21 : zT_ok 21 zT_w0 ∧ zT_ok 21 zT_w1 := ⟨⟨zT_E21, 599, 10, 0, by decide, by decide, by decide, zT_E21_ok, zT_21_0⟩, ⟨zT_E21, 599, 10, 0, by decide, by decide, by decide, zT_E21_ok, zT_21_1⟩⟩
noncomputable def zT_E22 : ECal := zS_or zc148 (zc273)
theorem zT_E22_ok : ZE zT_E22 608 := (ZE.or zc148_ok (zc273_ok) (by decide) (by decide) : ZE (zS_or zc148 (zc273)) 608)
theorem zT_22_0 : zT_go 22 0 (zX zT_E22 10) zT_w0 = true := by decide +kernel
theorem zT_22_1 : zT_go 22 0 (zX zT_E22 10) zT_w1 = true := by decide +kernel
theorem zT_k22 : zT_ok 22 zT_w0 ∧ zT_ok 22 zT_w1 := ⟨⟨zT_E22, 608, 10, 0, by decide, by decide, by decide, zT_E22_ok, zT_22_0⟩, ⟨zT_E22, 608, 10, 0, by decide, by decide, by decide, zT_E22_ok, zT_22_1⟩⟩
noncomputable def zT_E23 : ECal := zS_or zc149 (zc274)
theorem zT_E23_ok : ZE zT_E23 608 := (ZE.or zc149_ok (zc274_ok) (by decide) (by decide) : ZE (zS_or zc149 (zc274)) 608)
theorem zT_23_0 : zT_go 23 0 (zX zT_E23 10) zT_w0 = true := by decide +kernel
theorem zT_23_1 : zT_go 23 0 (zX zT_E23 10) zT_w1 = true := by decide +kernel
theorem zT_k23 : zT_ok 23 zT_w0 ∧ zT_ok 23 zT_w1 := ⟨⟨zT_E23, 608, 10, 0, by decide, by decide, by decide, zT_E23_ok, zT_23_0⟩, ⟨zT_E23, 608, 10, 0, by decide, by decide, by decide, zT_E23_ok, zT_23_1⟩⟩
noncomputable def zT_E24 : ECal := zS_or zc150 (zc276)
theorem zT_E24_ok : ZE zT_E24 608 := (ZE.or zc150_ok (zc276_ok) (by decide) (by decide) : ZE (zS_or zc150 (zc276)) 608)
theorem zT_24_0 : zT_go 24 0 (zX zT_E24 10) zT_w0 = true := by decide +kernel
theorem zT_24_1 : zT_go 24 0 (zX zT_E24 10) zT_w1 = true := by decide +kernel
theorem zT_k24 : zT_ok 24 zT_w0 ∧ zT_ok 24 zT_w1 := ⟨⟨zT_E24, 608, 10, 0, by decide, by decide, by decide, zT_E24_ok, zT_24_0⟩, ⟨zT_E24, 608, 10, 0, by decide, by decide, by decide, zT_E24_ok, zT_24_1⟩⟩
noncomputable def zT_E25 : ECal := zS_or zc151 (zc277)
theorem zT_E25_ok : ZE zT_E25 608 := (ZE.or zc151_ok (zc277_ok) (by decide) (by decide) : ZE (zS_or zc151 (zc277)) 608)
theorem zT_25_0 : zT_go 25 0 (zX zT_E25 10) zT_w0 = true := by decide +kernel
theorem zT_25_1 : zT_go 25 0 (zX zT_E25 10) zT_w1 = true := by decide +kernel
theorem zT_k25 : zT_ok 25 zT_w0 ∧ zT_ok 25 zT_w1 := ⟨⟨zT_E25, 608, 10, 0, by decide, by decide, by decide, zT_E25_ok, zT_25_0⟩, ⟨zT_E25, 608, 10, 0, by decide, by decide, by decide, zT_E25_ok, zT_25_1⟩⟩
noncomputable def zT_E26 : ECal := zS_or zc152 (zc278)
theorem zT_E26_ok : ZE zT_E26 563 := (ZE.or zc152_ok (zc278_ok) (by decide) (by decide) : ZE (zS_or zc152 (zc278)) 563)
theorem zT_26_0 : zT_go 26 0 (zX zT_E26 10) zT_w0 = true := by decide +kernel
theorem zT_26_1 : zT_go 26 0 (zX zT_E26 10) zT_w1 = true := by decide +kernel
theorem zT_k26 : zT_ok 26 zT_w0 ∧ zT_ok 26 zT_w1 := ⟨⟨zT_E26, 563, 10, 0, by decide, by decide, by decide, zT_E26_ok, zT_26_0⟩, ⟨zT_E26, 563, 10, 0, by decide, by decide, by decide, zT_E26_ok, zT_26_1⟩⟩
noncomputable def zT_E27 : ECal := zS_or zc153 (zc281)
theorem zT_E27_ok : ZE zT_E27 590 := (ZE.or zc153_ok (zc281_ok) (by decide) (by decide) : ZE (zS_or zc153 (zc281)) 590)
theorem zT_27_0 : zT_go 27 0 (zX zT_E27 10) zT_w0 = true := by decide +kernel
theorem zT_27_1 : zT_go 27 0 (zX zT_E27 10) zT_w1 = true := by decide +kernel
theorem zT_k27 : zT_ok 27 zT_w0 ∧ zT_ok 27 zT_w1 := ⟨⟨zT_E27, 590, 10, 0, by decide, by decide, by decide, zT_E27_ok, zT_27_0⟩, ⟨zT_E27, 590, 10, 0, by decide, by decide, by decide, zT_E27_ok, zT_27_1⟩⟩

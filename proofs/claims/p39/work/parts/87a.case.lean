/-! the cases of the law -/
noncomputable def zT_E0 : ECal := zS_or zc126 (zc215)
theorem zT_E0_ok : ZE zT_E0 563 := (ZE.or zc126_ok (zc215_ok) (by decide) (by decide) : ZE (zS_or zc126 (zc215)) 563)
theorem zT_0_0 : zT_go 0 0 (zX zT_E0 10) zT_w0 = true := by decide +kernel
theorem zT_0_1 : zT_go 0 0 (zX zT_E0 10) zT_w1 = true := by decide +kernel
theorem zT_k0 : zT_ok 0 zT_w0 ∧ zT_ok 0 zT_w1 := ⟨⟨zT_E0, 563, 10, 0, by decide, by decide, by decide, zT_E0_ok, zT_0_0⟩, ⟨zT_E0, 563, 10, 0, by decide, by decide, by decide, zT_E0_ok, zT_0_1⟩⟩
noncomputable def zT_E1 : ECal := zS_or zc127 (zc216)
theorem zT_E1_ok : ZE zT_E1 563 := (ZE.or zc127_ok (zc216_ok) (by decide) (by decide) : ZE (zS_or zc127 (zc216)) 563)
theorem zT_1_0 : zT_go 1 0 (zX zT_E1 10) zT_w0 = true := by decide +kernel
theorem zT_1_1 : zT_go 1 0 (zX zT_E1 10) zT_w1 = true := by decide +kernel
theorem zT_k1 : zT_ok 1 zT_w0 ∧ zT_ok 1 zT_w1 := ⟨⟨zT_E1, 563, 10, 0, by decide, by decide, by decide, zT_E1_ok, zT_1_0⟩, ⟨zT_E1, 563, 10, 0, by decide, by decide, by decide, zT_E1_ok, zT_1_1⟩⟩
noncomputable def zT_E2 : ECal := zS_or zc128 (zc226)
theorem zT_E2_ok : ZE zT_E2 572 := (ZE.or zc128_ok (zc226_ok) (by decide) (by decide) : ZE (zS_or zc128 (zc226)) 572)
theorem zT_2_0 : zT_go 2 0 (zX zT_E2 10) zT_w0 = true := by decide +kernel
theorem zT_2_1 : zT_go 2 0 (zX zT_E2 10) zT_w1 = true := by decide +kernel
theorem zT_k2 : zT_ok 2 zT_w0 ∧ zT_ok 2 zT_w1 := ⟨⟨zT_E2, 572, 10, 0, by decide, by decide, by decide, zT_E2_ok, zT_2_0⟩, ⟨zT_E2, 572, 10, 0, by decide, by decide, by decide, zT_E2_ok, zT_2_1⟩⟩
noncomputable def zT_E3 : ECal := zS_or zc129 (zc227)
theorem zT_E3_ok : ZE zT_E3 572 := (ZE.or zc129_ok (zc227_ok) (by decide) (by decide) : ZE (zS_or zc129 (zc227)) 572)
theorem zT_3_0 : zT_go 3 0 (zX zT_E3 10) zT_w0 = true := by decide +kernel
theorem zT_3_1 : zT_go 3 0 (zX zT_E3 10) zT_w1 = true := by decide +kernel
theorem zT_k3 : zT_ok 3 zT_w0 ∧ zT_ok 3 zT_w1 := ⟨⟨zT_E3, 572, 10, 0, by decide, by decide, by decide, zT_E3_ok, zT_3_0⟩, ⟨zT_E3, 572, 10, 0, by decide, by decide, by decide, zT_E3_ok, zT_3_1⟩⟩
noncomputable def zT_E4 : ECal := zS_or zc130 (zc233)
theorem zT_E4_ok : ZE zT_E4 572 := (ZE.or zc130_ok (zc233_ok) (by decide) (by decide) : ZE (zS_or zc130 (zc233)) 572)
theorem zT_4_0 : zT_go 4 0 (zX zT_E4 10) zT_w0 = true := by decide +kernel
theorem zT_4_1 : zT_go 4 0 (zX zT_E4 10) zT_w1 = true := by decide +kernel
theorem zT_k4 : zT_ok 4 zT_w0 ∧ zT_ok 4 zT_w1 := ⟨⟨zT_E4, 572, 10, 0, by decide, by decide, by decide, zT_E4_ok, zT_4_0⟩, ⟨zT_E4, 572, 10, 0, by decide, by decide, by decide, zT_E4_ok, zT_4_1⟩⟩
noncomputable def zT_E5 : ECal := zS_or zc100 (zS_or zc99 (zS_or zc105 (zc239)))
theorem zT_E5_ok : ZE zT_E5 581 := (ZE.or zc100_ok ((ZE.or zc99_ok ((ZE.or zc105_ok (zc239_ok) (by decide) (by decide) : ZE (zS_or zc105 (zc239)) 581)) (by decide) (by decide) : ZE (zS_or zc99 (zS_or zc105 (zc239))) 581)) (by decide) (by decide) : ZE (zS_or zc100 (zS_or zc99 (zS_or zc105 (zc239)))) 581)
theorem zT_5_0 : zT_go 5 1 (zX zT_E5 10) zT_w0 = true := by decide +kernel
theorem zT_5_1 : zT_go 5 1 (zX zT_E5 10) zT_w1 = true := by decide +kernel
theorem zT_k5 : zT_ok 5 zT_w0 ∧ zT_ok 5 zT_w1 := ⟨⟨zT_E5, 581, 10, 1, by decide, by decide, by decide, zT_E5_ok, zT_5_0⟩, ⟨zT_E5, 581, 10, 1, by decide, by decide, by decide, zT_E5_ok, zT_5_1⟩⟩
noncomputable def zT_E6 : ECal := zc240
theorem zT_E6_ok : ZE zT_E6 563 := zc240_ok
theorem zT_6_0 : zT_go 6 2 (zX zT_E6 10) zT_w0 = true := by decide +kernel
theorem zT_6_1 : zT_go 6 2 (zX zT_E6 10) zT_w1 = true := by decide +kernel
theorem zT_k6 : zT_ok 6 zT_w0 ∧ zT_ok 6 zT_w1 := ⟨⟨zT_E6, 563, 10, 2, by decide, by decide, by decide, zT_E6_ok, zT_6_0⟩, ⟨zT_E6, 563, 10, 2, by decide, by decide, by decide, zT_E6_ok, zT_6_1⟩⟩
noncomputable def zT_E7 : ECal := zS_or zc98 (zS_or zc106 (zc242))
theorem zT_E7_ok : ZE zT_E7 581 := (ZE.or zc98_ok ((ZE.or zc106_ok (zc242_ok) (by decide) (by decide) : ZE (zS_or zc106 (zc242)) 581)) (by decide) (by decide) : ZE (zS_or zc98 (zS_or zc106 (zc242))) 581)
theorem zT_7_0 : zT_go 7 3 (zX zT_E7 10) zT_w0 = true := by decide +kernel
theorem zT_7_1 : zT_go 7 3 (zX zT_E7 10) zT_w1 = true := by decide +kernel
theorem zT_k7 : zT_ok 7 zT_w0 ∧ zT_ok 7 zT_w1 := ⟨⟨zT_E7, 581, 10, 3, by decide, by decide, by decide, zT_E7_ok, zT_7_0⟩, ⟨zT_E7, 581, 10, 3, by decide, by decide, by decide, zT_E7_ok, zT_7_1⟩⟩
noncomputable def zT_E8 : ECal := zS_or zc134 (zc243)
theorem zT_E8_ok : ZE zT_E8 563 := (ZE.or zc134_ok (zc243_ok) (by decide) (by decide) : ZE (zS_or zc134 (zc243)) 563)
theorem zT_8_0 : zT_go 8 0 (zX zT_E8 10) zT_w0 = true := by decide +kernel
theorem zT_8_1 : zT_go 8 0 (zX zT_E8 10) zT_w1 = true := by decide +kernel
theorem zT_k8 : zT_ok 8 zT_w0 ∧ zT_ok 8 zT_w1 := ⟨⟨zT_E8, 563, 10, 0, by decide, by decide, by decide, zT_E8_ok, zT_8_0⟩, ⟨zT_E8, 563, 10, 0, by decide, by decide, by decide, zT_E8_ok, zT_8_1⟩⟩
noncomputable def zT_E9 : ECal := zS_or zc135 (zc259)
theorem zT_E9_ok : ZE zT_E9 572 := (ZE.or zc135_ok (zc259_ok) (by decide) (by decide) : ZE (zS_or zc135 (zc259)) 572)
theorem zT_9_0 : zT_go 9 0 (zX zT_E9 10) zT_w0 = true := by decide +kernel
theorem zT_9_1 : zT_go 9 0 (zX zT_E9 10) zT_w1 = true := by decide +kernel
theorem zT_k9 : zT_ok 9 zT_w0 ∧ zT_ok 9 zT_w1 := ⟨⟨zT_E9, 572, 10, 0, by decide, by decide, by decide, zT_E9_ok, zT_9_0⟩, ⟨zT_E9, 572, 10, 0, by decide, by decide, by decide, zT_E9_ok, zT_9_1⟩⟩
noncomputable def zT_E10 : ECal := zS_or zc136 (zc260)
theorem zT_E10_ok : ZE zT_E10 572 := (ZE.or zc136_ok (zc260_ok) (by decide) (by decide) : ZE (zS_or zc136 (zc260)) 572)
theorem zT_10_0 : zT_go 10 0 (zX zT_E10 10) zT_w0 = true := by decide +kernel
theorem zT_10_1 : zT_go 10 0 (zX zT_E10 10) zT_w1 = true := by decide +kernel
theorem zT_k10 : zT_ok 10 zT_w0 ∧ zT_ok 10 zT_w1 := ⟨⟨zT_E10, 572, 10, 0, by decide, by decide, by decide, zT_E10_ok, zT_10_0⟩, ⟨zT_E10, 572, 10, 0, by decide, by decide, by decide, zT_E10_ok, zT_10_1⟩⟩
noncomputable def zT_E11 : ECal := zS_or zc137 (zc261)
theorem zT_E11_ok : ZE zT_E11 572 := (ZE.or zc137_ok (zc261_ok) (by decide) (by decide) : ZE (zS_or zc137 (zc261)) 572)
theorem zT_11_0 : zT_go 11 0 (zX zT_E11 10) zT_w0 = true := by decide +kernel
theorem zT_11_1 : zT_go 11 0 (zX zT_E11 10) zT_w1 = true := by decide +kernel
theorem zT_k11 : zT_ok 11 zT_w0 ∧ zT_ok 11 zT_w1 := ⟨⟨zT_E11, 572, 10, 0, by decide, by decide, by decide, zT_E11_ok, zT_11_0⟩, ⟨zT_E11, 572, 10, 0, by decide, by decide, by decide, zT_E11_ok, zT_11_1⟩⟩
noncomputable def zT_E12 : ECal := zS_or zc138 (zc262)
theorem zT_E12_ok : ZE zT_E12 608 := (ZE.or zc138_ok (zc262_ok) (by decide) (by decide) : ZE (zS_or zc138 (zc262)) 608)
theorem zT_12_0 : zT_go 12 0 (zX zT_E12 10) zT_w0 = true := by decide +kernel
theorem zT_12_1 : zT_go 12 0 (zX zT_E12 10) zT_w1 = true := by decide +kernel
theorem zT_k12 : zT_ok 12 zT_w0 ∧ zT_ok 12 zT_w1 := ⟨⟨zT_E12, 608, 10, 0, by decide, by decide, by decide, zT_E12_ok, zT_12_0⟩, ⟨zT_E12, 608, 10, 0, by decide, by decide, by decide, zT_E12_ok, zT_12_1⟩⟩
noncomputable def zT_E13 : ECal := zS_or zc139 (zc263)
theorem zT_E13_ok : ZE zT_E13 572 := (ZE.or zc139_ok (zc263_ok) (by decide) (by decide) : ZE (zS_or zc139 (zc263)) 572)
theorem zT_13_0 : zT_go 13 0 (zX zT_E13 10) zT_w0 = true := by decide +kernel
theorem zT_13_1 : zT_go 13 0 (zX zT_E13 10) zT_w1 = true := by decide +kernel
theorem zT_k13 : zT_ok 13 zT_w0 ∧ zT_ok 13 zT_w1 := ⟨⟨zT_E13, 572, 10, 0, by decide, by decide, by decide, zT_E13_ok, zT_13_0⟩, ⟨zT_E13, 572, 10, 0, by decide, by decide, by decide, zT_E13_ok, zT_13_1⟩⟩

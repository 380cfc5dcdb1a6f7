/-! the cases of the law -/
noncomputable def zT_E28 : ECal := zS_or zc154 (zc283)
theorem zT_E28_ok : ZE zT_E28 626 := (ZE.or zc154_ok (zc283_ok) (by decide) (by decide) : ZE (zS_or zc154 (zc283)) 626)
theorem zT_28_0 : zT_go 28 0 (zX zT_E28 10) zT_w0 = true := by decide +kernel
theorem zT_28_1 : zT_go 28 0 (zX zT_E28 10) zT_w1 = true := by decide +kernel
theorem zT_k28 : zT_ok 28 zT_w0 ∧ zT_ok 28 zT_w1 := ⟨⟨zT_E28, 626, 10, 0, by decide, by decide, by decide, zT_E28_ok, zT_28_0⟩, ⟨zT_E28, 626, 10, 0, by decide, by decide, by decide, zT_E28_ok, zT_28_1⟩⟩
noncomputable def zT_E29 : ECal := zS_or zc155 (zc284)
theorem zT_E29_ok : ZE zT_E29 572 := (ZE.or zc155_ok (zc284_ok) (by decide) (by decide) : ZE (zS_or zc155 (zc284)) 572)
theorem zT_29_0 : zT_go 29 0 (zX zT_E29 10) zT_w0 = true := by decide +kernel
theorem zT_29_1 : zT_go 29 0 (zX zT_E29 10) zT_w1 = true := by decide +kernel
theorem zT_k29 : zT_ok 29 zT_w0 ∧ zT_ok 29 zT_w1 := ⟨⟨zT_E29, 572, 10, 0, by decide, by decide, by decide, zT_E29_ok, zT_29_0⟩, ⟨zT_E29, 572, 10, 0, by decide, by decide, by decide, zT_E29_ok, zT_29_1⟩⟩
noncomputable def zT_E30 : ECal := zS_or zc156 (zc285)
theorem zT_E30_ok : ZE zT_E30 635 := (ZE.or zc156_ok (zc285_ok) (by decide) (by decide) : ZE (zS_or zc156 (zc285)) 635)
theorem zT_30_0 : zT_go 30 0 (zX zT_E30 10) zT_w0 = true := by decide +kernel
theorem zT_30_1 : zT_go 30 0 (zX zT_E30 10) zT_w1 = true := by decide +kernel
theorem zT_k30 : zT_ok 30 zT_w0 ∧ zT_ok 30 zT_w1 := ⟨⟨zT_E30, 635, 10, 0, by decide, by decide, by decide, zT_E30_ok, zT_30_0⟩, ⟨zT_E30, 635, 10, 0, by decide, by decide, by decide, zT_E30_ok, zT_30_1⟩⟩
noncomputable def zT_E31 : ECal := zS_or zc157 (zc287)
theorem zT_E31_ok : ZE zT_E31 599 := (ZE.or zc157_ok (zc287_ok) (by decide) (by decide) : ZE (zS_or zc157 (zc287)) 599)
theorem zT_31_0 : zT_go 31 0 (zX zT_E31 10) zT_w0 = true := by decide +kernel
theorem zT_31_1 : zT_go 31 0 (zX zT_E31 10) zT_w1 = true := by decide +kernel
theorem zT_k31 : zT_ok 31 zT_w0 ∧ zT_ok 31 zT_w1 := ⟨⟨zT_E31, 599, 10, 0, by decide, by decide, by decide, zT_E31_ok, zT_31_0⟩, ⟨zT_E31, 599, 10, 0, by decide, by decide, by decide, zT_E31_ok, zT_31_1⟩⟩
noncomputable def zT_E32 : ECal := zS_or zc158 (zc288)
theorem zT_E32_ok : ZE zT_E32 599 := (ZE.or zc158_ok (zc288_ok) (by decide) (by decide) : ZE (zS_or zc158 (zc288)) 599)
theorem zT_32_0 : zT_go 32 0 (zX zT_E32 10) zT_w0 = true := by decide +kernel
theorem zT_32_1 : zT_go 32 0 (zX zT_E32 10) zT_w1 = true := by decide +kernel
theorem zT_k32 : zT_ok 32 zT_w0 ∧ zT_ok 32 zT_w1 := ⟨⟨zT_E32, 599, 10, 0, by decide, by decide, by decide, zT_E32_ok, zT_32_0⟩, ⟨zT_E32, 599, 10, 0, by decide, by decide, by decide, zT_E32_ok, zT_32_1⟩⟩
noncomputable def zT_E33 : ECal := zS_or zc159 (zc289)
theorem zT_E33_ok : ZE zT_E33 563 := (ZE.or zc159_ok (zc289_ok) (by decide) (by decide) : ZE (zS_or zc159 (zc289)) 563)
theorem zT_33_0 : zT_go 33 0 (zX zT_E33 10) zT_w0 = true := by decide +kernel
theorem zT_33_1 : zT_go 33 0 (zX zT_E33 10) zT_w1 = true := by decide +kernel
theorem zT_k33 : zT_ok 33 zT_w0 ∧ zT_ok 33 zT_w1 := ⟨⟨zT_E33, 563, 10, 0, by decide, by decide, by decide, zT_E33_ok, zT_33_0⟩, ⟨zT_E33, 563, 10, 0, by decide, by decide, by decide, zT_E33_ok, zT_33_1⟩⟩
noncomputable def zT_E34 : ECal := zS_or zc160 (zc290)
theorem zT_E34_ok : ZE zT_E34 563 := (ZE.or zc160_ok (zc290_ok) (by decide) (by decide) : ZE (zS_or zc160 (zc290)) 563)
theorem zT_34_0 : zT_go 34 0 (zX zT_E34 10) zT_w0 = true := by decide +kernel
theorem zT_34_1 : zT_go 34 0 (zX zT_E34 10) zT_w1 = true := by decide +kernel
theorem zT_k34 : zT_ok 34 zT_w0 ∧ zT_ok 34 zT_w1 := ⟨⟨zT_E34, 563, 10, 0, by decide, by decide, by decide, zT_E34_ok, zT_34_0⟩, ⟨zT_E34, 563, 10, 0, by decide, by decide, by decide, zT_E34_ok, zT_34_1⟩⟩
noncomputable def zT_E35 : ECal := zS_or zc161 (zc292)
theorem zT_E35_ok : ZE zT_E35 599 := (ZE.or zc161_ok (zc292_ok) (by decide) (by decide) : ZE (zS_or zc161 (zc292)) 599)
theorem zT_35_0 : zT_go 35 0 (zX zT_E35 10) zT_w0 = true := by decide +kernel
theorem zT_35_1 : zT_go 35 0 (zX zT_E35 10) zT_w1 = true := by decide +kernel
theorem zT_k35 : zT_ok 35 zT_w0 ∧ zT_ok 35 zT_w1 := ⟨⟨zT_E35, 599, 10, 0, by decide, by decide, by decide, zT_E35_ok, zT_35_0⟩, ⟨zT_E35, 599, 10, 0, by decide, by decide, by decide, zT_E35_ok, zT_35_1⟩⟩
noncomputable def zT_E36 : ECal := zS_or zc162 (zc293)
theorem zT_E36_ok : ZE zT_E36 599 := (ZE.or zc162_ok (zc293_ok) (by decide) (by decide) : ZE (zS_or zc162 (zc293)) 599)
theorem zT_36_0 : zT_go 36 0 (zX zT_E36 10) zT_w0 = true := by decide +kernel
theorem zT_36_1 : zT_go 36 0 (zX zT_E36 10) zT_w1 = true := by decide +kernel
theorem zT_k36 : zT_ok 36 zT_w0 ∧ zT_ok 36 zT_w1 := ⟨⟨zT_E36, 599, 10, 0, by decide, by decide, by decide, zT_E36_ok, zT_36_0⟩, ⟨zT_E36, 599, 10, 0, by decide, by decide, by decide, zT_E36_ok, zT_36_1⟩⟩
theorem zT_37_0_0 : zT_F 37 0 (zX zS_no 10) zT_w0 (ze_s (2147483648, 2147483648) zT_g 145) = true := by decide +kernel
theorem zT_37_0_1 : zT_F 37 0 (zX zS_no 10) zT_w0 (ze_s (Nat.succ 2147483648, 2147483649) zT_g 145) = true := by decide +kernel
theorem zT_37_0_2 : zT_F 37 0 (zX zS_no 10) zT_w0 (ze_s (Nat.succ 2147483649, 2147483650) zT_g 145) = true := by decide +kernel
theorem zT_37_0_3 : zT_F 37 0 (zX zS_no 10) zT_w0 (ze_s (Nat.succ 2147483650, 2147483651) zT_g 145) = true := by decide +kernel
theorem zT_37_0_4 : zT_F 37 0 (zX zS_no 10) zT_w0 (ze_s (Nat.succ 2147483651, 2147483652) zT_g 145) = true := by decide +kernel
theorem zT_37_0_5 : zT_F 37 0 (zX zS_no 10) zT_w0 (ze_s (Nat.succ 2147483652, 2147483653) zT_g 145) = true := by decide +kernel
theorem zT_37_0_6 : zT_F 37 0 (zX zS_no 10) zT_w0 (ze_s (Nat.succ 2147483653, 2147483654) zT_g 145) = true := by decide +kernel
theorem zT_37_0_7 : zT_F 37 0 (zX zS_no 10) zT_w0 (ze_s (Nat.succ 2147483654, 2147483655) zT_g 145) = true := by decide +kernel
theorem zT_37_0_8 : zT_F 37 0 (zX zS_no 10) zT_w0 (ze_s (Nat.succ 2147483655, 2147483656) zT_g 145) = true := by decide +kernel
theorem zT_37_0_9 : zT_F 37 0 (zX zS_no 10) zT_w0 (ze_s (Nat.succ 2147483656, 2147483657) zT_g 145) = true := by decide +kernel
theorem zT_37_0_10 : zT_F 37 0 (zX zS_no 10) zT_w0 (ze_s (Nat.succ 2147483657, 2147483658) zT_g 145) = true := by decide +kernel
theorem zT_37_0_11 : zT_F 37 0 (zX zS_no 10) zT_w0 (ze_s (Nat.succ 2147483658, 2147483659) zT_g 145) = true := by decide +kernel
theorem zT_37_0_12 : zT_F 37 0 (zX zS_no 10) zT_w0 (ze_s (Nat.succ 2147483659, 2147483660) zT_g 145) = true := by decide +kernel
theorem zT_37_0 : zT_go 37 0 (zX zS_no 10) zT_w0 = true := show zy_spl (zT_F 37 0 (zX zS_no 10) zT_w0) [(145, [2147483648, 2147483649, 2147483650, 2147483651, 2147483652, 2147483653, 2147483654, 2147483655, 2147483656, 2147483657, 2147483658, 2147483659])] zT_g = true from zy_sp1 (lo := 2147483648) (hi := 2147483660) (by decide +kernel) (zy_s1_c zT_37_0_0 (zy_s1_c zT_37_0_1 (zy_s1_c zT_37_0_2 (zy_s1_c zT_37_0_3 (zy_s1_c zT_37_0_4 (zy_s1_c zT_37_0_5 (zy_s1_c zT_37_0_6 (zy_s1_c zT_37_0_7 (zy_s1_c zT_37_0_8 (zy_s1_c zT_37_0_9 (zy_s1_c zT_37_0_10 (zy_s1_c zT_37_0_11 (zy_s1_n zT_37_0_12)))))))))))))
theorem zT_37_1_0 : zT_F 37 0 (zX zS_no 10) zT_w1 (ze_s (2147483648, 2147483648) zT_g 145) = true := by decide +kernel
theorem zT_37_1_1 : zT_F 37 0 (zX zS_no 10) zT_w1 (ze_s (Nat.succ 2147483648, 2147483649) zT_g 145) = true := by decide +kernel
theorem zT_37_1_2 : zT_F 37 0 (zX zS_no 10) zT_w1 (ze_s (Nat.succ 2147483649, 2147483650) zT_g 145) = true := by decide +kernel
theorem zT_37_1_3 : zT_F 37 0 (zX zS_no 10) zT_w1 (ze_s (Nat.succ 2147483650, 2147483651) zT_g 145) = true := by decide +kernel
theorem zT_37_1_4 : zT_F 37 0 (zX zS_no 10) zT_w1 (ze_s (Nat.succ 2147483651, 2147483652) zT_g 145) = true := by decide +kernel
theorem zT_37_1_5 : zT_F 37 0 (zX zS_no 10) zT_w1 (ze_s (Nat.succ 2147483652, 2147483653) zT_g 145) = true := by decide +kernel
theorem zT_37_1_6 : zT_F 37 0 (zX zS_no 10) zT_w1 (ze_s (Nat.succ 2147483653, 2147483654) zT_g 145) = true := by decide +kernel
theorem zT_37_1_7 : zT_F 37 0 (zX zS_no 10) zT_w1 (ze_s (Nat.succ 2147483654, 2147483655) zT_g 145) = true := by decide +kernel
theorem zT_37_1_8 : zT_F 37 0 (zX zS_no 10) zT_w1 (ze_s (Nat.succ 2147483655, 2147483656) zT_g 145) = true := by decide +kernel
theorem zT_37_1_9 : zT_F 37 0 (zX zS_no 10) zT_w1 (ze_s (Nat.succ 2147483656, 2147483657) zT_g 145) = true := by decide +kernel
theorem zT_37_1_10 : zT_F 37 0 (zX zS_no 10) zT_w1 (ze_s (Nat.succ 2147483657, 2147483658) zT_g 145) = true := by decide +kernel
theorem zT_37_1_11 : zT_F 37 0 (zX zS_no 10) zT_w1 (ze_s (Nat.succ 2147483658, 2147483659) zT_g 145) = true := by decide +kernel
theorem zT_37_1_12 : zT_F 37 0 (zX zS_no 10) zT_w1 (ze_s (Nat.succ 2147483659, 2147483660) zT_g 145) = true := by decide +kernel
theorem zT_37_1 : zT_go 37 0 (zX zS_no 10) zT_w1 = true := show zy_spl (zT_F 37 0 (zX zS_no 10) zT_w1) [(145, [2147483648, 2147483649, 2147483650, 2147483651, 2147483652, 2147483653, 2147483654, 2147483655, 2147483656, 2147483657, 2147483658, 2147483659])] zT_g = true from zy_sp1 (lo := 2147483648) (hi := 2147483660) (by decide +kernel) (zy_s1_c zT_37_1_0 (zy_s1_c zT_37_1_1 (zy_s1_c zT_37_1_2 (zy_s1_c zT_37_1_3 (zy_s1_c zT_37_1_4 (zy_s1_c zT_37_1_5 (zy_s1_c zT_37_1_6 (zy_s1_c zT_37_1_7 (zy_s1_c zT_37_1_8 (zy_s1_c zT_37_1_9 (zy_s1_c zT_37_1_10 (zy_s1_c zT_37_1_11 (zy_s1_n zT_37_1_12)))))))))))))
theorem zT_k37 : zT_ok 37 zT_w0 ∧ zT_ok 37 zT_w1 := ⟨⟨zS_no, 3, 10, 0, by decide, by decide, by decide, zS_no_ok, zT_37_0⟩, ⟨zS_no, 3, 10, 0, by decide, by decide, by decide, zS_no_ok, zT_37_1⟩⟩
theorem zT_38_0_0 : zT_F 38 0 (zX zS_no 10) zT_w0 (ze_s (2147483648, 2147483648) zT_g 145) = true := by decide +kernel
theorem zT_38_0_1 : zT_F 38 0 (zX zS_no 10) zT_w0 (ze_s (Nat.succ 2147483648, 2147483649) zT_g 145) = true := by decide +kernel
theorem zT_38_0_2 : zT_F 38 0 (zX zS_no 10) zT_w0 (ze_s (Nat.succ 2147483649, 2147483650) zT_g 145) = true := by decide +kernel
theorem zT_38_0_3 : zT_F 38 0 (zX zS_no 10) zT_w0 (ze_s (Nat.succ 2147483650, 2147483651) zT_g 145) = true := by decide +kernel
theorem zT_38_0_4 : zT_F 38 0 (zX zS_no 10) zT_w0 (ze_s (Nat.succ 2147483651, 2147483652) zT_g 145) = true := by decide +kernel
theorem zT_38_0_5 : zT_F 38 0 (zX zS_no 10) zT_w0 (ze_s (Nat.succ 2147483652, 2147483653) zT_g 145) = true := by decide +kernel
theorem zT_38_0_6 : zT_F 38 0 (zX zS_no 10) zT_w0 (ze_s (Nat.succ 2147483653, 2147483654) zT_g 145) = true := by decide +kernel
theorem zT_38_0_7 : zT_F 38 0 (zX zS_no 10) zT_w0 (ze_s (Nat.succ 2147483654, 2147483655) zT_g 145) = true := by decide +kernel
theorem zT_38_0_8 : zT_F 38 0 (zX zS_no 10) zT_w0 (ze_s (Nat.succ 2147483655, 2147483656) zT_g 145) = true := by decide +kernel
theorem zT_38_0_9 : zT_F 38 0 (zX zS_no 10) zT_w0 (ze_s (Nat.succ 2147483656, 2147483657) zT_g 145) = true := by decide +kernel
theorem zT_38_0_10 : zT_F 38 0 (zX zS_no 10) zT_w0 (ze_s (Nat.succ 2147483657, 2147483658) zT_g 145) = true := by decide +kernel
theorem zT_38_0_11 : zT_F 38 0 (zX zS_no 10) zT_w0 (ze_s (Nat.succ 2147483658, 2147483659) zT_g 145) = true := by decide +kernel
theorem zT_38_0_12 : zT_F 38 0 (zX zS_no 10) zT_w0 (ze_s (Nat.succ 2147483659, 2147483660) zT_g 145) = true := by decide +kernel
theorem zT_38_0 : zT_go 38 0 (zX zS_no 10) zT_w0 = true := show zy_spl (zT_F 38 0 (zX zS_no 10) zT_w0) [(145, [2147483648, 2147483649, 2147483650, 2147483651, 2147483652, 2147483653, 2147483654, 2147483655, 2147483656, 2147483657, 2147483658, 2147483659])] zT_g = true from zy_sp1 (lo := 2147483648) (hi := 2147483660) (by decide +kernel) (zy_s1_c zT_38_0_0 (zy_s1_c zT_38_0_1 (zy_s1_c zT_38_0_2 (zy_s1_c zT_38_0_3 (zy_s1_c zT_38_0_4 (zy_s1_c zT_38_0_5 (zy_s1_c zT_38_0_6 (zy_s1_c zT_38_0_7 (zy_s1_c zT_38_0_8 (zy_s1_c zT_38_0_9 (zy_s1_c zT_38_0_10 (zy_s1_c zT_38_0_11 (zy_s1_n zT_38_0_12)))))))))))))
theorem zT_38_1_0 : zT_F 38 0 (zX zS_no 10) zT_w1 (ze_s (2147483648, 2147483648) zT_g 145) = true := by decide +kernel
theorem zT_38_1_1 : zT_F 38 0 (zX zS_no 10) zT_w1 (ze_s (Nat.succ 2147483648, 2147483649) zT_g 145) = true := by decide +kernel
theorem zT_38_1_2 : zT_F 38 0 (zX zS_no 10) zT_w1 (ze_s (Nat.succ 2147483649, 2147483650) zT_g 145) = true := by decide +kernel
theorem zT_38_1_3 : zT_F 38 0 (zX zS_no 10) zT_w1 (ze_s (Nat.succ 2147483650, 2147483651) zT_g 145) = true := by decide +kernel
theorem zT_38_1_4 : zT_F 38 0 (zX zS_no 10) zT_w1 (ze_s (Nat.succ 2147483651, 2147483652) zT_g 145) = true := by decide +kernel
theorem zT_38_1_5 : zT_F 38 0 (zX zS_no 10) zT_w1 (ze_s (Nat.succ 2147483652, 2147483653) zT_g 145) = true := by decide +kernel
theorem zT_38_1_6 : zT_F 38 0 (zX zS_no 10) zT_w1 (ze_s (Nat.succ 2147483653, 2147483654) zT_g 145) = true := by decide +kernel
theorem zT_38_1_7 : zT_F 38 0 (zX zS_no 10) zT_w1 (ze_s (Nat.succ 2147483654, 2147483655) zT_g 145) = true := by decide +kernel
theorem zT_38_1_8 : zT_F 38 0 (zX zS_no 10) zT_w1 (ze_s (Nat.succ 2147483655, 2147483656) zT_g 145) = true := by decide +kernel
theorem zT_38_1_9 : zT_F 38 0 (zX zS_no 10) zT_w1 (ze_s (Nat.succ 2147483656, 2147483657) zT_g 145) = true := by decide +kernel
theorem zT_38_1_10 : zT_F 38 0 (zX zS_no 10) zT_w1 (ze_s (Nat.succ 2147483657, 2147483658) zT_g 145) = true := by decide +kernel
theorem zT_38_1_11 : zT_F 38 0 (zX zS_no 10) zT_w1 (ze_s (Nat.succ 2147483658, 2147483659) zT_g 145) = true := by decide +kernel
theorem zT_38_1_12 : zT_F 38 0 (zX zS_no 10) zT_w1 (ze_s (Nat.succ 2147483659, 2147483660) zT_g 145) = true := by decide +kernel
theorem zT_38_1 : zT_go 38 0 (zX zS_no 10) zT_w1 = true := show zy_spl (zT_F 38 0 (zX zS_no 10) zT_w1) [(145, [2147483648, 2147483649, 2147483650, 2147483651, 2147483652, 2147483653, 2147483654, 2147483655, 2147483656, 2147483657, 2147483658, 2147483659])] zT_g = true from zy_sp1 (lo := 2147483648) (hi := 2147483660) (by decide +kernel) (zy_s1_c zT_38_1_0 (zy_s1_c zT_38_1_1 (zy_s1_c zT_38_1_2 (zy_s1_c zT_38_1_3 (zy_s1_c zT_38_1_4 (zy_s1_c zT_38_1_5 (zy_s1_c zT_38_1_6 (zy_s1_c zT_38_1_7 (zy_s1_c zT_38_1_8 (zy_s1_c zT_38_1_9 (zy_s1_c zT_38_1_10 (zy_s1_c zT_38_1_11 (zy_s1_n zT_38_1_12)))))))))))))
theorem zT_k38 : zT_ok 38 zT_w0 ∧ zT_ok 38 zT_w1 := ⟨⟨zS_no, 3, 10, 0, by decide, by decide, by decide, zS_no_ok, zT_38_0⟩, ⟨zS_no, 3, 10, 0, by decide, by decide, by decide, zS_no_ok, zT_38_1⟩⟩
noncomputable def zT_E39 : ECal := zS_or zc165 (zc299)
theorem zT_E39_ok : ZE zT_E39 590 := (ZE.or zc165_ok (zc299_ok) (by decide) (by decide) : ZE (zS_or zc165 (zc299)) 590)
theorem zT_39_0 : zT_go 39 0 (zX zT_E39 10) zT_w0 = true := by decide +kernel
theorem zT_39_1 : zT_go 39 0 (zX zT_E39 10) zT_w1 = true := by decide +kernel
theorem zT_k39 : zT_ok 39 zT_w0 ∧ zT_ok 39 zT_w1 := ⟨⟨zT_E39, 590, 10, 0, by decide, by decide, by decide, zT_E39_ok, zT_39_0⟩, ⟨zT_E39, 590, 10, 0, by decide, by decide, by decide, zT_E39_ok, zT_39_1⟩⟩
noncomputable def zT_E40 : ECal := zS_or zc166 (zc300)
theorem zT_E40_ok : ZE zT_E40 590 := (ZE.or zc166_ok (zc300_ok) (by decide) (by decide) : ZE (zS_or zc166 (zc300)) 590)
theorem zT_40_0 : zT_go 40 0 (zX zT_E40 10) zT_w0 = true := by decide +kernel
theorem zT_40_1 : zT_go 40 0 (zX zT_E40 10) zT_w1 = true := by decide +kernel
theorem zT_k40 : zT_ok 40 zT_w0 ∧ zT_ok 40 zT_w1 := ⟨⟨zT_E40, 590, 10, 0, by decide, by decide, by decide, zT_E40_ok, zT_40_0⟩, ⟨zT_E40, 590, 10, 0, by decide, by decide, by decide, zT_E40_ok, zT_40_1⟩⟩
noncomputable def zT_E41 : ECal := zS_or zc167 (zc301)
theorem zT_E41_ok : ZE zT_E41 572 := (ZE.or zc167_ok (zc301_ok) (by decide) (by decide) : ZE (zS_or zc167 (zc301)) 572)
theorem zT_41_0 : zT_go 41 0 (zX zT_E41 10) zT_w0 = true := by decide +kernel
theorem zT_41_1 : zT_go 41 0 (zX zT_E41 10) zT_w1 = true := by decide +kernel
theorem zT_k41 : zT_ok 41 zT_w0 ∧ zT_ok 41 zT_w1 := ⟨⟨zT_E41, 572, 10, 0, by decide, by decide, by decide, zT_E41_ok, zT_41_0⟩, ⟨zT_E41, 572, 10, 0, by decide, by decide, by decide, zT_E41_ok, zT_41_1⟩⟩

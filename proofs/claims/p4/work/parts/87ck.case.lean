/-! the cases of the law -/
theorem zT_3_1_65 : zT_F 3 0 (zX zT_Y3 10) zT_w1 (ze_s (2147483658, 2147483728) (ze_s (2147483653, 2147483653) zT_gx 13) 10) = true := by decide +kernel
theorem zT_3_1 : zT_go 3 0 (zX zT_Y3 10) zT_w1 = true := show zy_spl (zT_F 3 0 (zX zT_Y3 10) zT_w1) [(13, [2147483648, 2147483649, 2147483650, 2147483651, 2147483652]), (10, [2147483648, 2147483649, 2147483650, 2147483651, 2147483652, 2147483653, 2147483654, 2147483655, 2147483656, 2147483657])] zT_gx = true from zy_sp2 (lo := 2147483648) (hi := 2147483653) (by decide +kernel) (zy_s1_c (zy_sp2 (lo := 2147483648) (hi := 2147483728) (by decide +kernel) (zy_s1_c (zT_3_1_0) (zy_s1_c (zT_3_1_1) (zy_s1_c (zT_3_1_2) (zy_s1_c (zT_3_1_3) (zy_s1_c (zT_3_1_4) (zy_s1_c (zT_3_1_5) (zy_s1_c (zT_3_1_6) (zy_s1_c (zT_3_1_7) (zy_s1_c (zT_3_1_8) (zy_s1_c (zT_3_1_9) (zy_s1_n (zT_3_1_10))))))))))))) (zy_s1_c (zy_sp2 (lo := 2147483648) (hi := 2147483728) (by decide +kernel) (zy_s1_c (zT_3_1_11) (zy_s1_c (zT_3_1_12) (zy_s1_c (zT_3_1_13) (zy_s1_c (zT_3_1_14) (zy_s1_c (zT_3_1_15) (zy_s1_c (zT_3_1_16) (zy_s1_c (zT_3_1_17) (zy_s1_c (zT_3_1_18) (zy_s1_c (zT_3_1_19) (zy_s1_c (zT_3_1_20) (zy_s1_n (zT_3_1_21))))))))))))) (zy_s1_c (zy_sp2 (lo := 2147483648) (hi := 2147483728) (by decide +kernel) (zy_s1_c (zT_3_1_22) (zy_s1_c (zT_3_1_23) (zy_s1_c (zT_3_1_24) (zy_s1_c (zT_3_1_25) (zy_s1_c (zT_3_1_26) (zy_s1_c (zT_3_1_27) (zy_s1_c (zT_3_1_28) (zy_s1_c (zT_3_1_29) (zy_s1_c (zT_3_1_30) (zy_s1_c (zT_3_1_31) (zy_s1_n (zT_3_1_32))))))))))))) (zy_s1_c (zy_sp2 (lo := 2147483648) (hi := 2147483728) (by decide +kernel) (zy_s1_c (zT_3_1_33) (zy_s1_c (zT_3_1_34) (zy_s1_c (zT_3_1_35) (zy_s1_c (zT_3_1_36) (zy_s1_c (zT_3_1_37) (zy_s1_c (zT_3_1_38) (zy_s1_c (zT_3_1_39) (zy_s1_c (zT_3_1_40) (zy_s1_c (zT_3_1_41) (zy_s1_c (zT_3_1_42) (zy_s1_n (zT_3_1_43))))))))))))) (zy_s1_c (zy_sp2 (lo := 2147483648) (hi := 2147483728) (by decide +kernel) (zy_s1_c (zT_3_1_44) (zy_s1_c (zT_3_1_45) (zy_s1_c (zT_3_1_46) (zy_s1_c (zT_3_1_47) (zy_s1_c (zT_3_1_48) (zy_s1_c (zT_3_1_49) (zy_s1_c (zT_3_1_50) (zy_s1_c (zT_3_1_51) (zy_s1_c (zT_3_1_52) (zy_s1_c (zT_3_1_53) (zy_s1_n (zT_3_1_54))))))))))))) (zy_s1_n (zy_sp2 (lo := 2147483648) (hi := 2147483728) (by decide +kernel) (zy_s1_c (zT_3_1_55) (zy_s1_c (zT_3_1_56) (zy_s1_c (zT_3_1_57) (zy_s1_c (zT_3_1_58) (zy_s1_c (zT_3_1_59) (zy_s1_c (zT_3_1_60) (zy_s1_c (zT_3_1_61) (zy_s1_c (zT_3_1_62) (zy_s1_c (zT_3_1_63) (zy_s1_c (zT_3_1_64) (zy_s1_n (zT_3_1_65)))))))))))))))))))
theorem zT_ck3 : zT_ok 3 zT_w0 ∧ zT_ok 3 zT_w1 := ⟨⟨zT_Y3, [], 12, 10, 0, by decide, by decide, by decide, (fun f h => by cases h), zT_Y3_ok, zT_3_0⟩, ⟨zT_Y3, [], 12, 10, 0, by decide, by decide, by decide, (fun f h => by cases h), zT_Y3_ok, zT_3_1⟩⟩
noncomputable def zT_Z4 : ECal := zS_or zc130 (zc233)
theorem zT_Z4_ok : ZE zT_Z4 572 := (ZE.or zc130_ok (zc233_ok) (by decide) (by decide) : ZE (zS_or zc130 (zc233)) 572)
noncomputable def zT_Y4 : ECal := zT_Z4
theorem zT_Y4_ok : ZEF [] zT_Y4 572 := (ZEF.of zT_Z4_ok)
theorem zT_4_0 : zT_go 4 0 (zX zT_Y4 10) zT_w0 = true := by decide +kernel
theorem zT_4_1 : zT_go 4 0 (zX zT_Y4 10) zT_w1 = true := by decide +kernel
theorem zT_ck4 : zT_ok 4 zT_w0 ∧ zT_ok 4 zT_w1 := ⟨⟨zT_Y4, [], 572, 10, 0, by decide, by decide, by decide, (fun f h => by cases h), zT_Y4_ok, zT_4_0⟩, ⟨zT_Y4, [], 572, 10, 0, by decide, by decide, by decide, (fun f h => by cases h), zT_Y4_ok, zT_4_1⟩⟩
noncomputable def zT_Z5 : ECal := zS_or zc100 (zS_or zc99 (zS_or zc105 (zc239)))
theorem zT_Z5_ok : ZE zT_Z5 581 := (ZE.or zc100_ok ((ZE.or zc99_ok ((ZE.or zc105_ok (zc239_ok) (by decide) (by decide) : ZE (zS_or zc105 (zc239)) 581)) (by decide) (by decide) : ZE (zS_or zc99 (zS_or zc105 (zc239))) 581)) (by decide) (by decide) : ZE (zS_or zc100 (zS_or zc99 (zS_or zc105 (zc239)))) 581)
noncomputable def zT_Y5 : ECal := zT_Z5
theorem zT_Y5_ok : ZEF [] zT_Y5 581 := (ZEF.of zT_Z5_ok)
theorem zT_5_0 : zT_go 5 1 (zX zT_Y5 10) zT_w0 = true := by decide +kernel
theorem zT_5_1 : zT_go 5 1 (zX zT_Y5 10) zT_w1 = true := by decide +kernel
theorem zT_ck5 : zT_ok 5 zT_w0 ∧ zT_ok 5 zT_w1 := ⟨⟨zT_Y5, [], 581, 10, 1, by decide, by decide, by decide, (fun f h => by cases h), zT_Y5_ok, zT_5_0⟩, ⟨zT_Y5, [], 581, 10, 1, by decide, by decide, by decide, (fun f h => by cases h), zT_Y5_ok, zT_5_1⟩⟩
noncomputable def zT_Z6 : ECal := zc240
theorem zT_Z6_ok : ZE zT_Z6 563 := zc240_ok
noncomputable def zT_Y6 : ECal := zT_Z6
theorem zT_Y6_ok : ZEF [] zT_Y6 563 := (ZEF.of zT_Z6_ok)
theorem zT_6_0 : zT_go 6 2 (zX zT_Y6 10) zT_w0 = true := by decide +kernel

/-! the cases of the law -/
noncomputable def zT_E42 : ECal := zS_or zc168 (zc302)
theorem zT_E42_ok : ZE zT_E42 563 := (ZE.or zc168_ok (zc302_ok) (by decide) (by decide) : ZE (zS_or zc168 (zc302)) 563)
theorem zT_42_0 : zT_go 42 0 (zX zT_E42 10) zT_w0 = true := by decide +kernel
theorem zT_42_1 : zT_go 42 0 (zX zT_E42 10) zT_w1 = true := by decide +kernel
theorem zT_k42 : zT_ok 42 zT_w0 ∧ zT_ok 42 zT_w1 := ⟨⟨zT_E42, 563, 10, 0, by decide, by decide, by decide, zT_E42_ok, zT_42_0⟩, ⟨zT_E42, 563, 10, 0, by decide, by decide, by decide, zT_E42_ok, zT_42_1⟩⟩
noncomputable def zT_E43 : ECal := zS_or zc169 (zc303)
theorem zT_E43_ok : ZE zT_E43 563 := (ZE.or zc169_ok (zc303_ok) (by decide) (by decide) : ZE (zS_or zc169 (zc303)) 563)
theorem zT_43_0 : zT_go 43 0 (zX zT_E43 10) zT_w0 = true := by decide +kernel
theorem zT_43_1 : zT_go 43 0 (zX zT_E43 10) zT_w1 = true := by decide +kernel
theorem zT_k43 : zT_ok 43 zT_w0 ∧ zT_ok 43 zT_w1 := ⟨⟨zT_E43, 563, 10, 0, by decide, by decide, by decide, zT_E43_ok, zT_43_0⟩, ⟨zT_E43, 563, 10, 0, by decide, by decide, by decide, zT_E43_ok, zT_43_1⟩⟩
noncomputable def zT_E44 : ECal := zS_or zc170 (zc306)
theorem zT_E44_ok : ZE zT_E44 572 := (ZE.or zc170_ok (zc306_ok) (by decide) (by decide) : ZE (zS_or zc170 (zc306)) 572)
theorem zT_44_0 : zT_go 44 0 (zX zT_E44 10) zT_w0 = true := by decide +kernel
theorem zT_44_1 : zT_go 44 0 (zX zT_E44 10) zT_w1 = true := by decide +kernel
theorem zT_k44 : zT_ok 44 zT_w0 ∧ zT_ok 44 zT_w1 := ⟨⟨zT_E44, 572, 10, 0, by decide, by decide, by decide, zT_E44_ok, zT_44_0⟩, ⟨zT_E44, 572, 10, 0, by decide, by decide, by decide, zT_E44_ok, zT_44_1⟩⟩
noncomputable def zT_E45 : ECal := zS_or zc171 (zc307)
theorem zT_E45_ok : ZE zT_E45 572 := (ZE.or zc171_ok (zc307_ok) (by decide) (by decide) : ZE (zS_or zc171 (zc307)) 572)
theorem zT_45_0 : zT_go 45 0 (zX zT_E45 10) zT_w0 = true := by decide +kernel
theorem zT_45_1 : zT_go 45 0 (zX zT_E45 10) zT_w1 = true := by decide +kernel
theorem zT_k45 : zT_ok 45 zT_w0 ∧ zT_ok 45 zT_w1 := ⟨⟨zT_E45, 572, 10, 0, by decide, by decide, by decide, zT_E45_ok, zT_45_0⟩, ⟨zT_E45, 572, 10, 0, by decide, by decide, by decide, zT_E45_ok, zT_45_1⟩⟩
noncomputable def zT_E46 : ECal := zS_or zc172 (zc308)
theorem zT_E46_ok : ZE zT_E46 563 := (ZE.or zc172_ok (zc308_ok) (by decide) (by decide) : ZE (zS_or zc172 (zc308)) 563)
theorem zT_46_0_0 : zT_F 46 0 (zX zT_E46 10) zT_w0 (ze_s (0, 2147483647) zT_g 1) = true := by decide +kernel
theorem zT_46_0_1 : zT_F 46 0 (zX zT_E46 10) zT_w0 (ze_s (Nat.succ 2147483647, 2147483648) zT_g 1) = true := by decide +kernel
theorem zT_46_0_2 : zT_F 46 0 (zX zT_E46 10) zT_w0 (ze_s (Nat.succ 2147483648, 2147483649) zT_g 1) = true := by decide +kernel
theorem zT_46_0_3 : zT_F 46 0 (zX zT_E46 10) zT_w0 (ze_s (Nat.succ 2147483649, 2147483650) zT_g 1) = true := by decide +kernel
theorem zT_46_0_4 : zT_F 46 0 (zX zT_E46 10) zT_w0 (ze_s (Nat.succ 2147483650, 2147483651) zT_g 1) = true := by decide +kernel
theorem zT_46_0_5 : zT_F 46 0 (zX zT_E46 10) zT_w0 (ze_s (Nat.succ 2147483651, 2147483652) zT_g 1) = true := by decide +kernel
theorem zT_46_0_6 : zT_F 46 0 (zX zT_E46 10) zT_w0 (ze_s (Nat.succ 2147483652, 2147483653) zT_g 1) = true := by decide +kernel
theorem zT_46_0_7 : zT_F 46 0 (zX zT_E46 10) zT_w0 (ze_s (Nat.succ 2147483653, 2147483654) zT_g 1) = true := by decide +kernel
theorem zT_46_0_8 : zT_F 46 0 (zX zT_E46 10) zT_w0 (ze_s (Nat.succ 2147483654, 2147483655) zT_g 1) = true := by decide +kernel
theorem zT_46_0_9 : zT_F 46 0 (zX zT_E46 10) zT_w0 (ze_s (Nat.succ 2147483655, 2147483656) zT_g 1) = true := by decide +kernel
theorem zT_46_0_10 : zT_F 46 0 (zX zT_E46 10) zT_w0 (ze_s (Nat.succ 2147483656, 2147483657) zT_g 1) = true := by decide +kernel
theorem zT_46_0_11 : zT_F 46 0 (zX zT_E46 10) zT_w0 (ze_s (Nat.succ 2147483657, 2147483658) zT_g 1) = true := by decide +kernel
theorem zT_46_0_12 : zT_F 46 0 (zX zT_E46 10) zT_w0 (ze_s (Nat.succ 2147483658, 2147483659) zT_g 1) = true := by decide +kernel
theorem zT_46_0_13 : zT_F 46 0 (zX zT_E46 10) zT_w0 (ze_s (Nat.succ 2147483659, 2147483660) zT_g 1) = true := by decide +kernel
theorem zT_46_0_14 : zT_F 46 0 (zX zT_E46 10) zT_w0 (ze_s (Nat.succ 2147483660, 2147483661) zT_g 1) = true := by decide +kernel
theorem zT_46_0_15 : zT_F 46 0 (zX zT_E46 10) zT_w0 (ze_s (Nat.succ 2147483661, 2147483662) zT_g 1) = true := by decide +kernel
theorem zT_46_0_16 : zT_F 46 0 (zX zT_E46 10) zT_w0 (ze_s (Nat.succ 2147483662, 2147483663) zT_g 1) = true := by decide +kernel
theorem zT_46_0_17 : zT_F 46 0 (zX zT_E46 10) zT_w0 (ze_s (Nat.succ 2147483663, 2147483664) zT_g 1) = true := by decide +kernel
theorem zT_46_0_18 : zT_F 46 0 (zX zT_E46 10) zT_w0 (ze_s (Nat.succ 2147483664, 2147483665) zT_g 1) = true := by decide +kernel
theorem zT_46_0_19 : zT_F 46 0 (zX zT_E46 10) zT_w0 (ze_s (Nat.succ 2147483665, 2147483666) zT_g 1) = true := by decide +kernel
theorem zT_46_0_20 : zT_F 46 0 (zX zT_E46 10) zT_w0 (ze_s (Nat.succ 2147483666, 2147483667) zT_g 1) = true := by decide +kernel
theorem zT_46_0_21 : zT_F 46 0 (zX zT_E46 10) zT_w0 (ze_s (Nat.succ 2147483667, 2147483668) zT_g 1) = true := by decide +kernel
theorem zT_46_0_22 : zT_F 46 0 (zX zT_E46 10) zT_w0 (ze_s (Nat.succ 2147483668, 2147483669) zT_g 1) = true := by decide +kernel
theorem zT_46_0_23 : zT_F 46 0 (zX zT_E46 10) zT_w0 (ze_s (Nat.succ 2147483669, 2147483670) zT_g 1) = true := by decide +kernel
theorem zT_46_0_24 : zT_F 46 0 (zX zT_E46 10) zT_w0 (ze_s (Nat.succ 2147483670, 2147483671) zT_g 1) = true := by decide +kernel
theorem zT_46_0_25 : zT_F 46 0 (zX zT_E46 10) zT_w0 (ze_s (Nat.succ 2147483671, 2147483672) zT_g 1) = true := by decide +kernel
theorem zT_46_0_26 : zT_F 46 0 (zX zT_E46 10) zT_w0 (ze_s (Nat.succ 2147483672, 2147483673) zT_g 1) = true := by decide +kernel
theorem zT_46_0_27 : zT_F 46 0 (zX zT_E46 10) zT_w0 (ze_s (Nat.succ 2147483673, 2147483674) zT_g 1) = true := by decide +kernel
theorem zT_46_0_28 : zT_F 46 0 (zX zT_E46 10) zT_w0 (ze_s (Nat.succ 2147483674, 2147483675) zT_g 1) = true := by decide +kernel
theorem zT_46_0_29 : zT_F 46 0 (zX zT_E46 10) zT_w0 (ze_s (Nat.succ 2147483675, 2147483676) zT_g 1) = true := by decide +kernel
theorem zT_46_0_30 : zT_F 46 0 (zX zT_E46 10) zT_w0 (ze_s (Nat.succ 2147483676, 2147483677) zT_g 1) = true := by decide +kernel
theorem zT_46_0_31 : zT_F 46 0 (zX zT_E46 10) zT_w0 (ze_s (Nat.succ 2147483677, 2147483678) zT_g 1) = true := by decide +kernel
theorem zT_46_0_32 : zT_F 46 0 (zX zT_E46 10) zT_w0 (ze_s (Nat.succ 2147483678, 2147483679) zT_g 1) = true := by decide +kernel
theorem zT_46_0_33 : zT_F 46 0 (zX zT_E46 10) zT_w0 (ze_s (Nat.succ 2147483679, 2147483680) zT_g 1) = true := by decide +kernel
theorem zT_46_0_34 : zT_F 46 0 (zX zT_E46 10) zT_w0 (ze_s (Nat.succ 2147483680, 2147483681) zT_g 1) = true := by decide +kernel
theorem zT_46_0_35 : zT_F 46 0 (zX zT_E46 10) zT_w0 (ze_s (Nat.succ 2147483681, 2147483682) zT_g 1) = true := by decide +kernel
theorem zT_46_0_36 : zT_F 46 0 (zX zT_E46 10) zT_w0 (ze_s (Nat.succ 2147483682, 2147483683) zT_g 1) = true := by decide +kernel
theorem zT_46_0_37 : zT_F 46 0 (zX zT_E46 10) zT_w0 (ze_s (Nat.succ 2147483683, 2147483684) zT_g 1) = true := by decide +kernel
theorem zT_46_0_38 : zT_F 46 0 (zX zT_E46 10) zT_w0 (ze_s (Nat.succ 2147483684, 2147483685) zT_g 1) = true := by decide +kernel
theorem zT_46_0_39 : zT_F 46 0 (zX zT_E46 10) zT_w0 (ze_s (Nat.succ 2147483685, 2147483686) zT_g 1) = true := by decide +kernel
theorem zT_46_0_40 : zT_F 46 0 (zX zT_E46 10) zT_w0 (ze_s (Nat.succ 2147483686, 2147483687) zT_g 1) = true := by decide +kernel
theorem zT_46_0_41 : zT_F 46 0 (zX zT_E46 10) zT_w0 (ze_s (Nat.succ 2147483687, 2147483688) zT_g 1) = true := by decide +kernel
theorem zT_46_0_42 : zT_F 46 0 (zX zT_E46 10) zT_w0 (ze_s (Nat.succ 2147483688, 2147483689) zT_g 1) = true := by decide +kernel
theorem zT_46_0_43 : zT_F 46 0 (zX zT_E46 10) zT_w0 (ze_s (Nat.succ 2147483689, 2147483690) zT_g 1) = true := by decide +kernel
theorem zT_46_0_44 : zT_F 46 0 (zX zT_E46 10) zT_w0 (ze_s (Nat.succ 2147483690, 2147483691) zT_g 1) = true := by decide +kernel
theorem zT_46_0_45 : zT_F 46 0 (zX zT_E46 10) zT_w0 (ze_s (Nat.succ 2147483691, 2147483692) zT_g 1) = true := by decide +kernel
theorem zT_46_0_46 : zT_F 46 0 (zX zT_E46 10) zT_w0 (ze_s (Nat.succ 2147483692, 2147483693) zT_g 1) = true := by decide +kernel
theorem zT_46_0_47 : zT_F 46 0 (zX zT_E46 10) zT_w0 (ze_s (Nat.succ 2147483693, 2147483694) zT_g 1) = true := by decide +kernel
theorem zT_46_0_48 : zT_F 46 0 (zX zT_E46 10) zT_w0 (ze_s (Nat.succ 2147483694, 2147483695) zT_g 1) = true := by decide +kernel
theorem zT_46_0_49 : zT_F 46 0 (zX zT_E46 10) zT_w0 (ze_s (Nat.succ 2147483695, 2147483696) zT_g 1) = true := by decide +kernel
theorem zT_46_0_50 : zT_F 46 0 (zX zT_E46 10) zT_w0 (ze_s (Nat.succ 2147483696, 2147483697) zT_g 1) = true := by decide +kernel
theorem zT_46_0_51 : zT_F 46 0 (zX zT_E46 10) zT_w0 (ze_s (Nat.succ 2147483697, 2147483698) zT_g 1) = true := by decide +kernel
theorem zT_46_0_52 : zT_F 46 0 (zX zT_E46 10) zT_w0 (ze_s (Nat.succ 2147483698, 2147483699) zT_g 1) = true := by decide +kernel
theorem zT_46_0_53 : zT_F 46 0 (zX zT_E46 10) zT_w0 (ze_s (Nat.succ 2147483699, 2147483700) zT_g 1) = true := by decide +kernel
theorem zT_46_0_54 : zT_F 46 0 (zX zT_E46 10) zT_w0 (ze_s (Nat.succ 2147483700, 2147483701) zT_g 1) = true := by decide +kernel
theorem zT_46_0_55 : zT_F 46 0 (zX zT_E46 10) zT_w0 (ze_s (Nat.succ 2147483701, 2147483702) zT_g 1) = true := by decide +kernel
theorem zT_46_0_56 : zT_F 46 0 (zX zT_E46 10) zT_w0 (ze_s (Nat.succ 2147483702, 2147483703) zT_g 1) = true := by decide +kernel
theorem zT_46_0_57 : zT_F 46 0 (zX zT_E46 10) zT_w0 (ze_s (Nat.succ 2147483703, 2147483704) zT_g 1) = true := by decide +kernel
theorem zT_46_0_58 : zT_F 46 0 (zX zT_E46 10) zT_w0 (ze_s (Nat.succ 2147483704, 2147483705) zT_g 1) = true := by decide +kernel
theorem zT_46_0_59 : zT_F 46 0 (zX zT_E46 10) zT_w0 (ze_s (Nat.succ 2147483705, 2147483706) zT_g 1) = true := by decide +kernel
theorem zT_46_0_60 : zT_F 46 0 (zX zT_E46 10) zT_w0 (ze_s (Nat.succ 2147483706, 2147483707) zT_g 1) = true := by decide +kernel
theorem zT_46_0_61 : zT_F 46 0 (zX zT_E46 10) zT_w0 (ze_s (Nat.succ 2147483707, 2147483708) zT_g 1) = true := by decide +kernel
theorem zT_46_0_62 : zT_F 46 0 (zX zT_E46 10) zT_w0 (ze_s (Nat.succ 2147483708, 4294967295) zT_g 1) = true := by decide +kernel
theorem zT_46_0 : zT_go 46 0 (zX zT_E46 10) zT_w0 = true := show zy_spl (zT_F 46 0 (zX zT_E46 10) zT_w0) [(1, [2147483647, 2147483648, 2147483649, 2147483650, 2147483651, 2147483652, 2147483653, 2147483654, 2147483655, 2147483656, 2147483657, 2147483658, 2147483659, 2147483660, 2147483661, 2147483662, 2147483663, 2147483664, 2147483665, 2147483666, 2147483667, 2147483668, 2147483669, 2147483670, 2147483671, 2147483672, 2147483673, 2147483674, 2147483675, 2147483676, 2147483677, 2147483678, 2147483679, 2147483680, 2147483681, 2147483682, 2147483683, 2147483684, 2147483685, 2147483686, 2147483687, 2147483688, 2147483689, 2147483690, 2147483691, 2147483692, 2147483693, 2147483694, 2147483695, 2147483696, 2147483697, 2147483698, 2147483699, 2147483700, 2147483701, 2147483702, 2147483703, 2147483704, 2147483705, 2147483706, 2147483707, 2147483708])] zT_g = true from zy_sp1 (lo := 0) (hi := 4294967295) (by decide +kernel) (zy_s1_c zT_46_0_0 (zy_s1_c zT_46_0_1 (zy_s1_c zT_46_0_2 (zy_s1_c zT_46_0_3 (zy_s1_c zT_46_0_4 (zy_s1_c zT_46_0_5 (zy_s1_c zT_46_0_6 (zy_s1_c zT_46_0_7 (zy_s1_c zT_46_0_8 (zy_s1_c zT_46_0_9 (zy_s1_c zT_46_0_10 (zy_s1_c zT_46_0_11 (zy_s1_c zT_46_0_12 (zy_s1_c zT_46_0_13 (zy_s1_c zT_46_0_14 (zy_s1_c zT_46_0_15 (zy_s1_c zT_46_0_16 (zy_s1_c zT_46_0_17 (zy_s1_c zT_46_0_18 (zy_s1_c zT_46_0_19 (zy_s1_c zT_46_0_20 (zy_s1_c zT_46_0_21 (zy_s1_c zT_46_0_22 (zy_s1_c zT_46_0_23 (zy_s1_c zT_46_0_24 (zy_s1_c zT_46_0_25 (zy_s1_c zT_46_0_26 (zy_s1_c zT_46_0_27 (zy_s1_c zT_46_0_28 (zy_s1_c zT_46_0_29 (zy_s1_c zT_46_0_30 (zy_s1_c zT_46_0_31 (zy_s1_c zT_46_0_32 (zy_s1_c zT_46_0_33 (zy_s1_c zT_46_0_34 (zy_s1_c zT_46_0_35 (zy_s1_c zT_46_0_36 (zy_s1_c zT_46_0_37 (zy_s1_c zT_46_0_38 (zy_s1_c zT_46_0_39 (zy_s1_c zT_46_0_40 (zy_s1_c zT_46_0_41 (zy_s1_c zT_46_0_42 (zy_s1_c zT_46_0_43 (zy_s1_c zT_46_0_44 (zy_s1_c zT_46_0_45 (zy_s1_c zT_46_0_46 (zy_s1_c zT_46_0_47 (zy_s1_c zT_46_0_48 (zy_s1_c zT_46_0_49 (zy_s1_c zT_46_0_50 (zy_s1_c zT_46_0_51 (zy_s1_c zT_46_0_52 (zy_s1_c zT_46_0_53 (zy_s1_c zT_46_0_54 (zy_s1_c zT_46_0_55 (zy_s1_c zT_46_0_56 (zy_s1_c zT_46_0_57 (zy_s1_c zT_46_0_58 (zy_s1_c zT_46_0_59 (zy_s1_c zT_46_0_60 (zy_s1_c zT_46_0_61 (zy_s1_n zT_46_0_62)))))))))))))))))))))))))))))))))))))))))))))))))))))))))))))))
theorem zT_46_1_0 : zT_F 46 0 (zX zT_E46 10) zT_w1 (ze_s (0, 2147483647) zT_g 1) = true := by decide +kernel
theorem zT_46_1_1 : zT_F 46 0 (zX zT_E46 10) zT_w1 (ze_s (Nat.succ 2147483647, 2147483648) zT_g 1) = true := by decide +kernel
theorem zT_46_1_2 : zT_F 46 0 (zX zT_E46 10) zT_w1 (ze_s (Nat.succ 2147483648, 2147483649) zT_g 1) = true := by decide +kernel
theorem zT_46_1_3 : zT_F 46 0 (zX zT_E46 10) zT_w1 (ze_s (Nat.succ 2147483649, 2147483650) zT_g 1) = true := by decide +kernel
theorem zT_46_1_4 : zT_F 46 0 (zX zT_E46 10) zT_w1 (ze_s (Nat.succ 2147483650, 2147483651) zT_g 1) = true := by decide +kernel
theorem zT_46_1_5 : zT_F 46 0 (zX zT_E46 10) zT_w1 (ze_s (Nat.succ 2147483651, 2147483652) zT_g 1) = true := by decide +kernel
theorem zT_46_1_6 : zT_F 46 0 (zX zT_E46 10) zT_w1 (ze_s (Nat.succ 2147483652, 2147483653) zT_g 1) = true := by decide +kernel
theorem zT_46_1_7 : zT_F 46 0 (zX zT_E46 10) zT_w1 (ze_s (Nat.succ 2147483653, 2147483654) zT_g 1) = true := by decide +kernel
theorem zT_46_1_8 : zT_F 46 0 (zX zT_E46 10) zT_w1 (ze_s (Nat.succ 2147483654, 2147483655) zT_g 1) = true := by decide +kernel
theorem zT_46_1_9 : zT_F 46 0 (zX zT_E46 10) zT_w1 (ze_s (Nat.succ 2147483655, 2147483656) zT_g 1) = true := by decide +kernel
theorem zT_46_1_10 : zT_F 46 0 (zX zT_E46 10) zT_w1 (ze_s (Nat.succ 2147483656, 2147483657) zT_g 1) = true := by decide +kernel
theorem zT_46_1_11 : zT_F 46 0 (zX zT_E46 10) zT_w1 (ze_s (Nat.succ 2147483657, 2147483658) zT_g 1) = true := by decide +kernel
theorem zT_46_1_12 : zT_F 46 0 (zX zT_E46 10) zT_w1 (ze_s (Nat.succ 2147483658, 2147483659) zT_g 1) = true := by decide +kernel
theorem zT_46_1_13 : zT_F 46 0 (zX zT_E46 10) zT_w1 (ze_s (Nat.succ 2147483659, 2147483660) zT_g 1) = true := by decide +kernel
theorem zT_46_1_14 : zT_F 46 0 (zX zT_E46 10) zT_w1 (ze_s (Nat.succ 2147483660, 2147483661) zT_g 1) = true := by decide +kernel
theorem zT_46_1_15 : zT_F 46 0 (zX zT_E46 10) zT_w1 (ze_s (Nat.succ 2147483661, 2147483662) zT_g 1) = true := by decide +kernel
theorem zT_46_1_16 : zT_F 46 0 (zX zT_E46 10) zT_w1 (ze_s (Nat.succ 2147483662, 2147483663) zT_g 1) = true := by decide +kernel
theorem zT_46_1_17 : zT_F 46 0 (zX zT_E46 10) zT_w1 (ze_s (Nat.succ 2147483663, 2147483664) zT_g 1) = true := by decide +kernel
theorem zT_46_1_18 : zT_F 46 0 (zX zT_E46 10) zT_w1 (ze_s (Nat.succ 2147483664, 2147483665) zT_g 1) = true := by decide +kernel
theorem zT_46_1_19 : zT_F 46 0 (zX zT_E46 10) zT_w1 (ze_s (Nat.succ 2147483665, 2147483666) zT_g 1) = true := by decide +kernel
theorem zT_46_1_20 : zT_F 46 0 (zX zT_E46 10) zT_w1 (ze_s (Nat.succ 2147483666, 2147483667) zT_g 1) = true := by decide +kernel
theorem zT_46_1_21 : zT_F 46 0 (zX zT_E46 10) zT_w1 (ze_s (Nat.succ 2147483667, 2147483668) zT_g 1) = true := by decide +kernel
theorem zT_46_1_22 : zT_F 46 0 (zX zT_E46 10) zT_w1 (ze_s (Nat.succ 2147483668, 2147483669) zT_g 1) = true := by decide +kernel
theorem zT_46_1_23 : zT_F 46 0 (zX zT_E46 10) zT_w1 (ze_s (Nat.succ 2147483669, 2147483670) zT_g 1) = true := by decide +kernel
theorem zT_46_1_24 : zT_F 46 0 (zX zT_E46 10) zT_w1 (ze_s (Nat.succ 2147483670, 2147483671) zT_g 1) = true := by decide +kernel
theorem zT_46_1_25 : zT_F 46 0 (zX zT_E46 10) zT_w1 (ze_s (Nat.succ 2147483671, 2147483672) zT_g 1) = true := by decide +kernel
theorem zT_46_1_26 : zT_F 46 0 (zX zT_E46 10) zT_w1 (ze_s (Nat.succ 2147483672, 2147483673) zT_g 1) = true := by decide +kernel
theorem zT_46_1_27 : zT_F 46 0 (zX zT_E46 10) zT_w1 (ze_s (Nat.succ 2147483673, 2147483674) zT_g 1) = true := by decide +kernel
theorem zT_46_1_28 : zT_F 46 0 (zX zT_E46 10) zT_w1 (ze_s (Nat.succ 2147483674, 2147483675) zT_g 1) = true := by decide +kernel
theorem zT_46_1_29 : zT_F 46 0 (zX zT_E46 10) zT_w1 (ze_s (Nat.succ 2147483675, 2147483676) zT_g 1) = true := by decide +kernel
theorem zT_46_1_30 : zT_F 46 0 (zX zT_E46 10) zT_w1 (ze_s (Nat.succ 2147483676, 2147483677) zT_g 1) = true := by decide +kernel
theorem zT_46_1_31 : zT_F 46 0 (zX zT_E46 10) zT_w1 (ze_s (Nat.succ 2147483677, 2147483678) zT_g 1) = true := by decide +kernel
theorem zT_46_1_32 : zT_F 46 0 (zX zT_E46 10) zT_w1 (ze_s (Nat.succ 2147483678, 2147483679) zT_g 1) = true := by decide +kernel
theorem zT_46_1_33 : zT_F 46 0 (zX zT_E46 10) zT_w1 (ze_s (Nat.succ 2147483679, 2147483680) zT_g 1) = true := by decide +kernel
theorem zT_46_1_34 : zT_F 46 0 (zX zT_E46 10) zT_w1 (ze_s (Nat.succ 2147483680, 2147483681) zT_g 1) = true := by decide +kernel
theorem zT_46_1_35 : zT_F 46 0 (zX zT_E46 10) zT_w1 (ze_s (Nat.succ 2147483681, 2147483682) zT_g 1) = true := by decide +kernel
theorem zT_46_1_36 : zT_F 46 0 (zX zT_E46 10) zT_w1 (ze_s (Nat.succ 2147483682, 2147483683) zT_g 1) = true := by decide +kernel
theorem zT_46_1_37 : zT_F 46 0 (zX zT_E46 10) zT_w1 (ze_s (Nat.succ 2147483683, 2147483684) zT_g 1) = true := by decide +kernel
theorem zT_46_1_38 : zT_F 46 0 (zX zT_E46 10) zT_w1 (ze_s (Nat.succ 2147483684, 2147483685) zT_g 1) = true := by decide +kernel
theorem zT_46_1_39 : zT_F 46 0 (zX zT_E46 10) zT_w1 (ze_s (Nat.succ 2147483685, 2147483686) zT_g 1) = true := by decide +kernel
theorem zT_46_1_40 : zT_F 46 0 (zX zT_E46 10) zT_w1 (ze_s (Nat.succ 2147483686, 2147483687) zT_g 1) = true := by decide +kernel
theorem zT_46_1_41 : zT_F 46 0 (zX zT_E46 10) zT_w1 (ze_s (Nat.succ 2147483687, 2147483688) zT_g 1) = true := by decide +kernel
theorem zT_46_1_42 : zT_F 46 0 (zX zT_E46 10) zT_w1 (ze_s (Nat.succ 2147483688, 2147483689) zT_g 1) = true := by decide +kernel
theorem zT_46_1_43 : zT_F 46 0 (zX zT_E46 10) zT_w1 (ze_s (Nat.succ 2147483689, 2147483690) zT_g 1) = true := by decide +kernel
theorem zT_46_1_44 : zT_F 46 0 (zX zT_E46 10) zT_w1 (ze_s (Nat.succ 2147483690, 2147483691) zT_g 1) = true := by decide +kernel
theorem zT_46_1_45 : zT_F 46 0 (zX zT_E46 10) zT_w1 (ze_s (Nat.succ 2147483691, 2147483692) zT_g 1) = true := by decide +kernel
theorem zT_46_1_46 : zT_F 46 0 (zX zT_E46 10) zT_w1 (ze_s (Nat.succ 2147483692, 2147483693) zT_g 1) = true := by decide +kernel
theorem zT_46_1_47 : zT_F 46 0 (zX zT_E46 10) zT_w1 (ze_s (Nat.succ 2147483693, 2147483694) zT_g 1) = true := by decide +kernel
theorem zT_46_1_48 : zT_F 46 0 (zX zT_E46 10) zT_w1 (ze_s (Nat.succ 2147483694, 2147483695) zT_g 1) = true := by decide +kernel
theorem zT_46_1_49 : zT_F 46 0 (zX zT_E46 10) zT_w1 (ze_s (Nat.succ 2147483695, 2147483696) zT_g 1) = true := by decide +kernel
theorem zT_46_1_50 : zT_F 46 0 (zX zT_E46 10) zT_w1 (ze_s (Nat.succ 2147483696, 2147483697) zT_g 1) = true := by decide +kernel
theorem zT_46_1_51 : zT_F 46 0 (zX zT_E46 10) zT_w1 (ze_s (Nat.succ 2147483697, 2147483698) zT_g 1) = true := by decide +kernel
theorem zT_46_1_52 : zT_F 46 0 (zX zT_E46 10) zT_w1 (ze_s (Nat.succ 2147483698, 2147483699) zT_g 1) = true := by decide +kernel
theorem zT_46_1_53 : zT_F 46 0 (zX zT_E46 10) zT_w1 (ze_s (Nat.succ 2147483699, 2147483700) zT_g 1) = true := by decide +kernel
theorem zT_46_1_54 : zT_F 46 0 (zX zT_E46 10) zT_w1 (ze_s (Nat.succ 2147483700, 2147483701) zT_g 1) = true := by decide +kernel
theorem zT_46_1_55 : zT_F 46 0 (zX zT_E46 10) zT_w1 (ze_s (Nat.succ 2147483701, 2147483702) zT_g 1) = true := by decide +kernel
theorem zT_46_1_56 : zT_F 46 0 (zX zT_E46 10) zT_w1 (ze_s (Nat.succ 2147483702, 2147483703) zT_g 1) = true := by decide +kernel
theorem zT_46_1_57 : zT_F 46 0 (zX zT_E46 10) zT_w1 (ze_s (Nat.succ 2147483703, 2147483704) zT_g 1) = true := by decide +kernel
theorem zT_46_1_58 : zT_F 46 0 (zX zT_E46 10) zT_w1 (ze_s (Nat.succ 2147483704, 2147483705) zT_g 1) = true := by decide +kernel
theorem zT_46_1_59 : zT_F 46 0 (zX zT_E46 10) zT_w1 (ze_s (Nat.succ 2147483705, 2147483706) zT_g 1) = true := by decide +kernel
theorem zT_46_1_60 : zT_F 46 0 (zX zT_E46 10) zT_w1 (ze_s (Nat.succ 2147483706, 2147483707) zT_g 1) = true := by decide +kernel
theorem zT_46_1_61 : zT_F 46 0 (zX zT_E46 10) zT_w1 (ze_s (Nat.succ 2147483707, 2147483708) zT_g 1) = true := by decide +kernel
theorem zT_46_1_62 : zT_F 46 0 (zX zT_E46 10) zT_w1 (ze_s (Nat.succ 2147483708, 4294967295) zT_g 1) = true := by decide +kernel
theorem zT_46_1 : zT_go 46 0 (zX zT_E46 10) zT_w1 = true := show zy_spl (zT_F 46 0 (zX zT_E46 10) zT_w1) [(1, [2147483647, 2147483648, 2147483649, 2147483650, 2147483651, 2147483652, 2147483653, 2147483654, 2147483655, 2147483656, 2147483657, 2147483658, 2147483659, 2147483660, 2147483661, 2147483662, 2147483663, 2147483664, 2147483665, 2147483666, 2147483667, 2147483668, 2147483669, 2147483670, 2147483671, 2147483672, 2147483673, 2147483674, 2147483675, 2147483676, 2147483677, 2147483678, 2147483679, 2147483680, 2147483681, 2147483682, 2147483683, 2147483684, 2147483685, 2147483686, 2147483687, 2147483688, 2147483689, 2147483690, 2147483691, 2147483692, 2147483693, 2147483694, 2147483695, 2147483696, 2147483697, 2147483698, 2147483699, 2147483700, 2147483701, 2147483702, 2147483703, 2147483704, 2147483705, 2147483706, 2147483707, 2147483708])] zT_g = true from zy_sp1 (lo := 0) (hi := 4294967295) (by decide +kernel) (zy_s1_c zT_46_1_0 (zy_s1_c zT_46_1_1 (zy_s1_c zT_46_1_2 (zy_s1_c zT_46_1_3 (zy_s1_c zT_46_1_4 (zy_s1_c zT_46_1_5 (zy_s1_c zT_46_1_6 (zy_s1_c zT_46_1_7 (zy_s1_c zT_46_1_8 (zy_s1_c zT_46_1_9 (zy_s1_c zT_46_1_10 (zy_s1_c zT_46_1_11 (zy_s1_c zT_46_1_12 (zy_s1_c zT_46_1_13 (zy_s1_c zT_46_1_14 (zy_s1_c zT_46_1_15 (zy_s1_c zT_46_1_16 (zy_s1_c zT_46_1_17 (zy_s1_c zT_46_1_18 (zy_s1_c zT_46_1_19 (zy_s1_c zT_46_1_20 (zy_s1_c zT_46_1_21 (zy_s1_c zT_46_1_22 (zy_s1_c zT_46_1_23 (zy_s1_c zT_46_1_24 (zy_s1_c zT_46_1_25 (zy_s1_c zT_46_1_26 (zy_s1_c zT_46_1_27 (zy_s1_c zT_46_1_28 (zy_s1_c zT_46_1_29 (zy_s1_c zT_46_1_30 (zy_s1_c zT_46_1_31 (zy_s1_c zT_46_1_32 (zy_s1_c zT_46_1_33 (zy_s1_c zT_46_1_34 (zy_s1_c zT_46_1_35 (zy_s1_c zT_46_1_36 (zy_s1_c zT_46_1_37 (zy_s1_c zT_46_1_38 (zy_s1_c zT_46_1_39 (zy_s1_c zT_46_1_40 (zy_s1_c zT_46_1_41 (zy_s1_c zT_46_1_42 (zy_s1_c zT_46_1_43 (zy_s1_c zT_46_1_44 (zy_s1_c zT_46_1_45 (zy_s1_c zT_46_1_46 (zy_s1_c zT_46_1_47 (zy_s1_c zT_46_1_48 (zy_s1_c zT_46_1_49 (zy_s1_c zT_46_1_50 (zy_s1_c zT_46_1_51 (zy_s1_c zT_46_1_52 (zy_s1_c zT_46_1_53 (zy_s1_c zT_46_1_54 (zy_s1_c zT_46_1_55 (zy_s1_c zT_46_1_56 (zy_s1_c zT_46_1_57 (zy_s1_c zT_46_1_58 (zy_s1_c zT_46_1_59 (zy_s1_c zT_46_1_60 (zy_s1_c zT_46_1_61 (zy_s1_n zT_46_1_62)))))))))))))))))))))))))))))))))))))))))))))))))))))))))))))))
theorem zT_k46 : zT_ok 46 zT_w0 ∧ zT_ok 46 zT_w1 := ⟨⟨zT_E46, 563, 10, 0, by decide, by decide, by decide, zT_E46_ok, zT_46_0⟩, ⟨zT_E46, 563, 10, 0, by decide, by decide, by decide, zT_E46_ok, zT_46_1⟩⟩
noncomputable def zT_E47 : ECal := zS_or zc173 (zc309)
theorem zT_E47_ok : ZE zT_E47 608 := (ZE.or zc173_ok (zc309_ok) (by decide) (by decide) : ZE (zS_or zc173 (zc309)) 608)
theorem zT_47_0 : zT_go 47 0 (zX zT_E47 10) zT_w0 = true := by decide +kernel
theorem zT_47_1 : zT_go 47 0 (zX zT_E47 10) zT_w1 = true := by decide +kernel
theorem zT_k47 : zT_ok 47 zT_w0 ∧ zT_ok 47 zT_w1 := ⟨⟨zT_E47, 608, 10, 0, by decide, by decide, by decide, zT_E47_ok, zT_47_0⟩, ⟨zT_E47, 608, 10, 0, by decide, by decide, by decide, zT_E47_ok, zT_47_1⟩⟩
noncomputable def zT_E48 : ECal := zS_or zc174 (zc312)
theorem zT_E48_ok : ZE zT_E48 572 := (ZE.or zc174_ok (zc312_ok) (by decide) (by decide) : ZE (zS_or zc174 (zc312)) 572)
theorem zT_48_0 : zT_go 48 0 (zX zT_E48 10) zT_w0 = true := by decide +kernel
theorem zT_48_1 : zT_go 48 0 (zX zT_E48 10) zT_w1 = true := by decide +kernel
theorem zT_k48 : zT_ok 48 zT_w0 ∧ zT_ok 48 zT_w1 := ⟨⟨zT_E48, 572, 10, 0, by decide, by decide, by decide, zT_E48_ok, zT_48_0⟩, ⟨zT_E48, 572, 10, 0, by decide, by decide, by decide, zT_E48_ok, zT_48_1⟩⟩
noncomputable def zT_E49 : ECal := zS_or zc175 (zc314)
theorem zT_E49_ok : ZE zT_E49 599 := (ZE.or zc175_ok (zc314_ok) (by decide) (by decide) : ZE (zS_or zc175 (zc314)) 599)
theorem zT_49_0 : zT_go 49 0 (zX zT_E49 10) zT_w0 = true := by decide +kernel
theorem zT_49_1 : zT_go 49 0 (zX zT_E49 10) zT_w1 = true := by decide +kernel
theorem zT_k49 : zT_ok 49 zT_w0 ∧ zT_ok 49 zT_w1 := ⟨⟨zT_E49, 599, 10, 0, by decide, by decide, by decide, zT_E49_ok, zT_49_0⟩, ⟨zT_E49, 599, 10, 0, by decide, by decide, by decide, zT_E49_ok, zT_49_1⟩⟩
noncomputable def zT_E50 : ECal := zS_or zc176 (zc315)
theorem zT_E50_ok : ZE zT_E50 563 := (ZE.or zc176_ok (zc315_ok) (by decide) (by decide) : ZE (zS_or zc176 (zc315)) 563)
theorem zT_50_0 : zT_go 50 0 (zX zT_E50 10) zT_w0 = true := by decide +kernel
theorem zT_50_1 : zT_go 50 0 (zX zT_E50 10) zT_w1 = true := by decide +kernel
theorem zT_k50 : zT_ok 50 zT_w0 ∧ zT_ok 50 zT_w1 := ⟨⟨zT_E50, 563, 10, 0, by decide, by decide, by decide, zT_E50_ok, zT_50_0⟩, ⟨zT_E50, 563, 10, 0, by decide, by decide, by decide, zT_E50_ok, zT_50_1⟩⟩
noncomputable def zT_E51 : ECal := zS_or zc177 (zc316)
theorem zT_E51_ok : ZE zT_E51 563 := (ZE.or zc177_ok (zc316_ok) (by decide) (by decide) : ZE (zS_or zc177 (zc316)) 563)
theorem zT_51_0 : zT_go 51 0 (zX zT_E51 10) zT_w0 = true := by decide +kernel
theorem zT_51_1 : zT_go 51 0 (zX zT_E51 10) zT_w1 = true := by decide +kernel
theorem zT_k51 : zT_ok 51 zT_w0 ∧ zT_ok 51 zT_w1 := ⟨⟨zT_E51, 563, 10, 0, by decide, by decide, by decide, zT_E51_ok, zT_51_0⟩, ⟨zT_E51, 563, 10, 0, by decide, by decide, by decide, zT_E51_ok, zT_51_1⟩⟩
noncomputable def zT_E52 : ECal := zS_or zc178 (zc317)
theorem zT_E52_ok : ZE zT_E52 590 := (ZE.or zc178_ok (zc317_ok) (by decide) (by decide) : ZE (zS_or zc178 (zc317)) 590)
theorem zT_52_0 : zT_go 52 0 (zX zT_E52 10) zT_w0 = true := by decide +kernel
theorem zT_52_1 : zT_go 52 0 (zX zT_E52 10) zT_w1 = true := by decide +kernel
theorem zT_k52 : zT_ok 52 zT_w0 ∧ zT_ok 52 zT_w1 := ⟨⟨zT_E52, 590, 10, 0, by decide, by decide, by decide, zT_E52_ok, zT_52_0⟩, ⟨zT_E52, 590, 10, 0, by decide, by decide, by decide, zT_E52_ok, zT_52_1⟩⟩
noncomputable def zT_E53 : ECal := zc318
theorem zT_E53_ok : ZE zT_E53 563 := zc318_ok
theorem zT_53_0 : zT_go 53 4 (zX zT_E53 10) zT_w0 = true := by decide +kernel
theorem zT_53_1 : zT_go 53 4 (zX zT_E53 10) zT_w1 = true := by decide +kernel
theorem zT_k53 : zT_ok 53 zT_w0 ∧ zT_ok 53 zT_w1 := ⟨⟨zT_E53, 563, 10, 4, by decide, by decide, by decide, zT_E53_ok, zT_53_0⟩, ⟨zT_E53, 563, 10, 4, by decide, by decide, by decide, zT_E53_ok, zT_53_1⟩⟩
theorem zT_54_0 : (zT_go 54 0 (zX zS_no 10) zT_w0 && zT_go 55 0 (zX zS_no 10) zT_w0 && zT_go 56 0 (zX zS_no 10) zT_w0 && zT_go 57 0 (zX zS_no 10) zT_w0 && zT_go 58 0 (zX zS_no 10) zT_w0 && zT_go 59 0 (zX zS_no 10) zT_w0 && zT_go 60 0 (zX zS_no 10) zT_w0 && zT_go 61 0 (zX zS_no 10) zT_w0 && zT_go 62 0 (zX zS_no 10) zT_w0 && zT_go 63 0 (zX zS_no 10) zT_w0) = true := by decide +kernel
theorem zT_54_1 : (zT_go 54 0 (zX zS_no 10) zT_w1 && zT_go 55 0 (zX zS_no 10) zT_w1 && zT_go 56 0 (zX zS_no 10) zT_w1 && zT_go 57 0 (zX zS_no 10) zT_w1 && zT_go 58 0 (zX zS_no 10) zT_w1 && zT_go 59 0 (zX zS_no 10) zT_w1 && zT_go 60 0 (zX zS_no 10) zT_w1 && zT_go 61 0 (zX zS_no 10) zT_w1 && zT_go 62 0 (zX zS_no 10) zT_w1 && zT_go 63 0 (zX zS_no 10) zT_w1) = true := by decide +kernel

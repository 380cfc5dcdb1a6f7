/-! the cases of the law -/
theorem zT_0_1_77 : zT_F 0 0 (zX zT_Y0 10) zT_w1 (ze_s (2147483725, 2147483725) zT_gx 10) = true := by decide +kernel
theorem zT_0_1_78 : zT_F 0 0 (zX zT_Y0 10) zT_w1 (ze_s (2147483726, 2147483726) zT_gx 10) = true := by decide +kernel
theorem zT_0_1_79 : zT_F 0 0 (zX zT_Y0 10) zT_w1 (ze_s (2147483727, 2147483727) zT_gx 10) = true := by decide +kernel
theorem zT_0_1_80 : zT_F 0 0 (zX zT_Y0 10) zT_w1 (ze_s (2147483728, 2147483728) zT_gx 10) = true := by decide +kernel
theorem zT_0_1 : zT_go 0 0 (zX zT_Y0 10) zT_w1 = true := show zy_spl (zT_F 0 0 (zX zT_Y0 10) zT_w1) [(10, [2147483648, 2147483649, 2147483650, 2147483651, 2147483652, 2147483653, 2147483654, 2147483655, 2147483656, 2147483657, 2147483658, 2147483659, 2147483660, 2147483661, 2147483662, 2147483663, 2147483664, 2147483665, 2147483666, 2147483667, 2147483668, 2147483669, 2147483670, 2147483671, 2147483672, 2147483673, 2147483674, 2147483675, 2147483676, 2147483677, 2147483678, 2147483679, 2147483680, 2147483681, 2147483682, 2147483683, 2147483684, 2147483685, 2147483686, 2147483687, 2147483688, 2147483689, 2147483690, 2147483691, 2147483692, 2147483693, 2147483694, 2147483695, 2147483696, 2147483697, 2147483698, 2147483699, 2147483700, 2147483701, 2147483702, 2147483703, 2147483704, 2147483705, 2147483706, 2147483707, 2147483708, 2147483709, 2147483710, 2147483711, 2147483712, 2147483713, 2147483714, 2147483715, 2147483716, 2147483717, 2147483718, 2147483719, 2147483720, 2147483721, 2147483722, 2147483723, 2147483724, 2147483725, 2147483726, 2147483727])] zT_gx = true from zy_sp2 (lo := 2147483648) (hi := 2147483728) (by decide +kernel) (zy_s1_c (zT_0_1_0) (zy_s1_c (zT_0_1_1) (zy_s1_c (zT_0_1_2) (zy_s1_c (zT_0_1_3) (zy_s1_c (zT_0_1_4) (zy_s1_c (zT_0_1_5) (zy_s1_c (zT_0_1_6) (zy_s1_c (zT_0_1_7) (zy_s1_c (zT_0_1_8) (zy_s1_c (zT_0_1_9) (zy_s1_c (zT_0_1_10) (zy_s1_c (zT_0_1_11) (zy_s1_c (zT_0_1_12) (zy_s1_c (zT_0_1_13) (zy_s1_c (zT_0_1_14) (zy_s1_c (zT_0_1_15) (zy_s1_c (zT_0_1_16) (zy_s1_c (zT_0_1_17) (zy_s1_c (zT_0_1_18) (zy_s1_c (zT_0_1_19) (zy_s1_c (zT_0_1_20) (zy_s1_c (zT_0_1_21) (zy_s1_c (zT_0_1_22) (zy_s1_c (zT_0_1_23) (zy_s1_c (zT_0_1_24) (zy_s1_c (zT_0_1_25) (zy_s1_c (zT_0_1_26) (zy_s1_c (zT_0_1_27) (zy_s1_c (zT_0_1_28) (zy_s1_c (zT_0_1_29) (zy_s1_c (zT_0_1_30) (zy_s1_c (zT_0_1_31) (zy_s1_c (zT_0_1_32) (zy_s1_c (zT_0_1_33) (zy_s1_c (zT_0_1_34) (zy_s1_c (zT_0_1_35) (zy_s1_c (zT_0_1_36) (zy_s1_c (zT_0_1_37) (zy_s1_c (zT_0_1_38) (zy_s1_c (zT_0_1_39) (zy_s1_c (zT_0_1_40) (zy_s1_c (zT_0_1_41) (zy_s1_c (zT_0_1_42) (zy_s1_c (zT_0_1_43) (zy_s1_c (zT_0_1_44) (zy_s1_c (zT_0_1_45) (zy_s1_c (zT_0_1_46) (zy_s1_c (zT_0_1_47) (zy_s1_c (zT_0_1_48) (zy_s1_c (zT_0_1_49) (zy_s1_c (zT_0_1_50) (zy_s1_c (zT_0_1_51) (zy_s1_c (zT_0_1_52) (zy_s1_c (zT_0_1_53) (zy_s1_c (zT_0_1_54) (zy_s1_c (zT_0_1_55) (zy_s1_c (zT_0_1_56) (zy_s1_c (zT_0_1_57) (zy_s1_c (zT_0_1_58) (zy_s1_c (zT_0_1_59) (zy_s1_c (zT_0_1_60) (zy_s1_c (zT_0_1_61) (zy_s1_c (zT_0_1_62) (zy_s1_c (zT_0_1_63) (zy_s1_c (zT_0_1_64) (zy_s1_c (zT_0_1_65) (zy_s1_c (zT_0_1_66) (zy_s1_c (zT_0_1_67) (zy_s1_c (zT_0_1_68) (zy_s1_c (zT_0_1_69) (zy_s1_c (zT_0_1_70) (zy_s1_c (zT_0_1_71) (zy_s1_c (zT_0_1_72) (zy_s1_c (zT_0_1_73) (zy_s1_c (zT_0_1_74) (zy_s1_c (zT_0_1_75) (zy_s1_c (zT_0_1_76) (zy_s1_c (zT_0_1_77) (zy_s1_c (zT_0_1_78) (zy_s1_c (zT_0_1_79) (zy_s1_n (zT_0_1_80))))))))))))))))))))))))))))))))))))))))))))))))))))))))))))))))))))))))))))))))))
theorem zT_ck0 : zT_ok 0 zT_w0 ∧ zT_ok 0 zT_w1 := ⟨⟨zT_Y0, zT_FS, 3, 10, 0, by decide, by decide, by decide, zT_FSs, zT_Y0_ok, zT_0_0⟩, ⟨zT_Y0, zT_FS, 3, 10, 0, by decide, by decide, by decide, zT_FSs, zT_Y0_ok, zT_0_1⟩⟩
noncomputable def zT_Y1 : ECal := zS_no
theorem zT_Y1_ok : ZEF [] zT_Y1 3 := (ZEF.of zS_no_ok)
theorem zT_1_0_0 : zT_F 1 0 (zX zT_Y1 10) zT_w0 (ze_s (2147483648, 2147483648) zT_gx 10) = true := by decide +kernel
theorem zT_1_0_1 : zT_F 1 0 (zX zT_Y1 10) zT_w0 (ze_s (2147483649, 2147483649) zT_gx 10) = true := by decide +kernel
theorem zT_1_0_2 : zT_F 1 0 (zX zT_Y1 10) zT_w0 (ze_s (2147483650, 2147483650) zT_gx 10) = true := by decide +kernel
theorem zT_1_0_3 : zT_F 1 0 (zX zT_Y1 10) zT_w0 (ze_s (2147483651, 2147483651) zT_gx 10) = true := by decide +kernel
theorem zT_1_0_4 : zT_F 1 0 (zX zT_Y1 10) zT_w0 (ze_s (2147483652, 2147483652) zT_gx 10) = true := by decide +kernel
theorem zT_1_0_5 : zT_F 1 0 (zX zT_Y1 10) zT_w0 (ze_s (2147483653, 2147483653) zT_gx 10) = true := by decide +kernel
theorem zT_1_0_6 : zT_F 1 0 (zX zT_Y1 10) zT_w0 (ze_s (2147483654, 2147483654) zT_gx 10) = true := by decide +kernel
theorem zT_1_0_7 : zT_F 1 0 (zX zT_Y1 10) zT_w0 (ze_s (2147483655, 2147483655) zT_gx 10) = true := by decide +kernel
theorem zT_1_0_8 : zT_F 1 0 (zX zT_Y1 10) zT_w0 (ze_s (2147483656, 2147483656) zT_gx 10) = true := by decide +kernel
theorem zT_1_0_9 : zT_F 1 0 (zX zT_Y1 10) zT_w0 (ze_s (2147483657, 2147483657) zT_gx 10) = true := by decide +kernel
theorem zT_1_0_10 : zT_F 1 0 (zX zT_Y1 10) zT_w0 (ze_s (2147483658, 2147483658) zT_gx 10) = true := by decide +kernel
theorem zT_1_0_11 : zT_F 1 0 (zX zT_Y1 10) zT_w0 (ze_s (2147483659, 2147483659) zT_gx 10) = true := by decide +kernel
theorem zT_1_0_12 : zT_F 1 0 (zX zT_Y1 10) zT_w0 (ze_s (2147483660, 2147483660) zT_gx 10) = true := by decide +kernel
theorem zT_1_0_13 : zT_F 1 0 (zX zT_Y1 10) zT_w0 (ze_s (2147483661, 2147483661) zT_gx 10) = true := by decide +kernel
theorem zT_1_0_14 : zT_F 1 0 (zX zT_Y1 10) zT_w0 (ze_s (2147483662, 2147483662) zT_gx 10) = true := by decide +kernel
theorem zT_1_0_15 : zT_F 1 0 (zX zT_Y1 10) zT_w0 (ze_s (2147483663, 2147483663) zT_gx 10) = true := by decide +kernel
theorem zT_1_0_16 : zT_F 1 0 (zX zT_Y1 10) zT_w0 (ze_s (2147483664, 2147483664) zT_gx 10) = true := by decide +kernel
theorem zT_1_0_17 : zT_F 1 0 (zX zT_Y1 10) zT_w0 (ze_s (2147483665, 2147483665) zT_gx 10) = true := by decide +kernel
theorem zT_1_0_18 : zT_F 1 0 (zX zT_Y1 10) zT_w0 (ze_s (2147483666, 2147483666) zT_gx 10) = true := by decide +kernel
theorem zT_1_0_19 : zT_F 1 0 (zX zT_Y1 10) zT_w0 (ze_s (2147483667, 2147483667) zT_gx 10) = true := by decide +kernel
theorem zT_1_0_20 : zT_F 1 0 (zX zT_Y1 10) zT_w0 (ze_s (2147483668, 2147483668) zT_gx 10) = true := by decide +kernel
theorem zT_1_0_21 : zT_F 1 0 (zX zT_Y1 10) zT_w0 (ze_s (2147483669, 2147483669) zT_gx 10) = true := by decide +kernel
theorem zT_1_0_22 : zT_F 1 0 (zX zT_Y1 10) zT_w0 (ze_s (2147483670, 2147483670) zT_gx 10) = true := by decide +kernel
theorem zT_1_0_23 : zT_F 1 0 (zX zT_Y1 10) zT_w0 (ze_s (2147483671, 2147483671) zT_gx 10) = true := by decide +kernel
theorem zT_1_0_24 : zT_F 1 0 (zX zT_Y1 10) zT_w0 (ze_s (2147483672, 2147483672) zT_gx 10) = true := by decide +kernel
theorem zT_1_0_25 : zT_F 1 0 (zX zT_Y1 10) zT_w0 (ze_s (2147483673, 2147483673) zT_gx 10) = true := by decide +kernel
theorem zT_1_0_26 : zT_F 1 0 (zX zT_Y1 10) zT_w0 (ze_s (2147483674, 2147483674) zT_gx 10) = true := by decide +kernel
theorem zT_1_0_27 : zT_F 1 0 (zX zT_Y1 10) zT_w0 (ze_s (2147483675, 2147483675) zT_gx 10) = true := by decide +kernel
theorem zT_1_0_28 : zT_F 1 0 (zX zT_Y1 10) zT_w0 (ze_s (2147483676, 2147483676) zT_gx 10) = true := by decide +kernel
theorem zT_1_0_29 : zT_F 1 0 (zX zT_Y1 10) zT_w0 (ze_s (2147483677, 2147483677) zT_gx 10) = true := by decide +kernel
theorem zT_1_0_30 : zT_F 1 0 (zX zT_Y1 10) zT_w0 (ze_s (2147483678, 2147483678) zT_gx 10) = true := by decide +kernel
theorem zT_1_0_31 : zT_F 1 0 (zX zT_Y1 10) zT_w0 (ze_s (2147483679, 2147483679) zT_gx 10) = true := by decide +kernel
theorem zT_1_0_32 : zT_F 1 0 (zX zT_Y1 10) zT_w0 (ze_s (2147483680, 2147483680) zT_gx 10) = true := by decide +kernel

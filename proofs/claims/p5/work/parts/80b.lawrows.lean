/-! the law's rows -/
theorem ztb_0 : zk_blk 14 code 8 ret false zp_L_law_ 16 zp_L_law__0 = true := by decide +kernel
theorem ztb_1 : zk_blk 14 code 8 ret false zp_L_law_ 16 zp_L_law__1 = true := by decide +kernel
theorem ztb_2 : zk_blk 14 code 8 ret false zp_L_law_ 16 zp_L_law__2 = true := by decide +kernel
theorem ztb_3 : zk_blk 14 code 8 ret false zp_L_law_ 16 zp_L_law__3 = true := by decide +kernel
theorem ztb_4 : zk_blk 14 code 8 ret false zp_L_law_ 16 zp_L_law__4 = true := by decide +kernel
theorem ztb_5 : zk_blk 14 code 8 ret false zp_L_law_ 16 zp_L_law__5 = true := by decide +kernel
theorem ztb_6 : zk_blk 14 code 8 ret false zp_L_law_ 16 zp_L_law__6 = true := by decide +kernel
theorem ztb_7 : zk_blk 14 code 8 ret false zp_L_law_ 16 zp_L_law__7 = true := by decide +kernel
theorem ztb_8 : zk_blk 14 code 8 ret false zp_L_law_ 16 zp_L_law__8 = true := by decide +kernel
theorem ztb_9 : zk_blk 14 code 8 ret false zp_L_law_ 16 zp_L_law__9 = true := by decide +kernel
theorem ztb_10 : zk_blk 14 code 8 ret false zp_L_law_ 16 zp_L_law__10 = true := by decide +kernel
theorem ztb_11 : zk_blk 14 code 8 ret false zp_L_law_ 16 zp_L_law__11 = true := by decide +kernel
theorem ztb_12 : zk_blk 14 code 8 ret false zp_L_law_ 16 zp_L_law__12 = true := by decide +kernel
theorem ztb_13 : zk_blk 14 code 8 ret false zp_L_law_ 16 zp_L_law__13 = true := by decide +kernel
theorem ztb_14 : zk_blk 14 code 8 ret false zp_L_law_ 16 zp_L_law__14 = true := by decide +kernel
theorem ztb_15 : zk_blk 14 code 8 ret false zp_L_law_ 16 zp_L_law__15 = true := by decide +kernel
theorem ztb_16 : zk_blk 14 code 8 ret false zp_L_law_ 16 zp_L_law__16 = true := by decide +kernel
theorem ztb_17 : zk_blk 14 code 8 ret false zp_L_law_ 16 zp_L_law__17 = true := by decide +kernel
theorem ztb_18 : zk_blk 14 code 8 ret false zp_L_law_ 16 zp_L_law__18 = true := by decide +kernel
theorem ztb_19 : zk_blk 14 code 8 ret false zp_L_law_ 16 zp_L_law__19 = true := by decide +kernel
theorem ztb_20 : zk_blk 14 code 8 ret false zp_L_law_ 16 zp_L_law__20 = true := by decide +kernel
theorem ztb_21 : zk_blk 14 code 8 ret false zp_L_law_ 16 zp_L_law__21 = true := by decide +kernel
theorem ztb_22 : zk_blk 14 code 8 ret false zp_L_law_ 16 zp_L_law__22 = true := by decide +kernel
theorem ztb_23 : zk_blk 14 code 8 ret false zp_L_law_ 16 zp_L_law__23 = true := by decide +kernel
theorem ztb_24 : zk_blk 14 code 8 ret false zp_L_law_ 16 zp_L_law__24 = true := by decide +kernel
theorem ztb_25 : zk_blk 14 code 8 ret false zp_L_law_ 16 zp_L_law__25 = true := by decide +kernel
theorem ztb_26 : zk_blk 14 code 8 ret false zp_L_law_ 16 zp_L_law__26 = true := by decide +kernel
theorem ztb_27 : zk_blk 14 code 8 ret false zp_L_law_ 16 zp_L_law__27 = true := by decide +kernel
theorem ztb_28 : zk_blk 14 code 8 ret false zp_L_law_ 16 zp_L_law__28 = true := by decide +kernel
theorem ztb_29 : zk_blk 14 code 8 ret false zp_L_law_ 16 zp_L_law__29 = true := by decide +kernel
theorem ztb_30 : zk_blk 14 code 8 ret false zp_L_law_ 16 zp_L_law__30 = true := by decide +kernel
theorem ztb_31 : zk_blk 14 code 8 ret false zp_L_law_ 16 zp_L_law__31 = true := by decide +kernel
theorem ztb_32 : zk_blk 14 code 8 ret false zp_L_law_ 16 zp_L_law__32 = true := by decide +kernel
theorem ztb_33 : zk_blk 14 code 8 ret false zp_L_law_ 16 zp_L_law__33 = true := by decide +kernel
theorem ztb_34 : zk_blk 14 code 8 ret false zp_L_law_ 16 zp_L_law__34 = true := by decide +kernel
theorem ztb_35 : zk_blk 14 code 8 ret false zp_L_law_ 16 zp_L_law__35 = true := by decide +kernel
theorem ztb_36 : zk_blk 14 code 8 ret false zp_L_law_ 16 zp_L_law__36 = true := by decide +kernel
theorem ztb_37 : zk_blk 14 code 8 ret false zp_L_law_ 16 zp_L_law__37 = true := by decide +kernel
theorem ztb_38 : zk_blk 14 code 8 ret false zp_L_law_ 16 zp_L_law__38 = true := by decide +kernel
theorem ztb_39 : zk_blk 14 code 8 ret false zp_L_law_ 16 zp_L_law__39 = true := by decide +kernel
theorem ztb_40 : zk_blk 14 code 8 ret false zp_L_law_ 16 zp_L_law__40 = true := by decide +kernel
theorem ztb_41 : zk_blk 14 code 8 ret false zp_L_law_ 16 zp_L_law__41 = true := by decide +kernel
theorem ztb_42 : zk_blk 14 code 8 ret false zp_L_law_ 16 zp_L_law__42 = true := by decide +kernel
theorem ztb_43 : zk_blk 14 code 8 ret false zp_L_law_ 16 zp_L_law__43 = true := by decide +kernel
theorem ztb_44 : zk_blk 14 code 8 ret false zp_L_law_ 16 zp_L_law__44 = true := by decide +kernel
theorem ztb_45 : zk_blk 14 code 8 ret false zp_L_law_ 16 zp_L_law__45 = true := by decide +kernel
theorem ztb_46 : zk_blk 14 code 8 ret false zp_L_law_ 16 zp_L_law__46 = true := by decide +kernel
theorem ztb_47 : zk_blk 14 code 8 ret false zp_L_law_ 16 zp_L_law__47 = true := by decide +kernel
theorem ztb_48 : zk_blk 14 code 8 ret false zp_L_law_ 16 zp_L_law__48 = true := by decide +kernel
theorem ztb_49 : zk_blk 14 code 8 ret false zp_L_law_ 16 zp_L_law__49 = true := by decide +kernel
theorem ztb_50 : zk_blk 14 code 8 ret false zp_L_law_ 16 zp_L_law__50 = true := by decide +kernel
theorem ztb_51 : zk_blk 14 code 8 ret false zp_L_law_ 16 zp_L_law__51 = true := by decide +kernel
theorem ztb_52 : zk_blk 14 code 8 ret false zp_L_law_ 16 zp_L_law__52 = true := by decide +kernel
theorem ztb_53 : zk_blk 14 code 8 ret false zp_L_law_ 16 zp_L_law__53 = true := by decide +kernel
theorem ztb_54 : zk_blk 14 code 8 ret false zp_L_law_ 16 zp_L_law__54 = true := by decide +kernel
theorem ztb_55 : zk_blk 14 code 8 ret false zp_L_law_ 16 zp_L_law__55 = true := by decide +kernel
theorem ztb_56 : zk_blk 14 code 8 ret false zp_L_law_ 16 zp_L_law__56 = true := by decide +kernel
theorem ztb_57 : zk_blk 14 code 8 ret false zp_L_law_ 16 zp_L_law__57 = true := by decide +kernel
theorem ztb_58 : zk_blk 14 code 8 ret false zp_L_law_ 16 zp_L_law__58 = true := by decide +kernel
theorem ztb_59 : zk_blk 14 code 8 ret false zp_L_law_ 16 zp_L_law__59 = true := by decide +kernel
theorem ztb_60 : zk_blk 14 code 8 ret false zp_L_law_ 16 zp_L_law__60 = true := by decide +kernel
theorem ztb_61 : zk_blk 14 code 8 ret false zp_L_law_ 16 zp_L_law__61 = true := by decide +kernel
theorem ztb_62 : zk_blk 14 code 8 ret false zp_L_law_ 16 zp_L_law__62 = true := by decide +kernel
theorem ztc_63 : zk_code 14 code 8 ret false zp_L_law_ zp_L_law__63 = true := by decide +kernel
theorem ztc_62 : zk_code 14 code 8 ret false zp_L_law_ zp_L_law__62 = true := zk_blk_ok 16 zp_L_law__62 zp_L_law__63 ztb_62 rfl ztc_63
theorem ztc_61 : zk_code 14 code 8 ret false zp_L_law_ zp_L_law__61 = true := zk_blk_ok 16 zp_L_law__61 zp_L_law__62 ztb_61 rfl ztc_62
theorem ztc_60 : zk_code 14 code 8 ret false zp_L_law_ zp_L_law__60 = true := zk_blk_ok 16 zp_L_law__60 zp_L_law__61 ztb_60 rfl ztc_61
theorem ztc_59 : zk_code 14 code 8 ret false zp_L_law_ zp_L_law__59 = true := zk_blk_ok 16 zp_L_law__59 zp_L_law__60 ztb_59 rfl ztc_60
theorem ztc_58 : zk_code 14 code 8 ret false zp_L_law_ zp_L_law__58 = true := zk_blk_ok 16 zp_L_law__58 zp_L_law__59 ztb_58 rfl ztc_59
theorem ztc_57 : zk_code 14 code 8 ret false zp_L_law_ zp_L_law__57 = true := zk_blk_ok 16 zp_L_law__57 zp_L_law__58 ztb_57 rfl ztc_58
theorem ztc_56 : zk_code 14 code 8 ret false zp_L_law_ zp_L_law__56 = true := zk_blk_ok 16 zp_L_law__56 zp_L_law__57 ztb_56 rfl ztc_57
theorem ztc_55 : zk_code 14 code 8 ret false zp_L_law_ zp_L_law__55 = true := zk_blk_ok 16 zp_L_law__55 zp_L_law__56 ztb_55 rfl ztc_56
theorem ztc_54 : zk_code 14 code 8 ret false zp_L_law_ zp_L_law__54 = true := zk_blk_ok 16 zp_L_law__54 zp_L_law__55 ztb_54 rfl ztc_55
theorem ztc_53 : zk_code 14 code 8 ret false zp_L_law_ zp_L_law__53 = true := zk_blk_ok 16 zp_L_law__53 zp_L_law__54 ztb_53 rfl ztc_54
theorem ztc_52 : zk_code 14 code 8 ret false zp_L_law_ zp_L_law__52 = true := zk_blk_ok 16 zp_L_law__52 zp_L_law__53 ztb_52 rfl ztc_53
theorem ztc_51 : zk_code 14 code 8 ret false zp_L_law_ zp_L_law__51 = true := zk_blk_ok 16 zp_L_law__51 zp_L_law__52 ztb_51 rfl ztc_52
theorem ztc_50 : zk_code 14 code 8 ret false zp_L_law_ zp_L_law__50 = true := zk_blk_ok 16 zp_L_law__50 zp_L_law__51 ztb_50 rfl ztc_51
theorem ztc_49 : zk_code 14 code 8 ret false zp_L_law_ zp_L_law__49 = true := zk_blk_ok 16 zp_L_law__49 zp_L_law__50 ztb_49 rfl ztc_50
theorem ztc_48 : zk_code 14 code 8 ret false zp_L_law_ zp_L_law__48 = true := zk_blk_ok 16 zp_L_law__48 zp_L_law__49 ztb_48 rfl ztc_49
theorem ztc_47 : zk_code 14 code 8 ret false zp_L_law_ zp_L_law__47 = true := zk_blk_ok 16 zp_L_law__47 zp_L_law__48 ztb_47 rfl ztc_48
theorem ztc_46 : zk_code 14 code 8 ret false zp_L_law_ zp_L_law__46 = true := zk_blk_ok 16 zp_L_law__46 zp_L_law__47 ztb_46 rfl ztc_47
theorem ztc_45 : zk_code 14 code 8 ret false zp_L_law_ zp_L_law__45 = true := zk_blk_ok 16 zp_L_law__45 zp_L_law__46 ztb_45 rfl ztc_46
theorem ztc_44 : zk_code 14 code 8 ret false zp_L_law_ zp_L_law__44 = true := zk_blk_ok 16 zp_L_law__44 zp_L_law__45 ztb_44 rfl ztc_45
theorem ztc_43 : zk_code 14 code 8 ret false zp_L_law_ zp_L_law__43 = true := zk_blk_ok 16 zp_L_law__43 zp_L_law__44 ztb_43 rfl ztc_44
theorem ztc_42 : zk_code 14 code 8 ret false zp_L_law_ zp_L_law__42 = true := zk_blk_ok 16 zp_L_law__42 zp_L_law__43 ztb_42 rfl ztc_43
theorem ztc_41 : zk_code 14 code 8 ret false zp_L_law_ zp_L_law__41 = true := zk_blk_ok 16 zp_L_law__41 zp_L_law__42 ztb_41 rfl ztc_42
theorem ztc_40 : zk_code 14 code 8 ret false zp_L_law_ zp_L_law__40 = true := zk_blk_ok 16 zp_L_law__40 zp_L_law__41 ztb_40 rfl ztc_41
theorem ztc_39 : zk_code 14 code 8 ret false zp_L_law_ zp_L_law__39 = true := zk_blk_ok 16 zp_L_law__39 zp_L_law__40 ztb_39 rfl ztc_40
theorem ztc_38 : zk_code 14 code 8 ret false zp_L_law_ zp_L_law__38 = true := zk_blk_ok 16 zp_L_law__38 zp_L_law__39 ztb_38 rfl ztc_39
theorem ztc_37 : zk_code 14 code 8 ret false zp_L_law_ zp_L_law__37 = true := zk_blk_ok 16 zp_L_law__37 zp_L_law__38 ztb_37 rfl ztc_38
theorem ztc_36 : zk_code 14 code 8 ret false zp_L_law_ zp_L_law__36 = true := zk_blk_ok 16 zp_L_law__36 zp_L_law__37 ztb_36 rfl ztc_37
theorem ztc_35 : zk_code 14 code 8 ret false zp_L_law_ zp_L_law__35 = true := zk_blk_ok 16 zp_L_law__35 zp_L_law__36 ztb_35 rfl ztc_36
theorem ztc_34 : zk_code 14 code 8 ret false zp_L_law_ zp_L_law__34 = true := zk_blk_ok 16 zp_L_law__34 zp_L_law__35 ztb_34 rfl ztc_35
theorem ztc_33 : zk_code 14 code 8 ret false zp_L_law_ zp_L_law__33 = true := zk_blk_ok 16 zp_L_law__33 zp_L_law__34 ztb_33 rfl ztc_34
theorem ztc_32 : zk_code 14 code 8 ret false zp_L_law_ zp_L_law__32 = true := zk_blk_ok 16 zp_L_law__32 zp_L_law__33 ztb_32 rfl ztc_33
theorem ztc_31 : zk_code 14 code 8 ret false zp_L_law_ zp_L_law__31 = true := zk_blk_ok 16 zp_L_law__31 zp_L_law__32 ztb_31 rfl ztc_32
theorem ztc_30 : zk_code 14 code 8 ret false zp_L_law_ zp_L_law__30 = true := zk_blk_ok 16 zp_L_law__30 zp_L_law__31 ztb_30 rfl ztc_31
theorem ztc_29 : zk_code 14 code 8 ret false zp_L_law_ zp_L_law__29 = true := zk_blk_ok 16 zp_L_law__29 zp_L_law__30 ztb_29 rfl ztc_30
theorem ztc_28 : zk_code 14 code 8 ret false zp_L_law_ zp_L_law__28 = true := zk_blk_ok 16 zp_L_law__28 zp_L_law__29 ztb_28 rfl ztc_29
theorem ztc_27 : zk_code 14 code 8 ret false zp_L_law_ zp_L_law__27 = true := zk_blk_ok 16 zp_L_law__27 zp_L_law__28 ztb_27 rfl ztc_28
theorem ztc_26 : zk_code 14 code 8 ret false zp_L_law_ zp_L_law__26 = true := zk_blk_ok 16 zp_L_law__26 zp_L_law__27 ztb_26 rfl ztc_27
theorem ztc_25 : zk_code 14 code 8 ret false zp_L_law_ zp_L_law__25 = true := zk_blk_ok 16 zp_L_law__25 zp_L_law__26 ztb_25 rfl ztc_26
theorem ztc_24 : zk_code 14 code 8 ret false zp_L_law_ zp_L_law__24 = true := zk_blk_ok 16 zp_L_law__24 zp_L_law__25 ztb_24 rfl ztc_25
theorem ztc_23 : zk_code 14 code 8 ret false zp_L_law_ zp_L_law__23 = true := zk_blk_ok 16 zp_L_law__23 zp_L_law__24 ztb_23 rfl ztc_24
theorem ztc_22 : zk_code 14 code 8 ret false zp_L_law_ zp_L_law__22 = true := zk_blk_ok 16 zp_L_law__22 zp_L_law__23 ztb_22 rfl ztc_23
theorem ztc_21 : zk_code 14 code 8 ret false zp_L_law_ zp_L_law__21 = true := zk_blk_ok 16 zp_L_law__21 zp_L_law__22 ztb_21 rfl ztc_22
theorem ztc_20 : zk_code 14 code 8 ret false zp_L_law_ zp_L_law__20 = true := zk_blk_ok 16 zp_L_law__20 zp_L_law__21 ztb_20 rfl ztc_21
theorem ztc_19 : zk_code 14 code 8 ret false zp_L_law_ zp_L_law__19 = true := zk_blk_ok 16 zp_L_law__19 zp_L_law__20 ztb_19 rfl ztc_20
theorem ztc_18 : zk_code 14 code 8 ret false zp_L_law_ zp_L_law__18 = true := zk_blk_ok 16 zp_L_law__18 zp_L_law__19 ztb_18 rfl ztc_19
theorem ztc_17 : zk_code 14 code 8 ret false zp_L_law_ zp_L_law__17 = true := zk_blk_ok 16 zp_L_law__17 zp_L_law__18 ztb_17 rfl ztc_18
theorem ztc_16 : zk_code 14 code 8 ret false zp_L_law_ zp_L_law__16 = true := zk_blk_ok 16 zp_L_law__16 zp_L_law__17 ztb_16 rfl ztc_17
theorem ztc_15 : zk_code 14 code 8 ret false zp_L_law_ zp_L_law__15 = true := zk_blk_ok 16 zp_L_law__15 zp_L_law__16 ztb_15 rfl ztc_16
theorem ztc_14 : zk_code 14 code 8 ret false zp_L_law_ zp_L_law__14 = true := zk_blk_ok 16 zp_L_law__14 zp_L_law__15 ztb_14 rfl ztc_15
theorem ztc_13 : zk_code 14 code 8 ret false zp_L_law_ zp_L_law__13 = true := zk_blk_ok 16 zp_L_law__13 zp_L_law__14 ztb_13 rfl ztc_14
theorem ztc_12 : zk_code 14 code 8 ret false zp_L_law_ zp_L_law__12 = true := zk_blk_ok 16 zp_L_law__12 zp_L_law__13 ztb_12 rfl ztc_13
theorem ztc_11 : zk_code 14 code 8 ret false zp_L_law_ zp_L_law__11 = true := zk_blk_ok 16 zp_L_law__11 zp_L_law__12 ztb_11 rfl ztc_12
theorem ztc_10 : zk_code 14 code 8 ret false zp_L_law_ zp_L_law__10 = true := zk_blk_ok 16 zp_L_law__10 zp_L_law__11 ztb_10 rfl ztc_11
theorem ztc_9 : zk_code 14 code 8 ret false zp_L_law_ zp_L_law__9 = true := zk_blk_ok 16 zp_L_law__9 zp_L_law__10 ztb_9 rfl ztc_10
theorem ztc_8 : zk_code 14 code 8 ret false zp_L_law_ zp_L_law__8 = true := zk_blk_ok 16 zp_L_law__8 zp_L_law__9 ztb_8 rfl ztc_9
theorem ztc_7 : zk_code 14 code 8 ret false zp_L_law_ zp_L_law__7 = true := zk_blk_ok 16 zp_L_law__7 zp_L_law__8 ztb_7 rfl ztc_8
theorem ztc_6 : zk_code 14 code 8 ret false zp_L_law_ zp_L_law__6 = true := zk_blk_ok 16 zp_L_law__6 zp_L_law__7 ztb_6 rfl ztc_7
theorem ztc_5 : zk_code 14 code 8 ret false zp_L_law_ zp_L_law__5 = true := zk_blk_ok 16 zp_L_law__5 zp_L_law__6 ztb_5 rfl ztc_6
theorem ztc_4 : zk_code 14 code 8 ret false zp_L_law_ zp_L_law__4 = true := zk_blk_ok 16 zp_L_law__4 zp_L_law__5 ztb_4 rfl ztc_5
theorem ztc_3 : zk_code 14 code 8 ret false zp_L_law_ zp_L_law__3 = true := zk_blk_ok 16 zp_L_law__3 zp_L_law__4 ztb_3 rfl ztc_4
theorem ztc_2 : zk_code 14 code 8 ret false zp_L_law_ zp_L_law__2 = true := zk_blk_ok 16 zp_L_law__2 zp_L_law__3 ztb_2 rfl ztc_3
theorem ztc_1 : zk_code 14 code 8 ret false zp_L_law_ zp_L_law__1 = true := zk_blk_ok 16 zp_L_law__1 zp_L_law__2 ztb_1 rfl ztc_2
theorem ztc_0 : zk_code 14 code 8 ret false zp_L_law_ zp_L_law__0 = true := zk_blk_ok 16 zp_L_law__0 zp_L_law__1 ztb_0 rfl ztc_1
theorem zt_L_law_ : zk_code 14 code 8 ret false zp_L_law_ zp_L_law__0 = true := ztc_0
theorem zq_L_law_ : ∀ cs ∈ zp_L_law_, zk_code 14 code 8 ret false zp_L_law_ cs = true := zk_mem1 ztc_0 (zk_mem1 ztc_1 (zk_mem1 ztc_2 (zk_mem1 ztc_3 (zk_mem1 ztc_4 (zk_mem1 ztc_5 (zk_mem1 ztc_6 (zk_mem1 ztc_7 (zk_mem1 ztc_8 (zk_mem1 ztc_9 (zk_mem1 ztc_10 (zk_mem1 ztc_11 (zk_mem1 ztc_12 (zk_mem1 ztc_13 (zk_mem1 ztc_14 (zk_mem1 ztc_15 (zk_mem1 ztc_16 (zk_mem1 ztc_17 (zk_mem1 ztc_18 (zk_mem1 ztc_19 (zk_mem1 ztc_20 (zk_mem1 ztc_21 (zk_mem1 ztc_22 (zk_mem1 ztc_23 (zk_mem1 ztc_24 (zk_mem1 ztc_25 (zk_mem1 ztc_26 (zk_mem1 ztc_27 (zk_mem1 ztc_28 (zk_mem1 ztc_29 (zk_mem1 ztc_30 (zk_mem1 ztc_31 (zk_mem1 ztc_32 (zk_mem1 ztc_33 (zk_mem1 ztc_34 (zk_mem1 ztc_35 (zk_mem1 ztc_36 (zk_mem1 ztc_37 (zk_mem1 ztc_38 (zk_mem1 ztc_39 (zk_mem1 ztc_40 (zk_mem1 ztc_41 (zk_mem1 ztc_42 (zk_mem1 ztc_43 (zk_mem1 ztc_44 (zk_mem1 ztc_45 (zk_mem1 ztc_46 (zk_mem1 ztc_47 (zk_mem1 ztc_48 (zk_mem1 ztc_49 (zk_mem1 ztc_50 (zk_mem1 ztc_51 (zk_mem1 ztc_52 (zk_mem1 ztc_53 (zk_mem1 ztc_54 (zk_mem1 ztc_55 (zk_mem1 ztc_56 (zk_mem1 ztc_57 (zk_mem1 ztc_58 (zk_mem1 ztc_59 (zk_mem1 ztc_60 (zk_mem1 ztc_61 (zk_mem1 ztc_62 (zk_mem1 ztc_63 (zk_mem0))))))))))))))))))))))))))))))))))))))))))))))))))))))))))))))))

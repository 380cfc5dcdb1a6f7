/-! the cases of the law -/
noncomputable def zT_B3 : ECal := zcIN2
theorem zT_B3_ok : ZE zT_B3 12 := zcIN2_ok
noncomputable def zT_E3 : ECal := zT_B3
theorem zT_E3_ok : ZEF [] zT_E3 12 := (ZEF.of zT_B3_ok)
theorem zT_3_0_0 : zT_F 3 0 (zX zT_E3 10) zT_w0 (ze_s (2147483648, 2147483648) (ze_s (2147483648, 2147483648) zT_gx 13) 10) = true := by decide +kernel
theorem zT_3_0_1 : zT_F 3 0 (zX zT_E3 10) zT_w0 (ze_s (2147483649, 2147483649) (ze_s (2147483648, 2147483648) zT_gx 13) 10) = true := by decide +kernel
theorem zT_3_0_2 : zT_F 3 0 (zX zT_E3 10) zT_w0 (ze_s (2147483650, 2147483650) (ze_s (2147483648, 2147483648) zT_gx 13) 10) = true := by decide +kernel
theorem zT_3_0_3 : zT_F 3 0 (zX zT_E3 10) zT_w0 (ze_s (2147483651, 2147483651) (ze_s (2147483648, 2147483648) zT_gx 13) 10) = true := by decide +kernel
theorem zT_3_0_4 : zT_F 3 0 (zX zT_E3 10) zT_w0 (ze_s (2147483652, 2147483652) (ze_s (2147483648, 2147483648) zT_gx 13) 10) = true := by decide +kernel
theorem zT_3_0_5 : zT_F 3 0 (zX zT_E3 10) zT_w0 (ze_s (2147483653, 2147483653) (ze_s (2147483648, 2147483648) zT_gx 13) 10) = true := by decide +kernel

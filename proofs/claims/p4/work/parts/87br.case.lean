/-! the cases of the law -/
noncomputable def zT_Z3 : ECal := zcIN2
theorem zT_Z3_ok : ZE zT_Z3 12 := zcIN2_ok
noncomputable def zT_Y3 : ECal := zT_Z3
theorem zT_Y3_ok : ZEF [] zT_Y3 12 := (ZEF.of zT_Z3_ok)
theorem zT_3_0_0 : zT_F 3 0 (zX zT_Y3 10) zT_w0 (ze_s (2147483648, 2147483648) (ze_s (2147483648, 2147483648) zT_gx 13) 10) = true := by decide +kernel
theorem zT_3_0_1 : zT_F 3 0 (zX zT_Y3 10) zT_w0 (ze_s (2147483649, 2147483649) (ze_s (2147483648, 2147483648) zT_gx 13) 10) = true := by decide +kernel
theorem zT_3_0_2 : zT_F 3 0 (zX zT_Y3 10) zT_w0 (ze_s (2147483650, 2147483650) (ze_s (2147483648, 2147483648) zT_gx 13) 10) = true := by decide +kernel
theorem zT_3_0_3 : zT_F 3 0 (zX zT_Y3 10) zT_w0 (ze_s (2147483651, 2147483651) (ze_s (2147483648, 2147483648) zT_gx 13) 10) = true := by decide +kernel
theorem zT_3_0_4 : zT_F 3 0 (zX zT_Y3 10) zT_w0 (ze_s (2147483652, 2147483652) (ze_s (2147483648, 2147483648) zT_gx 13) 10) = true := by decide +kernel
theorem zT_3_0_5 : zT_F 3 0 (zX zT_Y3 10) zT_w0 (ze_s (2147483653, 2147483653) (ze_s (2147483648, 2147483648) zT_gx 13) 10) = true := by decide +kernel

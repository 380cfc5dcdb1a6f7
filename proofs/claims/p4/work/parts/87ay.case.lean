/-! the cases of the law -/
theorem zT_2_0_1 : zT_F 2 0 (zX zT_Y2 10) zT_w0 (ze_s (2147483649, 2147483649) (ze_s (2147483648, 2147483648) zT_gx 12) 10) = true := by decide +kernel
theorem zT_2_0_2 : zT_F 2 0 (zX zT_Y2 10) zT_w0 (ze_s (2147483650, 2147483650) (ze_s (2147483648, 2147483648) zT_gx 12) 10) = true := by decide +kernel
theorem zT_2_0_3 : zT_F 2 0 (zX zT_Y2 10) zT_w0 (ze_s (2147483651, 2147483651) (ze_s (2147483648, 2147483648) zT_gx 12) 10) = true := by decide +kernel
theorem zT_2_0_4 : zT_F 2 0 (zX zT_Y2 10) zT_w0 (ze_s (2147483652, 2147483652) (ze_s (2147483648, 2147483648) zT_gx 12) 10) = true := by decide +kernel
theorem zT_2_0_5 : zT_F 2 0 (zX zT_Y2 10) zT_w0 (ze_s (2147483653, 2147483653) (ze_s (2147483648, 2147483648) zT_gx 12) 10) = true := by decide +kernel
theorem zT_2_0_6 : zT_F 2 0 (zX zT_Y2 10) zT_w0 (ze_s (2147483654, 2147483654) (ze_s (2147483648, 2147483648) zT_gx 12) 10) = true := by decide +kernel
theorem zT_2_0_7 : zT_F 2 0 (zX zT_Y2 10) zT_w0 (ze_s (2147483655, 2147483655) (ze_s (2147483648, 2147483648) zT_gx 12) 10) = true := by decide +kernel

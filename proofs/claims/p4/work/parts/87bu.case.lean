/-! the cases of the law -/
theorem zT_3_0_20 : zT_F 3 0 (zX zT_Y3 10) zT_w0 (ze_s (2147483657, 2147483657) (ze_s (2147483649, 2147483649) zT_gx 13) 10) = true := by decide +kernel
theorem zT_3_0_21 : zT_F 3 0 (zX zT_Y3 10) zT_w0 (ze_s (2147483658, 2147483728) (ze_s (2147483649, 2147483649) zT_gx 13) 10) = true := by decide +kernel
theorem zT_3_0_22 : zT_F 3 0 (zX zT_Y3 10) zT_w0 (ze_s (2147483648, 2147483648) (ze_s (2147483650, 2147483650) zT_gx 13) 10) = true := by decide +kernel
theorem zT_3_0_23 : zT_F 3 0 (zX zT_Y3 10) zT_w0 (ze_s (2147483649, 2147483649) (ze_s (2147483650, 2147483650) zT_gx 13) 10) = true := by decide +kernel
theorem zT_3_0_24 : zT_F 3 0 (zX zT_Y3 10) zT_w0 (ze_s (2147483650, 2147483650) (ze_s (2147483650, 2147483650) zT_gx 13) 10) = true := by decide +kernel
theorem zT_3_0_25 : zT_F 3 0 (zX zT_Y3 10) zT_w0 (ze_s (2147483651, 2147483651) (ze_s (2147483650, 2147483650) zT_gx 13) 10) = true := by decide +kernel
theorem zT_3_0_26 : zT_F 3 0 (zX zT_Y3 10) zT_w0 (ze_s (2147483652, 2147483652) (ze_s (2147483650, 2147483650) zT_gx 13) 10) = true := by decide +kernel

/-! the cases of the law -/
theorem zT_2_1_11 : zT_F 2 0 (zX zT_Y2 10) zT_w1 (ze_s (2147483648, 2147483648) (ze_s (2147483649, 2147483649) zT_gx 12) 10) = true := by decide +kernel
theorem zT_2_1_12 : zT_F 2 0 (zX zT_Y2 10) zT_w1 (ze_s (2147483649, 2147483649) (ze_s (2147483649, 2147483649) zT_gx 12) 10) = true := by decide +kernel
theorem zT_2_1_13 : zT_F 2 0 (zX zT_Y2 10) zT_w1 (ze_s (2147483650, 2147483650) (ze_s (2147483649, 2147483649) zT_gx 12) 10) = true := by decide +kernel
theorem zT_2_1_14 : zT_F 2 0 (zX zT_Y2 10) zT_w1 (ze_s (2147483651, 2147483651) (ze_s (2147483649, 2147483649) zT_gx 12) 10) = true := by decide +kernel
theorem zT_2_1_15 : zT_F 2 0 (zX zT_Y2 10) zT_w1 (ze_s (2147483652, 2147483652) (ze_s (2147483649, 2147483649) zT_gx 12) 10) = true := by decide +kernel
theorem zT_2_1_16 : zT_F 2 0 (zX zT_Y2 10) zT_w1 (ze_s (2147483653, 2147483653) (ze_s (2147483649, 2147483649) zT_gx 12) 10) = true := by decide +kernel
theorem zT_2_1_17 : zT_F 2 0 (zX zT_Y2 10) zT_w1 (ze_s (2147483654, 2147483654) (ze_s (2147483649, 2147483649) zT_gx 12) 10) = true := by decide +kernel

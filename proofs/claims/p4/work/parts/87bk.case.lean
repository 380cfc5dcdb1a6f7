/-! the cases of the law -/
theorem zT_2_1_18 : zT_F 2 0 (zX zT_Y2 10) zT_w1 (ze_s (2147483655, 2147483655) (ze_s (2147483649, 2147483649) zT_gx 12) 10) = true := by decide +kernel
theorem zT_2_1_19 : zT_F 2 0 (zX zT_Y2 10) zT_w1 (ze_s (2147483656, 2147483656) (ze_s (2147483649, 2147483649) zT_gx 12) 10) = true := by decide +kernel
theorem zT_2_1_20 : zT_F 2 0 (zX zT_Y2 10) zT_w1 (ze_s (2147483657, 2147483657) (ze_s (2147483649, 2147483649) zT_gx 12) 10) = true := by decide +kernel
theorem zT_2_1_21 : zT_F 2 0 (zX zT_Y2 10) zT_w1 (ze_s (2147483658, 2147483728) (ze_s (2147483649, 2147483649) zT_gx 12) 10) = true := by decide +kernel
theorem zT_2_1_22 : zT_F 2 0 (zX zT_Y2 10) zT_w1 (ze_s (2147483648, 2147483648) (ze_s (2147483650, 2147483650) zT_gx 12) 10) = true := by decide +kernel
theorem zT_2_1_23 : zT_F 2 0 (zX zT_Y2 10) zT_w1 (ze_s (2147483649, 2147483649) (ze_s (2147483650, 2147483650) zT_gx 12) 10) = true := by decide +kernel
theorem zT_2_1_24 : zT_F 2 0 (zX zT_Y2 10) zT_w1 (ze_s (2147483650, 2147483650) (ze_s (2147483650, 2147483650) zT_gx 12) 10) = true := by decide +kernel

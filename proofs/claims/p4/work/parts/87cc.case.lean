/-! the cases of the law -/
theorem zT_3_1_9 : zT_F 3 0 (zX zT_Y3 10) zT_w1 (ze_s (2147483657, 2147483657) (ze_s (2147483648, 2147483648) zT_gx 13) 10) = true := by decide +kernel
theorem zT_3_1_10 : zT_F 3 0 (zX zT_Y3 10) zT_w1 (ze_s (2147483658, 2147483728) (ze_s (2147483648, 2147483648) zT_gx 13) 10) = true := by decide +kernel
theorem zT_3_1_11 : zT_F 3 0 (zX zT_Y3 10) zT_w1 (ze_s (2147483648, 2147483648) (ze_s (2147483649, 2147483649) zT_gx 13) 10) = true := by decide +kernel
theorem zT_3_1_12 : zT_F 3 0 (zX zT_Y3 10) zT_w1 (ze_s (2147483649, 2147483649) (ze_s (2147483649, 2147483649) zT_gx 13) 10) = true := by decide +kernel
theorem zT_3_1_13 : zT_F 3 0 (zX zT_Y3 10) zT_w1 (ze_s (2147483650, 2147483650) (ze_s (2147483649, 2147483649) zT_gx 13) 10) = true := by decide +kernel
theorem zT_3_1_14 : zT_F 3 0 (zX zT_Y3 10) zT_w1 (ze_s (2147483651, 2147483651) (ze_s (2147483649, 2147483649) zT_gx 13) 10) = true := by decide +kernel
theorem zT_3_1_15 : zT_F 3 0 (zX zT_Y3 10) zT_w1 (ze_s (2147483652, 2147483652) (ze_s (2147483649, 2147483649) zT_gx 13) 10) = true := by decide +kernel

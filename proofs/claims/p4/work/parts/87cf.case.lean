/-! the cases of the law -/
theorem zT_3_1_30 : zT_F 3 0 (zX zT_Y3 10) zT_w1 (ze_s (2147483656, 2147483656) (ze_s (2147483650, 2147483650) zT_gx 13) 10) = true := by decide +kernel
theorem zT_3_1_31 : zT_F 3 0 (zX zT_Y3 10) zT_w1 (ze_s (2147483657, 2147483657) (ze_s (2147483650, 2147483650) zT_gx 13) 10) = true := by decide +kernel
theorem zT_3_1_32 : zT_F 3 0 (zX zT_Y3 10) zT_w1 (ze_s (2147483658, 2147483728) (ze_s (2147483650, 2147483650) zT_gx 13) 10) = true := by decide +kernel
theorem zT_3_1_33 : zT_F 3 0 (zX zT_Y3 10) zT_w1 (ze_s (2147483648, 2147483648) (ze_s (2147483651, 2147483651) zT_gx 13) 10) = true := by decide +kernel
theorem zT_3_1_34 : zT_F 3 0 (zX zT_Y3 10) zT_w1 (ze_s (2147483649, 2147483649) (ze_s (2147483651, 2147483651) zT_gx 13) 10) = true := by decide +kernel
theorem zT_3_1_35 : zT_F 3 0 (zX zT_Y3 10) zT_w1 (ze_s (2147483650, 2147483650) (ze_s (2147483651, 2147483651) zT_gx 13) 10) = true := by decide +kernel
theorem zT_3_1_36 : zT_F 3 0 (zX zT_Y3 10) zT_w1 (ze_s (2147483651, 2147483651) (ze_s (2147483651, 2147483651) zT_gx 13) 10) = true := by decide +kernel

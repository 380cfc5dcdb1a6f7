/-! the cases of the law -/
theorem zT_2_1_32 : zT_F 2 0 (zX zT_Y2 10) zT_w1 (ze_s (2147483658, 2147483728) (ze_s (2147483650, 2147483650) zT_gx 12) 10) = true := by decide +kernel
theorem zT_2_1_33 : zT_F 2 0 (zX zT_Y2 10) zT_w1 (ze_s (2147483648, 2147483648) (ze_s (2147483651, 2147483651) zT_gx 12) 10) = true := by decide +kernel
theorem zT_2_1_34 : zT_F 2 0 (zX zT_Y2 10) zT_w1 (ze_s (2147483649, 2147483649) (ze_s (2147483651, 2147483651) zT_gx 12) 10) = true := by decide +kernel
theorem zT_2_1_35 : zT_F 2 0 (zX zT_Y2 10) zT_w1 (ze_s (2147483650, 2147483650) (ze_s (2147483651, 2147483651) zT_gx 12) 10) = true := by decide +kernel
theorem zT_2_1_36 : zT_F 2 0 (zX zT_Y2 10) zT_w1 (ze_s (2147483651, 2147483651) (ze_s (2147483651, 2147483651) zT_gx 12) 10) = true := by decide +kernel
theorem zT_2_1_37 : zT_F 2 0 (zX zT_Y2 10) zT_w1 (ze_s (2147483652, 2147483652) (ze_s (2147483651, 2147483651) zT_gx 12) 10) = true := by decide +kernel
theorem zT_2_1_38 : zT_F 2 0 (zX zT_Y2 10) zT_w1 (ze_s (2147483653, 2147483653) (ze_s (2147483651, 2147483651) zT_gx 12) 10) = true := by decide +kernel

/-! the cases of the law -/
theorem zT_2_1_53 : zT_F 2 0 (zX zT_Y2 10) zT_w1 (ze_s (2147483657, 2147483657) (ze_s (2147483652, 2147483652) zT_gx 12) 10) = true := by decide +kernel
theorem zT_2_1_54 : zT_F 2 0 (zX zT_Y2 10) zT_w1 (ze_s (2147483658, 2147483728) (ze_s (2147483652, 2147483652) zT_gx 12) 10) = true := by decide +kernel
theorem zT_2_1_55 : zT_F 2 0 (zX zT_Y2 10) zT_w1 (ze_s (2147483648, 2147483648) (ze_s (2147483653, 2147483653) zT_gx 12) 10) = true := by decide +kernel
theorem zT_2_1_56 : zT_F 2 0 (zX zT_Y2 10) zT_w1 (ze_s (2147483649, 2147483649) (ze_s (2147483653, 2147483653) zT_gx 12) 10) = true := by decide +kernel
theorem zT_2_1_57 : zT_F 2 0 (zX zT_Y2 10) zT_w1 (ze_s (2147483650, 2147483650) (ze_s (2147483653, 2147483653) zT_gx 12) 10) = true := by decide +kernel
theorem zT_2_1_58 : zT_F 2 0 (zX zT_Y2 10) zT_w1 (ze_s (2147483651, 2147483651) (ze_s (2147483653, 2147483653) zT_gx 12) 10) = true := by decide +kernel
theorem zT_2_1_59 : zT_F 2 0 (zX zT_Y2 10) zT_w1 (ze_s (2147483652, 2147483652) (ze_s (2147483653, 2147483653) zT_gx 12) 10) = true := by decide +kernel

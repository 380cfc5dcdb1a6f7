/-! the cases of the law -/
theorem zT_3_1_51 : zT_F 3 0 (zX zT_Y3 10) zT_w1 (ze_s (2147483655, 2147483655) (ze_s (2147483652, 2147483652) zT_gx 13) 10) = true := by decide +kernel
theorem zT_3_1_52 : zT_F 3 0 (zX zT_Y3 10) zT_w1 (ze_s (2147483656, 2147483656) (ze_s (2147483652, 2147483652) zT_gx 13) 10) = true := by decide +kernel
theorem zT_3_1_53 : zT_F 3 0 (zX zT_Y3 10) zT_w1 (ze_s (2147483657, 2147483657) (ze_s (2147483652, 2147483652) zT_gx 13) 10) = true := by decide +kernel
theorem zT_3_1_54 : zT_F 3 0 (zX zT_Y3 10) zT_w1 (ze_s (2147483658, 2147483728) (ze_s (2147483652, 2147483652) zT_gx 13) 10) = true := by decide +kernel
theorem zT_3_1_55 : zT_F 3 0 (zX zT_Y3 10) zT_w1 (ze_s (2147483648, 2147483648) (ze_s (2147483653, 2147483653) zT_gx 13) 10) = true := by decide +kernel
theorem zT_3_1_56 : zT_F 3 0 (zX zT_Y3 10) zT_w1 (ze_s (2147483649, 2147483649) (ze_s (2147483653, 2147483653) zT_gx 13) 10) = true := by decide +kernel
theorem zT_3_1_57 : zT_F 3 0 (zX zT_Y3 10) zT_w1 (ze_s (2147483650, 2147483650) (ze_s (2147483653, 2147483653) zT_gx 13) 10) = true := by decide +kernel

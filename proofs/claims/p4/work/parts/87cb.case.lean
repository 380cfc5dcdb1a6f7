/-! the cases of the law -/
theorem zT_3_1_2 : zT_F 3 0 (zX zT_Y3 10) zT_w1 (ze_s (2147483650, 2147483650) (ze_s (2147483648, 2147483648) zT_gx 13) 10) = true := by decide +kernel
theorem zT_3_1_3 : zT_F 3 0 (zX zT_Y3 10) zT_w1 (ze_s (2147483651, 2147483651) (ze_s (2147483648, 2147483648) zT_gx 13) 10) = true := by decide +kernel
theorem zT_3_1_4 : zT_F 3 0 (zX zT_Y3 10) zT_w1 (ze_s (2147483652, 2147483652) (ze_s (2147483648, 2147483648) zT_gx 13) 10) = true := by decide +kernel
theorem zT_3_1_5 : zT_F 3 0 (zX zT_Y3 10) zT_w1 (ze_s (2147483653, 2147483653) (ze_s (2147483648, 2147483648) zT_gx 13) 10) = true := by decide +kernel
theorem zT_3_1_6 : zT_F 3 0 (zX zT_Y3 10) zT_w1 (ze_s (2147483654, 2147483654) (ze_s (2147483648, 2147483648) zT_gx 13) 10) = true := by decide +kernel
theorem zT_3_1_7 : zT_F 3 0 (zX zT_Y3 10) zT_w1 (ze_s (2147483655, 2147483655) (ze_s (2147483648, 2147483648) zT_gx 13) 10) = true := by decide +kernel
theorem zT_3_1_8 : zT_F 3 0 (zX zT_Y3 10) zT_w1 (ze_s (2147483656, 2147483656) (ze_s (2147483648, 2147483648) zT_gx 13) 10) = true := by decide +kernel

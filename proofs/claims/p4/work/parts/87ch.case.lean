/-! the cases of the law -/
theorem zT_3_1_44 : zT_F 3 0 (zX zT_Y3 10) zT_w1 (ze_s (2147483648, 2147483648) (ze_s (2147483652, 2147483652) zT_gx 13) 10) = true := by decide +kernel
theorem zT_3_1_45 : zT_F 3 0 (zX zT_Y3 10) zT_w1 (ze_s (2147483649, 2147483649) (ze_s (2147483652, 2147483652) zT_gx 13) 10) = true := by decide +kernel
theorem zT_3_1_46 : zT_F 3 0 (zX zT_Y3 10) zT_w1 (ze_s (2147483650, 2147483650) (ze_s (2147483652, 2147483652) zT_gx 13) 10) = true := by decide +kernel
theorem zT_3_1_47 : zT_F 3 0 (zX zT_Y3 10) zT_w1 (ze_s (2147483651, 2147483651) (ze_s (2147483652, 2147483652) zT_gx 13) 10) = true := by decide +kernel
theorem zT_3_1_48 : zT_F 3 0 (zX zT_Y3 10) zT_w1 (ze_s (2147483652, 2147483652) (ze_s (2147483652, 2147483652) zT_gx 13) 10) = true := by decide +kernel
theorem zT_3_1_49 : zT_F 3 0 (zX zT_Y3 10) zT_w1 (ze_s (2147483653, 2147483653) (ze_s (2147483652, 2147483652) zT_gx 13) 10) = true := by decide +kernel
theorem zT_3_1_50 : zT_F 3 0 (zX zT_Y3 10) zT_w1 (ze_s (2147483654, 2147483654) (ze_s (2147483652, 2147483652) zT_gx 13) 10) = true := by decide +kernel

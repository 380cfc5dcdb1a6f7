/-! the cases of the law -/
theorem zT_3_1_23 : zT_F 3 0 (zX zT_Y3 10) zT_w1 (ze_s (2147483649, 2147483649) (ze_s (2147483650, 2147483650) zT_gx 13) 10) = true := by decide +kernel
theorem zT_3_1_24 : zT_F 3 0 (zX zT_Y3 10) zT_w1 (ze_s (2147483650, 2147483650) (ze_s (2147483650, 2147483650) zT_gx 13) 10) = true := by decide +kernel
theorem zT_3_1_25 : zT_F 3 0 (zX zT_Y3 10) zT_w1 (ze_s (2147483651, 2147483651) (ze_s (2147483650, 2147483650) zT_gx 13) 10) = true := by decide +kernel
theorem zT_3_1_26 : zT_F 3 0 (zX zT_Y3 10) zT_w1 (ze_s (2147483652, 2147483652) (ze_s (2147483650, 2147483650) zT_gx 13) 10) = true := by decide +kernel
theorem zT_3_1_27 : zT_F 3 0 (zX zT_Y3 10) zT_w1 (ze_s (2147483653, 2147483653) (ze_s (2147483650, 2147483650) zT_gx 13) 10) = true := by decide +kernel
theorem zT_3_1_28 : zT_F 3 0 (zX zT_Y3 10) zT_w1 (ze_s (2147483654, 2147483654) (ze_s (2147483650, 2147483650) zT_gx 13) 10) = true := by decide +kernel
theorem zT_3_1_29 : zT_F 3 0 (zX zT_Y3 10) zT_w1 (ze_s (2147483655, 2147483655) (ze_s (2147483650, 2147483650) zT_gx 13) 10) = true := by decide +kernel

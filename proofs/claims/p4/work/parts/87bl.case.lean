/-! the cases of the law -/
theorem zT_2_1_25 : zT_F 2 0 (zX zT_Y2 10) zT_w1 (ze_s (2147483651, 2147483651) (ze_s (2147483650, 2147483650) zT_gx 12) 10) = true := by decide +kernel
theorem zT_2_1_26 : zT_F 2 0 (zX zT_Y2 10) zT_w1 (ze_s (2147483652, 2147483652) (ze_s (2147483650, 2147483650) zT_gx 12) 10) = true := by decide +kernel
theorem zT_2_1_27 : zT_F 2 0 (zX zT_Y2 10) zT_w1 (ze_s (2147483653, 2147483653) (ze_s (2147483650, 2147483650) zT_gx 12) 10) = true := by decide +kernel
theorem zT_2_1_28 : zT_F 2 0 (zX zT_Y2 10) zT_w1 (ze_s (2147483654, 2147483654) (ze_s (2147483650, 2147483650) zT_gx 12) 10) = true := by decide +kernel
theorem zT_2_1_29 : zT_F 2 0 (zX zT_Y2 10) zT_w1 (ze_s (2147483655, 2147483655) (ze_s (2147483650, 2147483650) zT_gx 12) 10) = true := by decide +kernel
theorem zT_2_1_30 : zT_F 2 0 (zX zT_Y2 10) zT_w1 (ze_s (2147483656, 2147483656) (ze_s (2147483650, 2147483650) zT_gx 12) 10) = true := by decide +kernel
theorem zT_2_1_31 : zT_F 2 0 (zX zT_Y2 10) zT_w1 (ze_s (2147483657, 2147483657) (ze_s (2147483650, 2147483650) zT_gx 12) 10) = true := by decide +kernel

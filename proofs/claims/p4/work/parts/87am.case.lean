/-! the cases of the law -/
theorem zT_1_0_1 : zT_F 1 0 (zX zT_Y1 10) zT_w0 (ze_s (2147483649, 2147483649) zT_gx 10) = true := by decide +kernel
theorem zT_1_0_2 : zT_F 1 0 (zX zT_Y1 10) zT_w0 (ze_s (2147483650, 2147483650) zT_gx 10) = true := by decide +kernel
theorem zT_1_0_3 : zT_F 1 0 (zX zT_Y1 10) zT_w0 (ze_s (2147483651, 2147483651) zT_gx 10) = true := by decide +kernel
theorem zT_1_0_4 : zT_F 1 0 (zX zT_Y1 10) zT_w0 (ze_s (2147483652, 2147483652) zT_gx 10) = true := by decide +kernel
theorem zT_1_0_5 : zT_F 1 0 (zX zT_Y1 10) zT_w0 (ze_s (2147483653, 2147483653) zT_gx 10) = true := by decide +kernel
theorem zT_1_0_6 : zT_F 1 0 (zX zT_Y1 10) zT_w0 (ze_s (2147483654, 2147483654) zT_gx 10) = true := by decide +kernel
theorem zT_1_0_7 : zT_F 1 0 (zX zT_Y1 10) zT_w0 (ze_s (2147483655, 2147483655) zT_gx 10) = true := by decide +kernel
theorem zT_1_0_8 : zT_F 1 0 (zX zT_Y1 10) zT_w0 (ze_s (2147483656, 2147483656) zT_gx 10) = true := by decide +kernel
theorem zT_1_0_9 : zT_F 1 0 (zX zT_Y1 10) zT_w0 (ze_s (2147483657, 2147483657) zT_gx 10) = true := by decide +kernel
theorem zT_1_0_10 : zT_F 1 0 (zX zT_Y1 10) zT_w0 (ze_s (2147483658, 2147483658) zT_gx 10) = true := by decide +kernel
theorem zT_1_0_11 : zT_F 1 0 (zX zT_Y1 10) zT_w0 (ze_s (2147483659, 2147483659) zT_gx 10) = true := by decide +kernel
theorem zT_1_0_12 : zT_F 1 0 (zX zT_Y1 10) zT_w0 (ze_s (2147483660, 2147483660) zT_gx 10) = true := by decide +kernel
theorem zT_1_0_13 : zT_F 1 0 (zX zT_Y1 10) zT_w0 (ze_s (2147483661, 2147483661) zT_gx 10) = true := by decide +kernel
theorem zT_1_0_14 : zT_F 1 0 (zX zT_Y1 10) zT_w0 (ze_s (2147483662, 2147483662) zT_gx 10) = true := by decide +kernel

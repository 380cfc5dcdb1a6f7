/-! the cases of the law -/
theorem zT_1_1_3 : zT_F 1 0 (zX zT_Y1 10) zT_w1 (ze_s (2147483651, 2147483651) zT_gx 10) = true := by decide +kernel
theorem zT_1_1_4 : zT_F 1 0 (zX zT_Y1 10) zT_w1 (ze_s (2147483652, 2147483652) zT_gx 10) = true := by decide +kernel
theorem zT_1_1_5 : zT_F 1 0 (zX zT_Y1 10) zT_w1 (ze_s (2147483653, 2147483653) zT_gx 10) = true := by decide +kernel
theorem zT_1_1_6 : zT_F 1 0 (zX zT_Y1 10) zT_w1 (ze_s (2147483654, 2147483654) zT_gx 10) = true := by decide +kernel
theorem zT_1_1_7 : zT_F 1 0 (zX zT_Y1 10) zT_w1 (ze_s (2147483655, 2147483655) zT_gx 10) = true := by decide +kernel
theorem zT_1_1_8 : zT_F 1 0 (zX zT_Y1 10) zT_w1 (ze_s (2147483656, 2147483656) zT_gx 10) = true := by decide +kernel
theorem zT_1_1_9 : zT_F 1 0 (zX zT_Y1 10) zT_w1 (ze_s (2147483657, 2147483657) zT_gx 10) = true := by decide +kernel
theorem zT_1_1_10 : zT_F 1 0 (zX zT_Y1 10) zT_w1 (ze_s (2147483658, 2147483658) zT_gx 10) = true := by decide +kernel
theorem zT_1_1_11 : zT_F 1 0 (zX zT_Y1 10) zT_w1 (ze_s (2147483659, 2147483659) zT_gx 10) = true := by decide +kernel
theorem zT_1_1_12 : zT_F 1 0 (zX zT_Y1 10) zT_w1 (ze_s (2147483660, 2147483660) zT_gx 10) = true := by decide +kernel
theorem zT_1_1_13 : zT_F 1 0 (zX zT_Y1 10) zT_w1 (ze_s (2147483661, 2147483661) zT_gx 10) = true := by decide +kernel
theorem zT_1_1_14 : zT_F 1 0 (zX zT_Y1 10) zT_w1 (ze_s (2147483662, 2147483662) zT_gx 10) = true := by decide +kernel
theorem zT_1_1_15 : zT_F 1 0 (zX zT_Y1 10) zT_w1 (ze_s (2147483663, 2147483663) zT_gx 10) = true := by decide +kernel
theorem zT_1_1_16 : zT_F 1 0 (zX zT_Y1 10) zT_w1 (ze_s (2147483664, 2147483664) zT_gx 10) = true := by decide +kernel

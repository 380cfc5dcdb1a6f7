/-! the cases of the law -/
theorem zT_2_1_4 : zT_F 2 0 (zX zT_Y2 10) zT_w1 (ze_s (2147483652, 2147483652) (ze_s (2147483648, 2147483648) zT_gx 12) 10) = true := by decide +kernel
theorem zT_2_1_5 : zT_F 2 0 (zX zT_Y2 10) zT_w1 (ze_s (2147483653, 2147483653) (ze_s (2147483648, 2147483648) zT_gx 12) 10) = true := by decide +kernel
theorem zT_2_1_6 : zT_F 2 0 (zX zT_Y2 10) zT_w1 (ze_s (2147483654, 2147483654) (ze_s (2147483648, 2147483648) zT_gx 12) 10) = true := by decide +kernel
theorem zT_2_1_7 : zT_F 2 0 (zX zT_Y2 10) zT_w1 (ze_s (2147483655, 2147483655) (ze_s (2147483648, 2147483648) zT_gx 12) 10) = true := by decide +kernel
theorem zT_2_1_8 : zT_F 2 0 (zX zT_Y2 10) zT_w1 (ze_s (2147483656, 2147483656) (ze_s (2147483648, 2147483648) zT_gx 12) 10) = true := by decide +kernel
theorem zT_2_1_9 : zT_F 2 0 (zX zT_Y2 10) zT_w1 (ze_s (2147483657, 2147483657) (ze_s (2147483648, 2147483648) zT_gx 12) 10) = true := by decide +kernel
theorem zT_2_1_10 : zT_F 2 0 (zX zT_Y2 10) zT_w1 (ze_s (2147483658, 2147483728) (ze_s (2147483648, 2147483648) zT_gx 12) 10) = true := by decide +kernel

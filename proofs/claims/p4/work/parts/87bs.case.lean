/-! the cases of the law -/
theorem zT_3_0_6 : zT_F 3 0 (zX zT_Y3 10) zT_w0 (ze_s (2147483654, 2147483654) (ze_s (2147483648, 2147483648) zT_gx 13) 10) = true := by decide +kernel
theorem zT_3_0_7 : zT_F 3 0 (zX zT_Y3 10) zT_w0 (ze_s (2147483655, 2147483655) (ze_s (2147483648, 2147483648) zT_gx 13) 10) = true := by decide +kernel
theorem zT_3_0_8 : zT_F 3 0 (zX zT_Y3 10) zT_w0 (ze_s (2147483656, 2147483656) (ze_s (2147483648, 2147483648) zT_gx 13) 10) = true := by decide +kernel
theorem zT_3_0_9 : zT_F 3 0 (zX zT_Y3 10) zT_w0 (ze_s (2147483657, 2147483657) (ze_s (2147483648, 2147483648) zT_gx 13) 10) = true := by decide +kernel
theorem zT_3_0_10 : zT_F 3 0 (zX zT_Y3 10) zT_w0 (ze_s (2147483658, 2147483728) (ze_s (2147483648, 2147483648) zT_gx 13) 10) = true := by decide +kernel
theorem zT_3_0_11 : zT_F 3 0 (zX zT_Y3 10) zT_w0 (ze_s (2147483648, 2147483648) (ze_s (2147483649, 2147483649) zT_gx 13) 10) = true := by decide +kernel
theorem zT_3_0_12 : zT_F 3 0 (zX zT_Y3 10) zT_w0 (ze_s (2147483649, 2147483649) (ze_s (2147483649, 2147483649) zT_gx 13) 10) = true := by decide +kernel

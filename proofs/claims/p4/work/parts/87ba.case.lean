/-! the cases of the law -/
theorem zT_2_0_15 : zT_F 2 0 (zX zT_Y2 10) zT_w0 (ze_s (2147483652, 2147483652) (ze_s (2147483649, 2147483649) zT_gx 12) 10) = true := by decide +kernel
theorem zT_2_0_16 : zT_F 2 0 (zX zT_Y2 10) zT_w0 (ze_s (2147483653, 2147483653) (ze_s (2147483649, 2147483649) zT_gx 12) 10) = true := by decide +kernel
theorem zT_2_0_17 : zT_F 2 0 (zX zT_Y2 10) zT_w0 (ze_s (2147483654, 2147483654) (ze_s (2147483649, 2147483649) zT_gx 12) 10) = true := by decide +kernel
theorem zT_2_0_18 : zT_F 2 0 (zX zT_Y2 10) zT_w0 (ze_s (2147483655, 2147483655) (ze_s (2147483649, 2147483649) zT_gx 12) 10) = true := by decide +kernel
theorem zT_2_0_19 : zT_F 2 0 (zX zT_Y2 10) zT_w0 (ze_s (2147483656, 2147483656) (ze_s (2147483649, 2147483649) zT_gx 12) 10) = true := by decide +kernel
theorem zT_2_0_20 : zT_F 2 0 (zX zT_Y2 10) zT_w0 (ze_s (2147483657, 2147483657) (ze_s (2147483649, 2147483649) zT_gx 12) 10) = true := by decide +kernel
theorem zT_2_0_21 : zT_F 2 0 (zX zT_Y2 10) zT_w0 (ze_s (2147483658, 2147483728) (ze_s (2147483649, 2147483649) zT_gx 12) 10) = true := by decide +kernel

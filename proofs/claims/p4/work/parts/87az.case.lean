/-! the cases of the law -/
theorem zT_2_0_8 : zT_F 2 0 (zX zT_Y2 10) zT_w0 (ze_s (2147483656, 2147483656) (ze_s (2147483648, 2147483648) zT_gx 12) 10) = true := by decide +kernel
theorem zT_2_0_9 : zT_F 2 0 (zX zT_Y2 10) zT_w0 (ze_s (2147483657, 2147483657) (ze_s (2147483648, 2147483648) zT_gx 12) 10) = true := by decide +kernel
theorem zT_2_0_10 : zT_F 2 0 (zX zT_Y2 10) zT_w0 (ze_s (2147483658, 2147483728) (ze_s (2147483648, 2147483648) zT_gx 12) 10) = true := by decide +kernel
theorem zT_2_0_11 : zT_F 2 0 (zX zT_Y2 10) zT_w0 (ze_s (2147483648, 2147483648) (ze_s (2147483649, 2147483649) zT_gx 12) 10) = true := by decide +kernel
theorem zT_2_0_12 : zT_F 2 0 (zX zT_Y2 10) zT_w0 (ze_s (2147483649, 2147483649) (ze_s (2147483649, 2147483649) zT_gx 12) 10) = true := by decide +kernel
theorem zT_2_0_13 : zT_F 2 0 (zX zT_Y2 10) zT_w0 (ze_s (2147483650, 2147483650) (ze_s (2147483649, 2147483649) zT_gx 12) 10) = true := by decide +kernel
theorem zT_2_0_14 : zT_F 2 0 (zX zT_Y2 10) zT_w0 (ze_s (2147483651, 2147483651) (ze_s (2147483649, 2147483649) zT_gx 12) 10) = true := by decide +kernel

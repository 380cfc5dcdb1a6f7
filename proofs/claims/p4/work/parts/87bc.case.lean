/-! the cases of the law -/
theorem zT_2_0_29 : zT_F 2 0 (zX zT_Y2 10) zT_w0 (ze_s (2147483655, 2147483655) (ze_s (2147483650, 2147483650) zT_gx 12) 10) = true := by decide +kernel
theorem zT_2_0_30 : zT_F 2 0 (zX zT_Y2 10) zT_w0 (ze_s (2147483656, 2147483656) (ze_s (2147483650, 2147483650) zT_gx 12) 10) = true := by decide +kernel
theorem zT_2_0_31 : zT_F 2 0 (zX zT_Y2 10) zT_w0 (ze_s (2147483657, 2147483657) (ze_s (2147483650, 2147483650) zT_gx 12) 10) = true := by decide +kernel
theorem zT_2_0_32 : zT_F 2 0 (zX zT_Y2 10) zT_w0 (ze_s (2147483658, 2147483728) (ze_s (2147483650, 2147483650) zT_gx 12) 10) = true := by decide +kernel
theorem zT_2_0_33 : zT_F 2 0 (zX zT_Y2 10) zT_w0 (ze_s (2147483648, 2147483648) (ze_s (2147483651, 2147483651) zT_gx 12) 10) = true := by decide +kernel
theorem zT_2_0_34 : zT_F 2 0 (zX zT_Y2 10) zT_w0 (ze_s (2147483649, 2147483649) (ze_s (2147483651, 2147483651) zT_gx 12) 10) = true := by decide +kernel
theorem zT_2_0_35 : zT_F 2 0 (zX zT_Y2 10) zT_w0 (ze_s (2147483650, 2147483650) (ze_s (2147483651, 2147483651) zT_gx 12) 10) = true := by decide +kernel

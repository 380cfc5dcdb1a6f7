/-! the cases of the law -/
theorem zT_3_0_27 : zT_F 3 0 (zX zT_Y3 10) zT_w0 (ze_s (2147483653, 2147483653) (ze_s (2147483650, 2147483650) zT_gx 13) 10) = true := by decide +kernel
theorem zT_3_0_28 : zT_F 3 0 (zX zT_Y3 10) zT_w0 (ze_s (2147483654, 2147483654) (ze_s (2147483650, 2147483650) zT_gx 13) 10) = true := by decide +kernel
theorem zT_3_0_29 : zT_F 3 0 (zX zT_Y3 10) zT_w0 (ze_s (2147483655, 2147483655) (ze_s (2147483650, 2147483650) zT_gx 13) 10) = true := by decide +kernel
theorem zT_3_0_30 : zT_F 3 0 (zX zT_Y3 10) zT_w0 (ze_s (2147483656, 2147483656) (ze_s (2147483650, 2147483650) zT_gx 13) 10) = true := by decide +kernel
theorem zT_3_0_31 : zT_F 3 0 (zX zT_Y3 10) zT_w0 (ze_s (2147483657, 2147483657) (ze_s (2147483650, 2147483650) zT_gx 13) 10) = true := by decide +kernel
theorem zT_3_0_32 : zT_F 3 0 (zX zT_Y3 10) zT_w0 (ze_s (2147483658, 2147483728) (ze_s (2147483650, 2147483650) zT_gx 13) 10) = true := by decide +kernel
theorem zT_3_0_33 : zT_F 3 0 (zX zT_Y3 10) zT_w0 (ze_s (2147483648, 2147483648) (ze_s (2147483651, 2147483651) zT_gx 13) 10) = true := by decide +kernel

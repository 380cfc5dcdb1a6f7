/-! the cases of the law -/
theorem zT_3_0_13 : zT_F 3 0 (zX zT_Y3 10) zT_w0 (ze_s (2147483650, 2147483650) (ze_s (2147483649, 2147483649) zT_gx 13) 10) = true := by decide +kernel
theorem zT_3_0_14 : zT_F 3 0 (zX zT_Y3 10) zT_w0 (ze_s (2147483651, 2147483651) (ze_s (2147483649, 2147483649) zT_gx 13) 10) = true := by decide +kernel
theorem zT_3_0_15 : zT_F 3 0 (zX zT_Y3 10) zT_w0 (ze_s (2147483652, 2147483652) (ze_s (2147483649, 2147483649) zT_gx 13) 10) = true := by decide +kernel
theorem zT_3_0_16 : zT_F 3 0 (zX zT_Y3 10) zT_w0 (ze_s (2147483653, 2147483653) (ze_s (2147483649, 2147483649) zT_gx 13) 10) = true := by decide +kernel
theorem zT_3_0_17 : zT_F 3 0 (zX zT_Y3 10) zT_w0 (ze_s (2147483654, 2147483654) (ze_s (2147483649, 2147483649) zT_gx 13) 10) = true := by decide +kernel
theorem zT_3_0_18 : zT_F 3 0 (zX zT_Y3 10) zT_w0 (ze_s (2147483655, 2147483655) (ze_s (2147483649, 2147483649) zT_gx 13) 10) = true := by decide +kernel
theorem zT_3_0_19 : zT_F 3 0 (zX zT_Y3 10) zT_w0 (ze_s (2147483656, 2147483656) (ze_s (2147483649, 2147483649) zT_gx 13) 10) = true := by decide +kernel

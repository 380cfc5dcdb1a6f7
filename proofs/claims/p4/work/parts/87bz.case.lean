/-! the cases of the law -/
theorem zT_3_0_55 : zT_F 3 0 (zX zT_Y3 10) zT_w0 (ze_s (2147483648, 2147483648) (ze_s (2147483653, 2147483653) zT_gx 13) 10) = true := by decide +kernel
theorem zT_3_0_56 : zT_F 3 0 (zX zT_Y3 10) zT_w0 (ze_s (2147483649, 2147483649) (ze_s (2147483653, 2147483653) zT_gx 13) 10) = true := by decide +kernel
theorem zT_3_0_57 : zT_F 3 0 (zX zT_Y3 10) zT_w0 (ze_s (2147483650, 2147483650) (ze_s (2147483653, 2147483653) zT_gx 13) 10) = true := by decide +kernel
theorem zT_3_0_58 : zT_F 3 0 (zX zT_Y3 10) zT_w0 (ze_s (2147483651, 2147483651) (ze_s (2147483653, 2147483653) zT_gx 13) 10) = true := by decide +kernel
theorem zT_3_0_59 : zT_F 3 0 (zX zT_Y3 10) zT_w0 (ze_s (2147483652, 2147483652) (ze_s (2147483653, 2147483653) zT_gx 13) 10) = true := by decide +kernel
theorem zT_3_0_60 : zT_F 3 0 (zX zT_Y3 10) zT_w0 (ze_s (2147483653, 2147483653) (ze_s (2147483653, 2147483653) zT_gx 13) 10) = true := by decide +kernel
theorem zT_3_0_61 : zT_F 3 0 (zX zT_Y3 10) zT_w0 (ze_s (2147483654, 2147483654) (ze_s (2147483653, 2147483653) zT_gx 13) 10) = true := by decide +kernel

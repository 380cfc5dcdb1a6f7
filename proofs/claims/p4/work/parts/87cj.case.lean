/-! the cases of the law -/
theorem zT_3_1_58 : zT_F 3 0 (zX zT_Y3 10) zT_w1 (ze_s (2147483651, 2147483651) (ze_s (2147483653, 2147483653) zT_gx 13) 10) = true := by decide +kernel
theorem zT_3_1_59 : zT_F 3 0 (zX zT_Y3 10) zT_w1 (ze_s (2147483652, 2147483652) (ze_s (2147483653, 2147483653) zT_gx 13) 10) = true := by decide +kernel
theorem zT_3_1_60 : zT_F 3 0 (zX zT_Y3 10) zT_w1 (ze_s (2147483653, 2147483653) (ze_s (2147483653, 2147483653) zT_gx 13) 10) = true := by decide +kernel
theorem zT_3_1_61 : zT_F 3 0 (zX zT_Y3 10) zT_w1 (ze_s (2147483654, 2147483654) (ze_s (2147483653, 2147483653) zT_gx 13) 10) = true := by decide +kernel
theorem zT_3_1_62 : zT_F 3 0 (zX zT_Y3 10) zT_w1 (ze_s (2147483655, 2147483655) (ze_s (2147483653, 2147483653) zT_gx 13) 10) = true := by decide +kernel
theorem zT_3_1_63 : zT_F 3 0 (zX zT_Y3 10) zT_w1 (ze_s (2147483656, 2147483656) (ze_s (2147483653, 2147483653) zT_gx 13) 10) = true := by decide +kernel
theorem zT_3_1_64 : zT_F 3 0 (zX zT_Y3 10) zT_w1 (ze_s (2147483657, 2147483657) (ze_s (2147483653, 2147483653) zT_gx 13) 10) = true := by decide +kernel

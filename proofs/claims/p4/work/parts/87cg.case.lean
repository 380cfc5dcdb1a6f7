/-! the cases of the law -/
theorem zT_3_1_37 : zT_F 3 0 (zX zT_Y3 10) zT_w1 (ze_s (2147483652, 2147483652) (ze_s (2147483651, 2147483651) zT_gx 13) 10) = true := by decide +kernel
theorem zT_3_1_38 : zT_F 3 0 (zX zT_Y3 10) zT_w1 (ze_s (2147483653, 2147483653) (ze_s (2147483651, 2147483651) zT_gx 13) 10) = true := by decide +kernel
theorem zT_3_1_39 : zT_F 3 0 (zX zT_Y3 10) zT_w1 (ze_s (2147483654, 2147483654) (ze_s (2147483651, 2147483651) zT_gx 13) 10) = true := by decide +kernel
theorem zT_3_1_40 : zT_F 3 0 (zX zT_Y3 10) zT_w1 (ze_s (2147483655, 2147483655) (ze_s (2147483651, 2147483651) zT_gx 13) 10) = true := by decide +kernel
theorem zT_3_1_41 : zT_F 3 0 (zX zT_Y3 10) zT_w1 (ze_s (2147483656, 2147483656) (ze_s (2147483651, 2147483651) zT_gx 13) 10) = true := by decide +kernel
theorem zT_3_1_42 : zT_F 3 0 (zX zT_Y3 10) zT_w1 (ze_s (2147483657, 2147483657) (ze_s (2147483651, 2147483651) zT_gx 13) 10) = true := by decide +kernel
theorem zT_3_1_43 : zT_F 3 0 (zX zT_Y3 10) zT_w1 (ze_s (2147483658, 2147483728) (ze_s (2147483651, 2147483651) zT_gx 13) 10) = true := by decide +kernel

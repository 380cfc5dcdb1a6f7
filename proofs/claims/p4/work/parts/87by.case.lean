/-! the cases of the law -/
theorem zT_3_0_48 : zT_F 3 0 (zX zT_Y3 10) zT_w0 (ze_s (2147483652, 2147483652) (ze_s (2147483652, 2147483652) zT_gx 13) 10) = true := by decide +kernel
theorem zT_3_0_49 : zT_F 3 0 (zX zT_Y3 10) zT_w0 (ze_s (2147483653, 2147483653) (ze_s (2147483652, 2147483652) zT_gx 13) 10) = true := by decide +kernel
theorem zT_3_0_50 : zT_F 3 0 (zX zT_Y3 10) zT_w0 (ze_s (2147483654, 2147483654) (ze_s (2147483652, 2147483652) zT_gx 13) 10) = true := by decide +kernel
theorem zT_3_0_51 : zT_F 3 0 (zX zT_Y3 10) zT_w0 (ze_s (2147483655, 2147483655) (ze_s (2147483652, 2147483652) zT_gx 13) 10) = true := by decide +kernel
theorem zT_3_0_52 : zT_F 3 0 (zX zT_Y3 10) zT_w0 (ze_s (2147483656, 2147483656) (ze_s (2147483652, 2147483652) zT_gx 13) 10) = true := by decide +kernel
theorem zT_3_0_53 : zT_F 3 0 (zX zT_Y3 10) zT_w0 (ze_s (2147483657, 2147483657) (ze_s (2147483652, 2147483652) zT_gx 13) 10) = true := by decide +kernel
theorem zT_3_0_54 : zT_F 3 0 (zX zT_Y3 10) zT_w0 (ze_s (2147483658, 2147483728) (ze_s (2147483652, 2147483652) zT_gx 13) 10) = true := by decide +kernel

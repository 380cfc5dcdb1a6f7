/-! the cases of the law -/
theorem zT_2_0_36 : zT_F 2 0 (zX zT_Y2 10) zT_w0 (ze_s (2147483651, 2147483651) (ze_s (2147483651, 2147483651) zT_gx 12) 10) = true := by decide +kernel
theorem zT_2_0_37 : zT_F 2 0 (zX zT_Y2 10) zT_w0 (ze_s (2147483652, 2147483652) (ze_s (2147483651, 2147483651) zT_gx 12) 10) = true := by decide +kernel
theorem zT_2_0_38 : zT_F 2 0 (zX zT_Y2 10) zT_w0 (ze_s (2147483653, 2147483653) (ze_s (2147483651, 2147483651) zT_gx 12) 10) = true := by decide +kernel
theorem zT_2_0_39 : zT_F 2 0 (zX zT_Y2 10) zT_w0 (ze_s (2147483654, 2147483654) (ze_s (2147483651, 2147483651) zT_gx 12) 10) = true := by decide +kernel
theorem zT_2_0_40 : zT_F 2 0 (zX zT_Y2 10) zT_w0 (ze_s (2147483655, 2147483655) (ze_s (2147483651, 2147483651) zT_gx 12) 10) = true := by decide +kernel
theorem zT_2_0_41 : zT_F 2 0 (zX zT_Y2 10) zT_w0 (ze_s (2147483656, 2147483656) (ze_s (2147483651, 2147483651) zT_gx 12) 10) = true := by decide +kernel
theorem zT_2_0_42 : zT_F 2 0 (zX zT_Y2 10) zT_w0 (ze_s (2147483657, 2147483657) (ze_s (2147483651, 2147483651) zT_gx 12) 10) = true := by decide +kernel

/-! the cases of the law -/
theorem zT_2_0_43 : zT_F 2 0 (zX zT_Y2 10) zT_w0 (ze_s (2147483658, 2147483728) (ze_s (2147483651, 2147483651) zT_gx 12) 10) = true := by decide +kernel
theorem zT_2_0_44 : zT_F 2 0 (zX zT_Y2 10) zT_w0 (ze_s (2147483648, 2147483648) (ze_s (2147483652, 2147483652) zT_gx 12) 10) = true := by decide +kernel
theorem zT_2_0_45 : zT_F 2 0 (zX zT_Y2 10) zT_w0 (ze_s (2147483649, 2147483649) (ze_s (2147483652, 2147483652) zT_gx 12) 10) = true := by decide +kernel
theorem zT_2_0_46 : zT_F 2 0 (zX zT_Y2 10) zT_w0 (ze_s (2147483650, 2147483650) (ze_s (2147483652, 2147483652) zT_gx 12) 10) = true := by decide +kernel
theorem zT_2_0_47 : zT_F 2 0 (zX zT_Y2 10) zT_w0 (ze_s (2147483651, 2147483651) (ze_s (2147483652, 2147483652) zT_gx 12) 10) = true := by decide +kernel
theorem zT_2_0_48 : zT_F 2 0 (zX zT_Y2 10) zT_w0 (ze_s (2147483652, 2147483652) (ze_s (2147483652, 2147483652) zT_gx 12) 10) = true := by decide +kernel
theorem zT_2_0_49 : zT_F 2 0 (zX zT_Y2 10) zT_w0 (ze_s (2147483653, 2147483653) (ze_s (2147483652, 2147483652) zT_gx 12) 10) = true := by decide +kernel

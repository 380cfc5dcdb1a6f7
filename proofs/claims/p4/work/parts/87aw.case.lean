/-! the cases of the law -/
theorem zT_1_1_59 : zT_F 1 0 (zX zT_Y1 10) zT_w1 (ze_s (2147483707, 2147483707) zT_gx 10) = true := by decide +kernel
theorem zT_1_1_60 : zT_F 1 0 (zX zT_Y1 10) zT_w1 (ze_s (2147483708, 2147483708) zT_gx 10) = true := by decide +kernel
theorem zT_1_1_61 : zT_F 1 0 (zX zT_Y1 10) zT_w1 (ze_s (2147483709, 2147483709) zT_gx 10) = true := by decide +kernel
theorem zT_1_1_62 : zT_F 1 0 (zX zT_Y1 10) zT_w1 (ze_s (2147483710, 2147483710) zT_gx 10) = true := by decide +kernel
theorem zT_1_1_63 : zT_F 1 0 (zX zT_Y1 10) zT_w1 (ze_s (2147483711, 2147483711) zT_gx 10) = true := by decide +kernel
theorem zT_1_1_64 : zT_F 1 0 (zX zT_Y1 10) zT_w1 (ze_s (2147483712, 2147483712) zT_gx 10) = true := by decide +kernel
theorem zT_1_1_65 : zT_F 1 0 (zX zT_Y1 10) zT_w1 (ze_s (2147483713, 2147483713) zT_gx 10) = true := by decide +kernel
theorem zT_1_1_66 : zT_F 1 0 (zX zT_Y1 10) zT_w1 (ze_s (2147483714, 2147483714) zT_gx 10) = true := by decide +kernel
theorem zT_1_1_67 : zT_F 1 0 (zX zT_Y1 10) zT_w1 (ze_s (2147483715, 2147483715) zT_gx 10) = true := by decide +kernel
theorem zT_1_1_68 : zT_F 1 0 (zX zT_Y1 10) zT_w1 (ze_s (2147483716, 2147483716) zT_gx 10) = true := by decide +kernel
theorem zT_1_1_69 : zT_F 1 0 (zX zT_Y1 10) zT_w1 (ze_s (2147483717, 2147483717) zT_gx 10) = true := by decide +kernel
theorem zT_1_1_70 : zT_F 1 0 (zX zT_Y1 10) zT_w1 (ze_s (2147483718, 2147483718) zT_gx 10) = true := by decide +kernel
theorem zT_1_1_71 : zT_F 1 0 (zX zT_Y1 10) zT_w1 (ze_s (2147483719, 2147483719) zT_gx 10) = true := by decide +kernel
theorem zT_1_1_72 : zT_F 1 0 (zX zT_Y1 10) zT_w1 (ze_s (2147483720, 2147483720) zT_gx 10) = true := by decide +kernel

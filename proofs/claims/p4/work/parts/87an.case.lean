/-! the cases of the law -/
theorem zT_1_0_15 : zT_F 1 0 (zX zT_Y1 10) zT_w0 (ze_s (2147483663, 2147483663) zT_gx 10) = true := by decide +kernel
theorem zT_1_0_16 : zT_F 1 0 (zX zT_Y1 10) zT_w0 (ze_s (2147483664, 2147483664) zT_gx 10) = true := by decide +kernel
theorem zT_1_0_17 : zT_F 1 0 (zX zT_Y1 10) zT_w0 (ze_s (2147483665, 2147483665) zT_gx 10) = true := by decide +kernel
theorem zT_1_0_18 : zT_F 1 0 (zX zT_Y1 10) zT_w0 (ze_s (2147483666, 2147483666) zT_gx 10) = true := by decide +kernel
theorem zT_1_0_19 : zT_F 1 0 (zX zT_Y1 10) zT_w0 (ze_s (2147483667, 2147483667) zT_gx 10) = true := by decide +kernel
theorem zT_1_0_20 : zT_F 1 0 (zX zT_Y1 10) zT_w0 (ze_s (2147483668, 2147483668) zT_gx 10) = true := by decide +kernel
theorem zT_1_0_21 : zT_F 1 0 (zX zT_Y1 10) zT_w0 (ze_s (2147483669, 2147483669) zT_gx 10) = true := by decide +kernel
theorem zT_1_0_22 : zT_F 1 0 (zX zT_Y1 10) zT_w0 (ze_s (2147483670, 2147483670) zT_gx 10) = true := by decide +kernel
theorem zT_1_0_23 : zT_F 1 0 (zX zT_Y1 10) zT_w0 (ze_s (2147483671, 2147483671) zT_gx 10) = true := by decide +kernel
theorem zT_1_0_24 : zT_F 1 0 (zX zT_Y1 10) zT_w0 (ze_s (2147483672, 2147483672) zT_gx 10) = true := by decide +kernel
theorem zT_1_0_25 : zT_F 1 0 (zX zT_Y1 10) zT_w0 (ze_s (2147483673, 2147483673) zT_gx 10) = true := by decide +kernel
theorem zT_1_0_26 : zT_F 1 0 (zX zT_Y1 10) zT_w0 (ze_s (2147483674, 2147483674) zT_gx 10) = true := by decide +kernel
theorem zT_1_0_27 : zT_F 1 0 (zX zT_Y1 10) zT_w0 (ze_s (2147483675, 2147483675) zT_gx 10) = true := by decide +kernel
theorem zT_1_0_28 : zT_F 1 0 (zX zT_Y1 10) zT_w0 (ze_s (2147483676, 2147483676) zT_gx 10) = true := by decide +kernel

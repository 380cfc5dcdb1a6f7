/-! the cases of the law -/
theorem zT_1_1_17 : zT_F 1 0 (zX zT_Y1 10) zT_w1 (ze_s (2147483665, 2147483665) zT_gx 10) = true := by decide +kernel
theorem zT_1_1_18 : zT_F 1 0 (zX zT_Y1 10) zT_w1 (ze_s (2147483666, 2147483666) zT_gx 10) = true := by decide +kernel
theorem zT_1_1_19 : zT_F 1 0 (zX zT_Y1 10) zT_w1 (ze_s (2147483667, 2147483667) zT_gx 10) = true := by decide +kernel
theorem zT_1_1_20 : zT_F 1 0 (zX zT_Y1 10) zT_w1 (ze_s (2147483668, 2147483668) zT_gx 10) = true := by decide +kernel
theorem zT_1_1_21 : zT_F 1 0 (zX zT_Y1 10) zT_w1 (ze_s (2147483669, 2147483669) zT_gx 10) = true := by decide +kernel
theorem zT_1_1_22 : zT_F 1 0 (zX zT_Y1 10) zT_w1 (ze_s (2147483670, 2147483670) zT_gx 10) = true := by decide +kernel
theorem zT_1_1_23 : zT_F 1 0 (zX zT_Y1 10) zT_w1 (ze_s (2147483671, 2147483671) zT_gx 10) = true := by decide +kernel
theorem zT_1_1_24 : zT_F 1 0 (zX zT_Y1 10) zT_w1 (ze_s (2147483672, 2147483672) zT_gx 10) = true := by decide +kernel
theorem zT_1_1_25 : zT_F 1 0 (zX zT_Y1 10) zT_w1 (ze_s (2147483673, 2147483673) zT_gx 10) = true := by decide +kernel
theorem zT_1_1_26 : zT_F 1 0 (zX zT_Y1 10) zT_w1 (ze_s (2147483674, 2147483674) zT_gx 10) = true := by decide +kernel
theorem zT_1_1_27 : zT_F 1 0 (zX zT_Y1 10) zT_w1 (ze_s (2147483675, 2147483675) zT_gx 10) = true := by decide +kernel
theorem zT_1_1_28 : zT_F 1 0 (zX zT_Y1 10) zT_w1 (ze_s (2147483676, 2147483676) zT_gx 10) = true := by decide +kernel
theorem zT_1_1_29 : zT_F 1 0 (zX zT_Y1 10) zT_w1 (ze_s (2147483677, 2147483677) zT_gx 10) = true := by decide +kernel
theorem zT_1_1_30 : zT_F 1 0 (zX zT_Y1 10) zT_w1 (ze_s (2147483678, 2147483678) zT_gx 10) = true := by decide +kernel

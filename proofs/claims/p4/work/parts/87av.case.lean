/-! the cases of the law -/
theorem zT_1_1_45 : zT_F 1 0 (zX zT_Y1 10) zT_w1 (ze_s (2147483693, 2147483693) zT_gx 10) = true := by decide +kernel
theorem zT_1_1_46 : zT_F 1 0 (zX zT_Y1 10) zT_w1 (ze_s (2147483694, 2147483694) zT_gx 10) = true := by decide +kernel
theorem zT_1_1_47 : zT_F 1 0 (zX zT_Y1 10) zT_w1 (ze_s (2147483695, 2147483695) zT_gx 10) = true := by decide +kernel
theorem zT_1_1_48 : zT_F 1 0 (zX zT_Y1 10) zT_w1 (ze_s (2147483696, 2147483696) zT_gx 10) = true := by decide +kernel
theorem zT_1_1_49 : zT_F 1 0 (zX zT_Y1 10) zT_w1 (ze_s (2147483697, 2147483697) zT_gx 10) = true := by decide +kernel
theorem zT_1_1_50 : zT_F 1 0 (zX zT_Y1 10) zT_w1 (ze_s (2147483698, 2147483698) zT_gx 10) = true := by decide +kernel
theorem zT_1_1_51 : zT_F 1 0 (zX zT_Y1 10) zT_w1 (ze_s (2147483699, 2147483699) zT_gx 10) = true := by decide +kernel
theorem zT_1_1_52 : zT_F 1 0 (zX zT_Y1 10) zT_w1 (ze_s (2147483700, 2147483700) zT_gx 10) = true := by decide +kernel
theorem zT_1_1_53 : zT_F 1 0 (zX zT_Y1 10) zT_w1 (ze_s (2147483701, 2147483701) zT_gx 10) = true := by decide +kernel
theorem zT_1_1_54 : zT_F 1 0 (zX zT_Y1 10) zT_w1 (ze_s (2147483702, 2147483702) zT_gx 10) = true := by decide +kernel
theorem zT_1_1_55 : zT_F 1 0 (zX zT_Y1 10) zT_w1 (ze_s (2147483703, 2147483703) zT_gx 10) = true := by decide +kernel
theorem zT_1_1_56 : zT_F 1 0 (zX zT_Y1 10) zT_w1 (ze_s (2147483704, 2147483704) zT_gx 10) = true := by decide +kernel
theorem zT_1_1_57 : zT_F 1 0 (zX zT_Y1 10) zT_w1 (ze_s (2147483705, 2147483705) zT_gx 10) = true := by decide +kernel
theorem zT_1_1_58 : zT_F 1 0 (zX zT_Y1 10) zT_w1 (ze_s (2147483706, 2147483706) zT_gx 10) = true := by decide +kernel

/-! the cases of the law -/
theorem zT_1_1_31 : zT_F 1 0 (zX zT_Y1 10) zT_w1 (ze_s (2147483679, 2147483679) zT_gx 10) = true := by decide +kernel
theorem zT_1_1_32 : zT_F 1 0 (zX zT_Y1 10) zT_w1 (ze_s (2147483680, 2147483680) zT_gx 10) = true := by decide +kernel
theorem zT_1_1_33 : zT_F 1 0 (zX zT_Y1 10) zT_w1 (ze_s (2147483681, 2147483681) zT_gx 10) = true := by decide +kernel
theorem zT_1_1_34 : zT_F 1 0 (zX zT_Y1 10) zT_w1 (ze_s (2147483682, 2147483682) zT_gx 10) = true := by decide +kernel
theorem zT_1_1_35 : zT_F 1 0 (zX zT_Y1 10) zT_w1 (ze_s (2147483683, 2147483683) zT_gx 10) = true := by decide +kernel
theorem zT_1_1_36 : zT_F 1 0 (zX zT_Y1 10) zT_w1 (ze_s (2147483684, 2147483684) zT_gx 10) = true := by decide +kernel
theorem zT_1_1_37 : zT_F 1 0 (zX zT_Y1 10) zT_w1 (ze_s (2147483685, 2147483685) zT_gx 10) = true := by decide +kernel
theorem zT_1_1_38 : zT_F 1 0 (zX zT_Y1 10) zT_w1 (ze_s (2147483686, 2147483686) zT_gx 10) = true := by decide +kernel
theorem zT_1_1_39 : zT_F 1 0 (zX zT_Y1 10) zT_w1 (ze_s (2147483687, 2147483687) zT_gx 10) = true := by decide +kernel
theorem zT_1_1_40 : zT_F 1 0 (zX zT_Y1 10) zT_w1 (ze_s (2147483688, 2147483688) zT_gx 10) = true := by decide +kernel
theorem zT_1_1_41 : zT_F 1 0 (zX zT_Y1 10) zT_w1 (ze_s (2147483689, 2147483689) zT_gx 10) = true := by decide +kernel
theorem zT_1_1_42 : zT_F 1 0 (zX zT_Y1 10) zT_w1 (ze_s (2147483690, 2147483690) zT_gx 10) = true := by decide +kernel
theorem zT_1_1_43 : zT_F 1 0 (zX zT_Y1 10) zT_w1 (ze_s (2147483691, 2147483691) zT_gx 10) = true := by decide +kernel
theorem zT_1_1_44 : zT_F 1 0 (zX zT_Y1 10) zT_w1 (ze_s (2147483692, 2147483692) zT_gx 10) = true := by decide +kernel

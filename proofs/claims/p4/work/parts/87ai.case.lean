/-! the cases of the law -/
theorem zT_0_1_29 : zT_F 0 0 (zX zT_Y0 10) zT_w1 (ze_s (2147483677, 2147483677) zT_gx 10) = true := by decide +kernel
theorem zT_0_1_30 : zT_F 0 0 (zX zT_Y0 10) zT_w1 (ze_s (2147483678, 2147483678) zT_gx 10) = true := by decide +kernel
theorem zT_0_1_31 : zT_F 0 0 (zX zT_Y0 10) zT_w1 (ze_s (2147483679, 2147483679) zT_gx 10) = true := by decide +kernel
theorem zT_0_1_32 : zT_F 0 0 (zX zT_Y0 10) zT_w1 (ze_s (2147483680, 2147483680) zT_gx 10) = true := by decide +kernel
theorem zT_0_1_33 : zT_F 0 0 (zX zT_Y0 10) zT_w1 (ze_s (2147483681, 2147483681) zT_gx 10) = true := by decide +kernel
theorem zT_0_1_34 : zT_F 0 0 (zX zT_Y0 10) zT_w1 (ze_s (2147483682, 2147483682) zT_gx 10) = true := by decide +kernel
theorem zT_0_1_35 : zT_F 0 0 (zX zT_Y0 10) zT_w1 (ze_s (2147483683, 2147483683) zT_gx 10) = true := by decide +kernel
theorem zT_0_1_36 : zT_F 0 0 (zX zT_Y0 10) zT_w1 (ze_s (2147483684, 2147483684) zT_gx 10) = true := by decide +kernel
theorem zT_0_1_37 : zT_F 0 0 (zX zT_Y0 10) zT_w1 (ze_s (2147483685, 2147483685) zT_gx 10) = true := by decide +kernel
theorem zT_0_1_38 : zT_F 0 0 (zX zT_Y0 10) zT_w1 (ze_s (2147483686, 2147483686) zT_gx 10) = true := by decide +kernel
theorem zT_0_1_39 : zT_F 0 0 (zX zT_Y0 10) zT_w1 (ze_s (2147483687, 2147483687) zT_gx 10) = true := by decide +kernel
theorem zT_0_1_40 : zT_F 0 0 (zX zT_Y0 10) zT_w1 (ze_s (2147483688, 2147483688) zT_gx 10) = true := by decide +kernel
theorem zT_0_1_41 : zT_F 0 0 (zX zT_Y0 10) zT_w1 (ze_s (2147483689, 2147483689) zT_gx 10) = true := by decide +kernel
theorem zT_0_1_42 : zT_F 0 0 (zX zT_Y0 10) zT_w1 (ze_s (2147483690, 2147483690) zT_gx 10) = true := by decide +kernel

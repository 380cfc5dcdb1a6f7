/-! the cases of the law -/
theorem zT_51_1_18 : zT_F 51 0 (zX zT_Y51 10) zT_w1 (ze_s (2147483650, 2147483650) (ze_s (2147483651, 2147483651) zT_gx 140) 1) = true := by decide +kernel
theorem zT_51_1_19 : zT_F 51 0 (zX zT_Y51 10) zT_w1 (ze_s (2147483651, 4294967295) (ze_s (2147483651, 2147483651) zT_gx 140) 1) = true := by decide +kernel
theorem zT_51_1_20 : zT_F 51 0 (zX zT_Y51 10) zT_w1 (ze_s (0, 2147483647) (ze_s (2147483652, 2147483652) zT_gx 140) 1) = true := by decide +kernel
theorem zT_51_1_21 : zT_F 51 0 (zX zT_Y51 10) zT_w1 (ze_s (2147483648, 2147483648) (ze_s (2147483652, 2147483652) zT_gx 140) 1) = true := by decide +kernel
theorem zT_51_1_22 : zT_F 51 0 (zX zT_Y51 10) zT_w1 (ze_s (2147483649, 2147483649) (ze_s (2147483652, 2147483652) zT_gx 140) 1) = true := by decide +kernel
theorem zT_51_1_23 : zT_F 51 0 (zX zT_Y51 10) zT_w1 (ze_s (2147483650, 2147483650) (ze_s (2147483652, 2147483652) zT_gx 140) 1) = true := by decide +kernel
theorem zT_51_1_24 : zT_F 51 0 (zX zT_Y51 10) zT_w1 (ze_s (2147483651, 4294967295) (ze_s (2147483652, 2147483652) zT_gx 140) 1) = true := by decide +kernel
theorem zT_51_1_25 : zT_F 51 0 (zX zT_Y51 10) zT_w1 (ze_s (0, 2147483647) (ze_s (2147483653, 2147483653) zT_gx 140) 1) = true := by decide +kernel
theorem zT_51_1_26 : zT_F 51 0 (zX zT_Y51 10) zT_w1 (ze_s (2147483648, 2147483648) (ze_s (2147483653, 2147483653) zT_gx 140) 1) = true := by decide +kernel
theorem zT_51_1_27 : zT_F 51 0 (zX zT_Y51 10) zT_w1 (ze_s (2147483649, 2147483649) (ze_s (2147483653, 2147483653) zT_gx 140) 1) = true := by decide +kernel
theorem zT_51_1_28 : zT_F 51 0 (zX zT_Y51 10) zT_w1 (ze_s (2147483650, 2147483650) (ze_s (2147483653, 2147483653) zT_gx 140) 1) = true := by decide +kernel
theorem zT_51_1_29 : zT_F 51 0 (zX zT_Y51 10) zT_w1 (ze_s (2147483651, 4294967295) (ze_s (2147483653, 2147483653) zT_gx 140) 1) = true := by decide +kernel
theorem zT_51_1_30 : zT_F 51 0 (zX zT_Y51 10) zT_w1 (ze_s (0, 2147483647) (ze_s (2147483654, 2147483654) zT_gx 140) 1) = true := by decide +kernel
theorem zT_51_1_31 : zT_F 51 0 (zX zT_Y51 10) zT_w1 (ze_s (2147483648, 2147483648) (ze_s (2147483654, 2147483654) zT_gx 140) 1) = true := by decide +kernel

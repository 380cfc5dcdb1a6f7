/-! the cases of the law -/
theorem zT_51_1_4 : zT_F 51 0 (zX zT_Y51 10) zT_w1 (ze_s (2147483651, 4294967295) (ze_s (2147483648, 2147483648) zT_gx 140) 1) = true := by decide +kernel
theorem zT_51_1_5 : zT_F 51 0 (zX zT_Y51 10) zT_w1 (ze_s (0, 2147483647) (ze_s (2147483649, 2147483649) zT_gx 140) 1) = true := by decide +kernel
theorem zT_51_1_6 : zT_F 51 0 (zX zT_Y51 10) zT_w1 (ze_s (2147483648, 2147483648) (ze_s (2147483649, 2147483649) zT_gx 140) 1) = true := by decide +kernel
theorem zT_51_1_7 : zT_F 51 0 (zX zT_Y51 10) zT_w1 (ze_s (2147483649, 2147483649) (ze_s (2147483649, 2147483649) zT_gx 140) 1) = true := by decide +kernel
theorem zT_51_1_8 : zT_F 51 0 (zX zT_Y51 10) zT_w1 (ze_s (2147483650, 2147483650) (ze_s (2147483649, 2147483649) zT_gx 140) 1) = true := by decide +kernel
theorem zT_51_1_9 : zT_F 51 0 (zX zT_Y51 10) zT_w1 (ze_s (2147483651, 4294967295) (ze_s (2147483649, 2147483649) zT_gx 140) 1) = true := by decide +kernel
theorem zT_51_1_10 : zT_F 51 0 (zX zT_Y51 10) zT_w1 (ze_s (0, 2147483647) (ze_s (2147483650, 2147483650) zT_gx 140) 1) = true := by decide +kernel
theorem zT_51_1_11 : zT_F 51 0 (zX zT_Y51 10) zT_w1 (ze_s (2147483648, 2147483648) (ze_s (2147483650, 2147483650) zT_gx 140) 1) = true := by decide +kernel
theorem zT_51_1_12 : zT_F 51 0 (zX zT_Y51 10) zT_w1 (ze_s (2147483649, 2147483649) (ze_s (2147483650, 2147483650) zT_gx 140) 1) = true := by decide +kernel
theorem zT_51_1_13 : zT_F 51 0 (zX zT_Y51 10) zT_w1 (ze_s (2147483650, 2147483650) (ze_s (2147483650, 2147483650) zT_gx 140) 1) = true := by decide +kernel
theorem zT_51_1_14 : zT_F 51 0 (zX zT_Y51 10) zT_w1 (ze_s (2147483651, 4294967295) (ze_s (2147483650, 2147483650) zT_gx 140) 1) = true := by decide +kernel
theorem zT_51_1_15 : zT_F 51 0 (zX zT_Y51 10) zT_w1 (ze_s (0, 2147483647) (ze_s (2147483651, 2147483651) zT_gx 140) 1) = true := by decide +kernel
theorem zT_51_1_16 : zT_F 51 0 (zX zT_Y51 10) zT_w1 (ze_s (2147483648, 2147483648) (ze_s (2147483651, 2147483651) zT_gx 140) 1) = true := by decide +kernel
theorem zT_51_1_17 : zT_F 51 0 (zX zT_Y51 10) zT_w1 (ze_s (2147483649, 2147483649) (ze_s (2147483651, 2147483651) zT_gx 140) 1) = true := by decide +kernel

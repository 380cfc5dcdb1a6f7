/-! the cases of the law -/
theorem zT_51_0_17 : zT_F 51 0 (zX zT_Y51 10) zT_w0 (ze_s (2147483649, 2147483649) (ze_s (2147483651, 2147483651) zT_gx 140) 1) = true := by decide +kernel
theorem zT_51_0_18 : zT_F 51 0 (zX zT_Y51 10) zT_w0 (ze_s (2147483650, 2147483650) (ze_s (2147483651, 2147483651) zT_gx 140) 1) = true := by decide +kernel
theorem zT_51_0_19 : zT_F 51 0 (zX zT_Y51 10) zT_w0 (ze_s (2147483651, 4294967295) (ze_s (2147483651, 2147483651) zT_gx 140) 1) = true := by decide +kernel
theorem zT_51_0_20 : zT_F 51 0 (zX zT_Y51 10) zT_w0 (ze_s (0, 2147483647) (ze_s (2147483652, 2147483652) zT_gx 140) 1) = true := by decide +kernel
theorem zT_51_0_21 : zT_F 51 0 (zX zT_Y51 10) zT_w0 (ze_s (2147483648, 2147483648) (ze_s (2147483652, 2147483652) zT_gx 140) 1) = true := by decide +kernel
theorem zT_51_0_22 : zT_F 51 0 (zX zT_Y51 10) zT_w0 (ze_s (2147483649, 2147483649) (ze_s (2147483652, 2147483652) zT_gx 140) 1) = true := by decide +kernel
theorem zT_51_0_23 : zT_F 51 0 (zX zT_Y51 10) zT_w0 (ze_s (2147483650, 2147483650) (ze_s (2147483652, 2147483652) zT_gx 140) 1) = true := by decide +kernel
theorem zT_51_0_24 : zT_F 51 0 (zX zT_Y51 10) zT_w0 (ze_s (2147483651, 4294967295) (ze_s (2147483652, 2147483652) zT_gx 140) 1) = true := by decide +kernel
theorem zT_51_0_25 : zT_F 51 0 (zX zT_Y51 10) zT_w0 (ze_s (0, 2147483647) (ze_s (2147483653, 2147483653) zT_gx 140) 1) = true := by decide +kernel
theorem zT_51_0_26 : zT_F 51 0 (zX zT_Y51 10) zT_w0 (ze_s (2147483648, 2147483648) (ze_s (2147483653, 2147483653) zT_gx 140) 1) = true := by decide +kernel
theorem zT_51_0_27 : zT_F 51 0 (zX zT_Y51 10) zT_w0 (ze_s (2147483649, 2147483649) (ze_s (2147483653, 2147483653) zT_gx 140) 1) = true := by decide +kernel
theorem zT_51_0_28 : zT_F 51 0 (zX zT_Y51 10) zT_w0 (ze_s (2147483650, 2147483650) (ze_s (2147483653, 2147483653) zT_gx 140) 1) = true := by decide +kernel
theorem zT_51_0_29 : zT_F 51 0 (zX zT_Y51 10) zT_w0 (ze_s (2147483651, 4294967295) (ze_s (2147483653, 2147483653) zT_gx 140) 1) = true := by decide +kernel
theorem zT_51_0_30 : zT_F 51 0 (zX zT_Y51 10) zT_w0 (ze_s (0, 2147483647) (ze_s (2147483654, 2147483654) zT_gx 140) 1) = true := by decide +kernel

theorem zT_46_0 : zT_r 46 0 2147483647 = true := by decide +kernel
theorem zT_46_1 : zT_r 46 2147483709 4294967295 = true := by decide +kernel
theorem zT_46_2 : zT_r 46 2147483648 2147483657 = true := by decide +kernel

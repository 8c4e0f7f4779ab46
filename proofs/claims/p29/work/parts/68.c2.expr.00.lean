theorem b_72_5_2 : ov_ds ov_m72.2.1 5 [.istore_n 2, .iconst 0] = true := by decide +kernel
theorem b_72_7_1 : ov_ds ov_m72.2.1 7 [.istore_n 3] = true := by decide +kernel
theorem b_71_5_2 : ov_ds ov_m71.2.1 5 [.istore_n 2, .iconst 0] = true := by decide +kernel
theorem b_71_7_1 : ov_ds ov_m71.2.1 7 [.istore_n 3] = true := by decide +kernel
theorem b_69_5_2 : ov_ds ov_m69.2.1 5 [.istore_n 2, .iconst 0] = true := by decide +kernel
theorem b_69_7_1 : ov_ds ov_m69.2.1 7 [.istore_n 3] = true := by decide +kernel

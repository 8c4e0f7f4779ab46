theorem b_233_6_1 : ov_ds ov_m233.2.1 6 [.istore_n 1] = true := by decide +kernel
theorem b_233_7_1 : ov_ds ov_m233.2.1 7 [.iload_n 1] = true := by decide +kernel
theorem b_219_41_11 : ov_ds ov_m219.2.1 41 [.istore_n 2, .sipush 350, .iconst 4, .bipush 6, .iload_n 2, .imul, .iload_n 1, .iadd, .imul, .iadd, .istore_n 3] = true := by decide +kernel
theorem b_219_55_1 : ov_ds ov_m219.2.1 55 [.aload_n 0] = true := by decide +kernel
theorem b_219_136_2 : ov_ds ov_m219.2.1 136 [.istore 5, .aload_n 0] = true := by decide +kernel
theorem b_219_187_2 : ov_ds ov_m219.2.1 187 [.istore 6, .aload_n 0] = true := by decide +kernel
theorem b_219_184_2 : ov_ds ov_m219.2.1 184 [.iload 5, .imul] = true := by decide +kernel

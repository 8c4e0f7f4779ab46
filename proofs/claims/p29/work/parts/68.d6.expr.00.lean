theorem b_229_5_2 : ov_ds ov_m229.2.1 5 [.aload_n 0, .bipush 42] = true := by decide +kernel
theorem b_228_5_2 : ov_ds ov_m228.2.1 5 [.aload_n 0, .bipush 43] = true := by decide +kernel
theorem b_226_5_2 : ov_ds ov_m226.2.1 5 [.aload_n 0, .bipush 18] = true := by decide +kernel

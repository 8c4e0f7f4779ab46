theorem b_58_60_4 : ov_ds ov_m58.2.1 60 [.imul, .iadd, .istore_n 1, .aload_n 0] = true := by decide +kernel

theorem b_310_0_6 : ov_ds ov_m310.2.1 0 [.iconst 0, .istore_n 1, .iconst 0, .istore_n 2, .iconst 0, .istore_n 3] = true := by decide +kernel
theorem b_310_6_3 : ov_ds ov_m310.2.1 6 [.aload_n 0, .iload_n 1, .iload_n 2] = true := by decide +kernel
theorem d_310_9 : decode ov_m310.2.1 9 = .ok (.invokevirtual 335, 3) := by decide +kernel
theorem d_310_12 : decode ov_m310.2.1 12 = .ok (.ifCond .ne 72, 3) := by decide +kernel
theorem b_310_84_1 : ov_ds ov_m310.2.1 84 [.iload_n 3] = true := by decide +kernel
theorem d_310_85 : decode ov_m310.2.1 85 = .ok (.ireturn, 1) := by decide +kernel
theorem b_310_15_2 : ov_ds ov_m310.2.1 15 [.iload_n 3, .aload_n 0] = true := by decide +kernel
theorem d_310_17 : decode ov_m310.2.1 17 = .ok (.getfield 144, 3) := by decide +kernel
theorem b_310_20_5 : ov_ds ov_m310.2.1 20 [.bipush 6, .iload_n 2, .imul, .iload_n 1, .iadd] = true := by decide +kernel
theorem d_310_26 : decode ov_m310.2.1 26 = .ok (.iaload, 1) := by decide +kernel
theorem b_310_27_7 : ov_ds ov_m310.2.1 27 [.iadd, .istore 4, .aload_n 0, .iload_n 1, .iload_n 2, .iload_n 3, .aload_n 0] = true := by decide +kernel
theorem d_310_35 : decode ov_m310.2.1 35 = .ok (.getfield 81, 3) := by decide +kernel
theorem b_310_38_1 : ov_ds ov_m310.2.1 38 [.bipush 9] = true := by decide +kernel
theorem d_310_40 : decode ov_m310.2.1 40 = .ok (.iaload, 1) := by decide +kernel
theorem d_310_41 : decode ov_m310.2.1 41 = .ok (.irem, 1) := by decide +kernel
theorem b_310_42_1 : ov_ds ov_m310.2.1 42 [.iload 4] = true := by decide +kernel
theorem d_310_44 : decode ov_m310.2.1 44 = .ok (.invokevirtual 371, 3) := by decide +kernel
theorem b_310_47_7 : ov_ds ov_m310.2.1 47 [.istore 5, .iload_n 3, .aload_n 0, .iload_n 1, .iload_n 2, .iload 5, .iload 4] = true := by decide +kernel
theorem d_310_57 : decode ov_m310.2.1 57 = .ok (.invokevirtual 315, 3) := by decide +kernel
theorem b_310_60_1 : ov_ds ov_m310.2.1 60 [.aload_n 0] = true := by decide +kernel
theorem d_310_61 : decode ov_m310.2.1 61 = .ok (.getfield 81, 3) := by decide +kernel
theorem b_310_64_1 : ov_ds ov_m310.2.1 64 [.iconst 2] = true := by decide +kernel
theorem d_310_65 : decode ov_m310.2.1 65 = .ok (.iaload, 1) := by decide +kernel
theorem b_310_66_13 : ov_ds ov_m310.2.1 66 [.iadd, .iadd, .istore_n 3, .iload_n 1, .iconst 1, .iload 5, .isub, .iadd, .istore_n 1, .iload_n 2, .iload 5, .iadd, .istore_n 2] = true := by decide +kernel
theorem d_310_81 : decode ov_m310.2.1 81 = .ok (.goto (-75), 3) := by decide +kernel
theorem b_307_0_2 : ov_ds ov_m307.2.1 0 [.aload_n 0, .iconst 0] = true := by decide +kernel
theorem d_307_2 : decode ov_m307.2.1 2 = .ok (.putfield 1, 3) := by decide +kernel
theorem b_307_5_3 : ov_ds ov_m307.2.1 5 [.iload_n 1, .iconst 0, .sipush 9999] = true := by decide +kernel
theorem d_307_10 : decode ov_m307.2.1 10 = .ok (.invokestatic 299, 3) := by decide +kernel
theorem d_307_13 : decode ov_m307.2.1 13 = .ok (.ifCond .eq 31, 3) := by decide +kernel
theorem b_307_44_1 : ov_ds ov_m307.2.1 44 [.iconst (-1)] = true := by decide +kernel
theorem d_307_45 : decode ov_m307.2.1 45 = .ok (.ireturn, 1) := by decide +kernel
theorem b_307_16_3 : ov_ds ov_m307.2.1 16 [.iload_n 2, .iconst 1, .bipush 30] = true := by decide +kernel
theorem d_307_20 : decode ov_m307.2.1 20 = .ok (.invokestatic 299, 3) := by decide +kernel
theorem d_307_23 : decode ov_m307.2.1 23 = .ok (.ifCond .eq 21, 3) := by decide +kernel
theorem b_307_26_2 : ov_ds ov_m307.2.1 26 [.aload_n 0, .iload_n 3] = true := by decide +kernel
theorem d_307_28 : decode ov_m307.2.1 28 = .ok (.invokevirtual 383, 3) := by decide +kernel
theorem d_307_31 : decode ov_m307.2.1 31 = .ok (.ifCond .eq 13, 3) := by decide +kernel
theorem b_307_34_3 : ov_ds ov_m307.2.1 34 [.iload 4, .iconst 0, .iconst 1] = true := by decide +kernel
theorem d_307_38 : decode ov_m307.2.1 38 = .ok (.invokestatic 299, 3) := by decide +kernel
theorem d_307_41 : decode ov_m307.2.1 41 = .ok (.ifCond .ne 5, 3) := by decide +kernel
theorem b_307_46_5 : ov_ds ov_m307.2.1 46 [.aload_n 0, .iload_n 3, .iconst 0, .iconst (-1), .iconst 0] = true := by decide +kernel
theorem d_307_51 : decode ov_m307.2.1 51 = .ok (.invokevirtual 389, 3) := by decide +kernel
theorem b_307_54_4 : ov_ds ov_m307.2.1 54 [.aload_n 0, .iconst 0, .iconst 0, .iconst 0] = true := by decide +kernel
theorem d_307_58 : decode ov_m307.2.1 58 = .ok (.invokevirtual 377, 3) := by decide +kernel
theorem d_307_61 : decode ov_m307.2.1 61 = .ok (.ifCond .ge 5, 3) := by decide +kernel
theorem b_307_66_3 : ov_ds ov_m307.2.1 66 [.aload_n 0, .iload_n 1, .i2l] = true := by decide +kernel
theorem d_307_69 : decode ov_m307.2.1 69 = .ok (.putfield 471, 3) := by decide +kernel
theorem b_307_72_6 : ov_ds ov_m307.2.1 72 [.iconst 0, .istore 5, .iconst 0, .istore 6, .iconst 0, .istore 7] = true := by decide +kernel
theorem b_307_81_2 : ov_ds ov_m307.2.1 81 [.iload 7, .iload_n 2] = true := by decide +kernel
theorem d_307_84 : decode ov_m307.2.1 84 = .ok (.if_icmp .ge 42, 3) := by decide +kernel
theorem b_307_126_1 : ov_ds ov_m307.2.1 126 [.iload 4] = true := by decide +kernel
theorem d_307_128 : decode ov_m307.2.1 128 = .ok (.ifCond .ne 8, 3) := by decide +kernel
theorem b_307_136_1 : ov_ds ov_m307.2.1 136 [.iload 6] = true := by decide +kernel
theorem d_307_138 : decode ov_m307.2.1 138 = .ok (.ireturn, 1) := by decide +kernel
theorem b_307_131_1 : ov_ds ov_m307.2.1 131 [.iload 5] = true := by decide +kernel
theorem d_307_133 : decode ov_m307.2.1 133 = .ok (.goto 5, 3) := by decide +kernel
theorem b_307_87_1 : ov_ds ov_m307.2.1 87 [.aload_n 0] = true := by decide +kernel
theorem d_307_88 : decode ov_m307.2.1 88 = .ok (.invokevirtual 485, 3) := by decide +kernel
theorem b_307_91_1 : ov_ds ov_m307.2.1 91 [.aload_n 0] = true := by decide +kernel
theorem d_307_92 : decode ov_m307.2.1 92 = .ok (.invokevirtual 488, 3) := by decide +kernel
theorem b_307_95_7 : ov_ds ov_m307.2.1 95 [.istore 8, .iload 5, .iload 8, .iadd, .istore 5, .iload 8, .iload 6] = true := by decide +kernel
theorem d_307_108 : decode ov_m307.2.1 108 = .ok (.if_icmp .le 8, 3) := by decide +kernel
theorem b_307_116_3 : ov_ds ov_m307.2.1 116 [.iload 6, .istore 6, .iinc 7 1] = true := by decide +kernel
theorem d_307_123 : decode ov_m307.2.1 123 = .ok (.goto (-42), 3) := by decide +kernel
theorem b_307_111_1 : ov_ds ov_m307.2.1 111 [.iload 8] = true := by decide +kernel
theorem d_307_113 : decode ov_m307.2.1 113 = .ok (.goto 5, 3) := by decide +kernel
theorem b_307_118_2 : ov_ds ov_m307.2.1 118 [.istore 6, .iinc 7 1] = true := by decide +kernel
theorem b_307_64_1 : ov_ds ov_m307.2.1 64 [.iconst (-1)] = true := by decide +kernel
theorem d_307_65 : decode ov_m307.2.1 65 = .ok (.ireturn, 1) := by decide +kernel

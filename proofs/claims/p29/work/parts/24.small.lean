theorem b_81_0_2 : ov_ds ov_m81.2.1 0 [.aload_n 0, .iconst 0] = true := by decide +kernel
theorem d_81_2 : decode ov_m81.2.1 2 = .ok (.putfield 24, 3) := by decide +kernel
theorem b_81_5_2 : ov_ds ov_m81.2.1 5 [.aload_n 0, .iconst 0] = true := by decide +kernel
theorem d_81_7 : decode ov_m81.2.1 7 = .ok (.putfield 28, 3) := by decide +kernel
theorem b_81_10_2 : ov_ds ov_m81.2.1 10 [.aload_n 0, .iconst 0] = true := by decide +kernel
theorem d_81_12 : decode ov_m81.2.1 12 = .ok (.putfield 31, 3) := by decide +kernel
theorem b_81_15_2 : ov_ds ov_m81.2.1 15 [.aload_n 0, .lconst 0] = true := by decide +kernel
theorem d_81_17 : decode ov_m81.2.1 17 = .ok (.putfield 34, 3) := by decide +kernel
theorem b_81_20_2 : ov_ds ov_m81.2.1 20 [.aload_n 0, .iconst 0] = true := by decide +kernel
theorem d_81_22 : decode ov_m81.2.1 22 = .ok (.putfield 38, 3) := by decide +kernel
theorem b_81_25_2 : ov_ds ov_m81.2.1 25 [.aload_n 0, .iconst 0] = true := by decide +kernel
theorem d_81_27 : decode ov_m81.2.1 27 = .ok (.putfield 41, 3) := by decide +kernel
theorem d_81_30 : decode ov_m81.2.1 30 = .ok (.return_, 1) := by decide +kernel
theorem b_95_0_1 : ov_ds ov_m95.2.1 0 [.aload_n 0] = true := by decide +kernel
theorem d_95_1 : decode ov_m95.2.1 1 = .ok (.getfield 34, 3) := by decide +kernel
theorem b_95_4_6 : ov_ds ov_m95.2.1 4 [.iload_n 1, .lshr, .lconst 1, .land, .lconst 0, .lcmp] = true := by decide +kernel
theorem d_95_10 : decode ov_m95.2.1 10 = .ok (.ifCond .eq 7, 3) := by decide +kernel
theorem b_95_17_1 : ov_ds ov_m95.2.1 17 [.iconst 0] = true := by decide +kernel
theorem d_95_18 : decode ov_m95.2.1 18 = .ok (.ireturn, 1) := by decide +kernel
theorem b_95_13_1 : ov_ds ov_m95.2.1 13 [.iconst 1] = true := by decide +kernel
theorem d_95_14 : decode ov_m95.2.1 14 = .ok (.goto 4, 3) := by decide +kernel
theorem b_173_0_1 : ov_ds ov_m173.2.1 0 [.aload_n 0] = true := by decide +kernel
theorem d_173_1 : decode ov_m173.2.1 1 = .ok (.getfield 38, 3) := by decide +kernel
theorem b_173_4_1 : ov_ds ov_m173.2.1 4 [.bipush 10] = true := by decide +kernel
theorem d_173_6 : decode ov_m173.2.1 6 = .ok (.if_icmp .lt 5, 3) := by decide +kernel
theorem b_173_11_1 : ov_ds ov_m173.2.1 11 [.aload_n 0] = true := by decide +kernel
theorem d_173_12 : decode ov_m173.2.1 12 = .ok (.getfield 11, 3) := by decide +kernel
theorem b_173_15_1 : ov_ds ov_m173.2.1 15 [.aload_n 0] = true := by decide +kernel
theorem d_173_16 : decode ov_m173.2.1 16 = .ok (.getfield 38, 3) := by decide +kernel
theorem b_173_19_1 : ov_ds ov_m173.2.1 19 [.iload_n 1] = true := by decide +kernel
theorem d_173_20 : decode ov_m173.2.1 20 = .ok (.iastore, 1) := by decide +kernel
theorem b_173_21_1 : ov_ds ov_m173.2.1 21 [.aload_n 0] = true := by decide +kernel
theorem d_173_22 : decode ov_m173.2.1 22 = .ok (.getfield 15, 3) := by decide +kernel
theorem b_173_25_1 : ov_ds ov_m173.2.1 25 [.aload_n 0] = true := by decide +kernel
theorem d_173_26 : decode ov_m173.2.1 26 = .ok (.getfield 38, 3) := by decide +kernel
theorem b_173_29_1 : ov_ds ov_m173.2.1 29 [.iload_n 2] = true := by decide +kernel
theorem d_173_30 : decode ov_m173.2.1 30 = .ok (.ifCond .eq 7, 3) := by decide +kernel
theorem b_173_37_1 : ov_ds ov_m173.2.1 37 [.iconst (-1)] = true := by decide +kernel
theorem d_173_38 : decode ov_m173.2.1 38 = .ok (.iastore, 1) := by decide +kernel
theorem b_173_39_2 : ov_ds ov_m173.2.1 39 [.aload_n 0, .dup] = true := by decide +kernel
theorem d_173_41 : decode ov_m173.2.1 41 = .ok (.getfield 38, 3) := by decide +kernel
theorem b_173_44_2 : ov_ds ov_m173.2.1 44 [.iconst 1, .iadd] = true := by decide +kernel
theorem d_173_46 : decode ov_m173.2.1 46 = .ok (.putfield 38, 3) := by decide +kernel
theorem b_173_49_1 : ov_ds ov_m173.2.1 49 [.iconst 1] = true := by decide +kernel
theorem d_173_50 : decode ov_m173.2.1 50 = .ok (.ireturn, 1) := by decide +kernel
theorem b_173_33_1 : ov_ds ov_m173.2.1 33 [.iload_n 3] = true := by decide +kernel
theorem d_173_34 : decode ov_m173.2.1 34 = .ok (.goto 4, 3) := by decide +kernel
theorem b_173_9_1 : ov_ds ov_m173.2.1 9 [.iconst 0] = true := by decide +kernel
theorem d_173_10 : decode ov_m173.2.1 10 = .ok (.ireturn, 1) := by decide +kernel
theorem b_186_0_1 : ov_ds ov_m186.2.1 0 [.aload_n 0] = true := by decide +kernel
theorem d_186_1 : decode ov_m186.2.1 1 = .ok (.getfield 41, 3) := by decide +kernel
theorem b_186_4_1 : ov_ds ov_m186.2.1 4 [.bipush 8] = true := by decide +kernel
theorem d_186_6 : decode ov_m186.2.1 6 = .ok (.if_icmp .lt 5, 3) := by decide +kernel
theorem b_186_11_1 : ov_ds ov_m186.2.1 11 [.aload_n 0] = true := by decide +kernel
theorem d_186_12 : decode ov_m186.2.1 12 = .ok (.getfield 18, 3) := by decide +kernel
theorem b_186_15_1 : ov_ds ov_m186.2.1 15 [.aload_n 0] = true := by decide +kernel
theorem d_186_16 : decode ov_m186.2.1 16 = .ok (.getfield 41, 3) := by decide +kernel
theorem b_186_19_1 : ov_ds ov_m186.2.1 19 [.iload_n 1] = true := by decide +kernel
theorem d_186_20 : decode ov_m186.2.1 20 = .ok (.iastore, 1) := by decide +kernel
theorem b_186_21_1 : ov_ds ov_m186.2.1 21 [.aload_n 0] = true := by decide +kernel
theorem d_186_22 : decode ov_m186.2.1 22 = .ok (.getfield 21, 3) := by decide +kernel
theorem b_186_25_1 : ov_ds ov_m186.2.1 25 [.aload_n 0] = true := by decide +kernel
theorem d_186_26 : decode ov_m186.2.1 26 = .ok (.getfield 41, 3) := by decide +kernel
theorem b_186_29_1 : ov_ds ov_m186.2.1 29 [.iload_n 2] = true := by decide +kernel
theorem d_186_30 : decode ov_m186.2.1 30 = .ok (.iastore, 1) := by decide +kernel
theorem b_186_31_2 : ov_ds ov_m186.2.1 31 [.aload_n 0, .dup] = true := by decide +kernel
theorem d_186_33 : decode ov_m186.2.1 33 = .ok (.getfield 41, 3) := by decide +kernel
theorem b_186_36_2 : ov_ds ov_m186.2.1 36 [.iconst 1, .iadd] = true := by decide +kernel
theorem d_186_38 : decode ov_m186.2.1 38 = .ok (.putfield 41, 3) := by decide +kernel
theorem b_186_41_1 : ov_ds ov_m186.2.1 41 [.iconst 1] = true := by decide +kernel
theorem d_186_42 : decode ov_m186.2.1 42 = .ok (.ireturn, 1) := by decide +kernel
theorem b_186_9_1 : ov_ds ov_m186.2.1 9 [.iconst 0] = true := by decide +kernel
theorem d_186_10 : decode ov_m186.2.1 10 = .ok (.ireturn, 1) := by decide +kernel
theorem b_190_0_4 : ov_ds ov_m190.2.1 0 [.iconst 0, .istore 4, .iconst 0, .istore 5] = true := by decide +kernel
theorem b_190_6_2 : ov_ds ov_m190.2.1 6 [.iload 5, .aload_n 0] = true := by decide +kernel
theorem d_190_9 : decode ov_m190.2.1 9 = .ok (.getfield 41, 3) := by decide +kernel
theorem d_190_12 : decode ov_m190.2.1 12 = .ok (.if_icmp .ge 47, 3) := by decide +kernel
theorem b_190_59_1 : ov_ds ov_m190.2.1 59 [.iload 4] = true := by decide +kernel
theorem d_190_61 : decode ov_m190.2.1 61 = .ok (.ireturn, 1) := by decide +kernel
theorem b_190_15_1 : ov_ds ov_m190.2.1 15 [.aload_n 0] = true := by decide +kernel
theorem d_190_16 : decode ov_m190.2.1 16 = .ok (.getfield 18, 3) := by decide +kernel
theorem b_190_19_1 : ov_ds ov_m190.2.1 19 [.iload 5] = true := by decide +kernel
theorem d_190_21 : decode ov_m190.2.1 21 = .ok (.iaload, 1) := by decide +kernel
theorem b_190_22_1 : ov_ds ov_m190.2.1 22 [.iload_n 1] = true := by decide +kernel
theorem d_190_23 : decode ov_m190.2.1 23 = .ok (.if_icmp .ne 30, 3) := by decide +kernel
theorem b_190_53_1 : ov_ds ov_m190.2.1 53 [.iinc 5 1] = true := by decide +kernel
theorem d_190_56 : decode ov_m190.2.1 56 = .ok (.goto (-50), 3) := by decide +kernel
theorem b_190_26_1 : ov_ds ov_m190.2.1 26 [.aload_n 0] = true := by decide +kernel
theorem d_190_27 : decode ov_m190.2.1 27 = .ok (.getfield 21, 3) := by decide +kernel
theorem b_190_30_1 : ov_ds ov_m190.2.1 30 [.iload 5] = true := by decide +kernel
theorem d_190_32 : decode ov_m190.2.1 32 = .ok (.iaload, 1) := by decide +kernel
theorem b_190_33_1 : ov_ds ov_m190.2.1 33 [.iload_n 2] = true := by decide +kernel
theorem d_190_34 : decode ov_m190.2.1 34 = .ok (.if_icmp .lt 14, 3) := by decide +kernel
theorem b_190_48_1 : ov_ds ov_m190.2.1 48 [.iconst (-1)] = true := by decide +kernel
theorem d_190_49 : decode ov_m190.2.1 49 = .ok (.ireturn, 1) := by decide +kernel
theorem b_190_37_1 : ov_ds ov_m190.2.1 37 [.aload_n 0] = true := by decide +kernel
theorem d_190_38 : decode ov_m190.2.1 38 = .ok (.getfield 21, 3) := by decide +kernel
theorem b_190_41_1 : ov_ds ov_m190.2.1 41 [.iload 5] = true := by decide +kernel
theorem d_190_43 : decode ov_m190.2.1 43 = .ok (.iaload, 1) := by decide +kernel
theorem b_190_44_1 : ov_ds ov_m190.2.1 44 [.iload_n 3] = true := by decide +kernel
theorem d_190_45 : decode ov_m190.2.1 45 = .ok (.if_icmp .le 5, 3) := by decide +kernel
theorem b_190_50_2 : ov_ds ov_m190.2.1 50 [.iinc 4 1, .iinc 5 1] = true := by decide +kernel
theorem b_175_0_6 : ov_ds ov_m175.2.1 0 [.lconst 1, .lstore 5, .lconst 1, .lstore 7, .iconst 0, .istore 9] = true := by decide +kernel
theorem b_175_9_2 : ov_ds ov_m175.2.1 9 [.iload 9, .aload_n 0] = true := by decide +kernel
theorem d_175_12 : decode ov_m175.2.1 12 = .ok (.getfield 38, 3) := by decide +kernel
theorem d_175_15 : decode ov_m175.2.1 15 = .ok (.if_icmp .ge 75, 3) := by decide +kernel
theorem b_175_90_1 : ov_ds ov_m175.2.1 90 [.lload 5] = true := by decide +kernel
theorem b_175_92_3 : ov_ds ov_m175.2.1 92 [.lload 5, .lload 7, .ladd] = true := by decide +kernel
theorem d_175_97 : decode ov_m175.2.1 97 = .ok (.invokestatic 50, 3) := by decide +kernel
theorem b_175_100_4 : ov_ds ov_m175.2.1 100 [.lstore 9, .lload 9, .lconst 0, .lcmp] = true := by decide +kernel
theorem d_175_106 : decode ov_m175.2.1 106 = .ok (.ifCond .ne 7, 3) := by decide +kernel
theorem b_175_113_1 : ov_ds ov_m175.2.1 113 [.iload 4] = true := by decide +kernel
theorem d_175_115 : decode ov_m175.2.1 115 = .ok (.ifCond .ne 11, 3) := by decide +kernel
theorem b_175_126_3 : ov_ds ov_m175.2.1 126 [.lload 5, .lload 7, .ladd] = true := by decide +kernel
theorem b_175_131_1 : ov_ds ov_m175.2.1 131 [.lload 9] = true := by decide +kernel
theorem d_175_133 : decode ov_m175.2.1 133 = .ok (.ldiv, 1) := by decide +kernel
theorem d_175_134 : decode ov_m175.2.1 134 = .ok (.lreturn, 1) := by decide +kernel
theorem b_175_118_1 : ov_ds ov_m175.2.1 118 [.lload 5] = true := by decide +kernel
theorem b_175_120_1 : ov_ds ov_m175.2.1 120 [.lload 9] = true := by decide +kernel
theorem d_175_122 : decode ov_m175.2.1 122 = .ok (.ldiv, 1) := by decide +kernel
theorem d_175_123 : decode ov_m175.2.1 123 = .ok (.goto 11, 3) := by decide +kernel
theorem d_175_109 : decode ov_m175.2.1 109 = .ok (.ldc2_w 54, 3) := by decide +kernel
theorem d_175_112 : decode ov_m175.2.1 112 = .ok (.lreturn, 1) := by decide +kernel
theorem b_175_18_1 : ov_ds ov_m175.2.1 18 [.aload_n 0] = true := by decide +kernel
theorem d_175_19 : decode ov_m175.2.1 19 = .ok (.getfield 11, 3) := by decide +kernel
theorem b_175_22_1 : ov_ds ov_m175.2.1 22 [.iload 9] = true := by decide +kernel
theorem d_175_24 : decode ov_m175.2.1 24 = .ok (.iaload, 1) := by decide +kernel
theorem b_175_25_1 : ov_ds ov_m175.2.1 25 [.iload_n 1] = true := by decide +kernel
theorem d_175_26 : decode ov_m175.2.1 26 = .ok (.if_icmp .ne 58, 3) := by decide +kernel
theorem b_175_84_1 : ov_ds ov_m175.2.1 84 [.iinc 9 1] = true := by decide +kernel
theorem d_175_87 : decode ov_m175.2.1 87 = .ok (.goto (-78), 3) := by decide +kernel
theorem b_175_29_1 : ov_ds ov_m175.2.1 29 [.aload_n 0] = true := by decide +kernel
theorem d_175_30 : decode ov_m175.2.1 30 = .ok (.getfield 15, 3) := by decide +kernel
theorem b_175_33_1 : ov_ds ov_m175.2.1 33 [.iload 9] = true := by decide +kernel
theorem d_175_35 : decode ov_m175.2.1 35 = .ok (.iaload, 1) := by decide +kernel
theorem b_175_36_1 : ov_ds ov_m175.2.1 36 [.iconst (-1)] = true := by decide +kernel
theorem d_175_37 : decode ov_m175.2.1 37 = .ok (.if_icmp .eq 47, 3) := by decide +kernel
theorem b_175_40_2 : ov_ds ov_m175.2.1 40 [.lload 5, .aload_n 0] = true := by decide +kernel
theorem d_175_43 : decode ov_m175.2.1 43 = .ok (.getfield 15, 3) := by decide +kernel
theorem b_175_46_1 : ov_ds ov_m175.2.1 46 [.iload 9] = true := by decide +kernel
theorem d_175_48 : decode ov_m175.2.1 48 = .ok (.iaload, 1) := by decide +kernel
theorem b_175_49_1 : ov_ds ov_m175.2.1 49 [.iload_n 3] = true := by decide +kernel
theorem d_175_50 : decode ov_m175.2.1 50 = .ok (.if_icmp .ge 8, 3) := by decide +kernel
theorem b_175_58_5 : ov_ds ov_m175.2.1 58 [.lconst 0, .lmul, .lstore 5, .lload 7, .aload_n 0] = true := by decide +kernel
theorem d_175_65 : decode ov_m175.2.1 65 = .ok (.getfield 15, 3) := by decide +kernel
theorem b_175_68_1 : ov_ds ov_m175.2.1 68 [.iload 9] = true := by decide +kernel
theorem d_175_70 : decode ov_m175.2.1 70 = .ok (.iaload, 1) := by decide +kernel
theorem b_175_71_1 : ov_ds ov_m175.2.1 71 [.iload_n 2] = true := by decide +kernel
theorem d_175_72 : decode ov_m175.2.1 72 = .ok (.if_icmp .ge 8, 3) := by decide +kernel
theorem b_175_80_4 : ov_ds ov_m175.2.1 80 [.lconst 0, .lmul, .lstore 7, .iinc 9 1] = true := by decide +kernel
theorem b_175_75_2 : ov_ds ov_m175.2.1 75 [.iload_n 3, .i2l] = true := by decide +kernel
theorem d_175_77 : decode ov_m175.2.1 77 = .ok (.goto 4, 3) := by decide +kernel
theorem b_175_81_3 : ov_ds ov_m175.2.1 81 [.lmul, .lstore 7, .iinc 9 1] = true := by decide +kernel
theorem b_175_53_2 : ov_ds ov_m175.2.1 53 [.iload_n 2, .i2l] = true := by decide +kernel
theorem d_175_55 : decode ov_m175.2.1 55 = .ok (.goto 4, 3) := by decide +kernel
theorem b_175_59_4 : ov_ds ov_m175.2.1 59 [.lmul, .lstore 5, .lload 7, .aload_n 0] = true := by decide +kernel
theorem b_197_0_2 : ov_ds ov_m197.2.1 0 [.aload_n 0, .aload_n 1] = true := by decide +kernel
theorem d_197_2 : decode ov_m197.2.1 2 = .ok (.getfield 24, 3) := by decide +kernel
theorem d_197_5 : decode ov_m197.2.1 5 = .ok (.putfield 24, 3) := by decide +kernel
theorem b_197_8_2 : ov_ds ov_m197.2.1 8 [.aload_n 0, .aload_n 1] = true := by decide +kernel
theorem d_197_10 : decode ov_m197.2.1 10 = .ok (.getfield 28, 3) := by decide +kernel
theorem d_197_13 : decode ov_m197.2.1 13 = .ok (.putfield 28, 3) := by decide +kernel
theorem b_197_16_2 : ov_ds ov_m197.2.1 16 [.aload_n 0, .aload_n 1] = true := by decide +kernel
theorem d_197_18 : decode ov_m197.2.1 18 = .ok (.getfield 31, 3) := by decide +kernel
theorem d_197_21 : decode ov_m197.2.1 21 = .ok (.putfield 31, 3) := by decide +kernel
theorem b_197_24_2 : ov_ds ov_m197.2.1 24 [.aload_n 0, .aload_n 1] = true := by decide +kernel
theorem d_197_26 : decode ov_m197.2.1 26 = .ok (.getfield 34, 3) := by decide +kernel
theorem d_197_29 : decode ov_m197.2.1 29 = .ok (.putfield 34, 3) := by decide +kernel
theorem b_197_32_2 : ov_ds ov_m197.2.1 32 [.aload_n 0, .aload_n 1] = true := by decide +kernel
theorem d_197_34 : decode ov_m197.2.1 34 = .ok (.getfield 38, 3) := by decide +kernel
theorem d_197_37 : decode ov_m197.2.1 37 = .ok (.putfield 38, 3) := by decide +kernel
theorem b_197_40_2 : ov_ds ov_m197.2.1 40 [.aload_n 0, .aload_n 1] = true := by decide +kernel
theorem d_197_42 : decode ov_m197.2.1 42 = .ok (.getfield 41, 3) := by decide +kernel
theorem d_197_45 : decode ov_m197.2.1 45 = .ok (.putfield 41, 3) := by decide +kernel
theorem b_197_48_1 : ov_ds ov_m197.2.1 48 [.aload_n 1] = true := by decide +kernel
theorem d_197_49 : decode ov_m197.2.1 49 = .ok (.getfield 11, 3) := by decide +kernel
theorem b_197_52_2 : ov_ds ov_m197.2.1 52 [.iconst 0, .aload_n 0] = true := by decide +kernel
theorem d_197_54 : decode ov_m197.2.1 54 = .ok (.getfield 11, 3) := by decide +kernel
theorem b_197_57_2 : ov_ds ov_m197.2.1 57 [.iconst 0, .bipush 10] = true := by decide +kernel
theorem d_197_60 : decode ov_m197.2.1 60 = .ok (.invokestatic 44, 3) := by decide +kernel
theorem b_197_63_1 : ov_ds ov_m197.2.1 63 [.aload_n 1] = true := by decide +kernel
theorem d_197_64 : decode ov_m197.2.1 64 = .ok (.getfield 15, 3) := by decide +kernel
theorem b_197_67_2 : ov_ds ov_m197.2.1 67 [.iconst 0, .aload_n 0] = true := by decide +kernel
theorem d_197_69 : decode ov_m197.2.1 69 = .ok (.getfield 15, 3) := by decide +kernel
theorem b_197_72_2 : ov_ds ov_m197.2.1 72 [.iconst 0, .bipush 10] = true := by decide +kernel
theorem d_197_75 : decode ov_m197.2.1 75 = .ok (.invokestatic 44, 3) := by decide +kernel
theorem b_197_78_1 : ov_ds ov_m197.2.1 78 [.aload_n 1] = true := by decide +kernel
theorem d_197_79 : decode ov_m197.2.1 79 = .ok (.getfield 18, 3) := by decide +kernel
theorem b_197_82_2 : ov_ds ov_m197.2.1 82 [.iconst 0, .aload_n 0] = true := by decide +kernel
theorem d_197_84 : decode ov_m197.2.1 84 = .ok (.getfield 18, 3) := by decide +kernel
theorem b_197_87_2 : ov_ds ov_m197.2.1 87 [.iconst 0, .bipush 8] = true := by decide +kernel
theorem d_197_90 : decode ov_m197.2.1 90 = .ok (.invokestatic 44, 3) := by decide +kernel
theorem b_197_93_1 : ov_ds ov_m197.2.1 93 [.aload_n 1] = true := by decide +kernel
theorem d_197_94 : decode ov_m197.2.1 94 = .ok (.getfield 21, 3) := by decide +kernel
theorem b_197_97_2 : ov_ds ov_m197.2.1 97 [.iconst 0, .aload_n 0] = true := by decide +kernel
theorem d_197_99 : decode ov_m197.2.1 99 = .ok (.getfield 21, 3) := by decide +kernel
theorem b_197_102_2 : ov_ds ov_m197.2.1 102 [.iconst 0, .bipush 8] = true := by decide +kernel
theorem d_197_105 : decode ov_m197.2.1 105 = .ok (.invokestatic 44, 3) := by decide +kernel
theorem d_197_108 : decode ov_m197.2.1 108 = .ok (.return_, 1) := by decide +kernel
theorem b_82_0_2 : ov_ds ov_m82.2.1 0 [.aload_n 0, .iconst 0] = true := by decide +kernel
theorem d_82_2 : decode ov_m82.2.1 2 = .ok (.putfield 23, 3) := by decide +kernel
theorem d_82_5 : decode ov_m82.2.1 5 = .ok (.return_, 1) := by decide +kernel
theorem b_104_0_1 : ov_ds ov_m104.2.1 0 [.aload_n 0] = true := by decide +kernel
theorem d_104_1 : decode ov_m104.2.1 1 = .ok (.getfield 9, 3) := by decide +kernel
theorem b_104_4_1 : ov_ds ov_m104.2.1 4 [.aload_n 0] = true := by decide +kernel
theorem d_104_5 : decode ov_m104.2.1 5 = .ok (.getfield 27, 3) := by decide +kernel
theorem b_104_8_1 : ov_ds ov_m104.2.1 8 [.aload_n 1] = true := by decide +kernel
theorem d_104_9 : decode ov_m104.2.1 9 = .ok (.getfield 30, 3) := by decide +kernel
theorem d_104_12 : decode ov_m104.2.1 12 = .ok (.iastore, 1) := by decide +kernel
theorem b_104_13_1 : ov_ds ov_m104.2.1 13 [.aload_n 0] = true := by decide +kernel
theorem d_104_14 : decode ov_m104.2.1 14 = .ok (.getfield 13, 3) := by decide +kernel
theorem b_104_17_1 : ov_ds ov_m104.2.1 17 [.aload_n 0] = true := by decide +kernel
theorem d_104_18 : decode ov_m104.2.1 18 = .ok (.getfield 27, 3) := by decide +kernel
theorem b_104_21_1 : ov_ds ov_m104.2.1 21 [.aload_n 1] = true := by decide +kernel
theorem d_104_22 : decode ov_m104.2.1 22 = .ok (.getfield 35, 3) := by decide +kernel
theorem d_104_25 : decode ov_m104.2.1 25 = .ok (.iastore, 1) := by decide +kernel
theorem b_104_26_1 : ov_ds ov_m104.2.1 26 [.aload_n 0] = true := by decide +kernel
theorem d_104_27 : decode ov_m104.2.1 27 = .ok (.getfield 16, 3) := by decide +kernel
theorem b_104_30_1 : ov_ds ov_m104.2.1 30 [.aload_n 0] = true := by decide +kernel
theorem d_104_31 : decode ov_m104.2.1 31 = .ok (.getfield 27, 3) := by decide +kernel
theorem b_104_34_1 : ov_ds ov_m104.2.1 34 [.aload_n 1] = true := by decide +kernel
theorem d_104_35 : decode ov_m104.2.1 35 = .ok (.getfield 38, 3) := by decide +kernel
theorem d_104_38 : decode ov_m104.2.1 38 = .ok (.iastore, 1) := by decide +kernel
theorem b_104_39_1 : ov_ds ov_m104.2.1 39 [.aload_n 0] = true := by decide +kernel
theorem d_104_40 : decode ov_m104.2.1 40 = .ok (.getfield 19, 3) := by decide +kernel
theorem b_104_43_1 : ov_ds ov_m104.2.1 43 [.aload_n 0] = true := by decide +kernel
theorem d_104_44 : decode ov_m104.2.1 44 = .ok (.getfield 27, 3) := by decide +kernel
theorem b_104_47_1 : ov_ds ov_m104.2.1 47 [.aload_n 1] = true := by decide +kernel
theorem d_104_48 : decode ov_m104.2.1 48 = .ok (.getfield 40, 3) := by decide +kernel
theorem d_104_51 : decode ov_m104.2.1 51 = .ok (.lastore, 1) := by decide +kernel
theorem b_104_52_2 : ov_ds ov_m104.2.1 52 [.aload_n 0, .aload_n 0] = true := by decide +kernel
theorem d_104_54 : decode ov_m104.2.1 54 = .ok (.getfield 27, 3) := by decide +kernel
theorem b_104_57_3 : ov_ds ov_m104.2.1 57 [.iconst 1, .iadd, .bipush 16] = true := by decide +kernel
theorem d_104_61 : decode ov_m104.2.1 61 = .ok (.irem, 1) := by decide +kernel
theorem d_104_62 : decode ov_m104.2.1 62 = .ok (.putfield 27, 3) := by decide +kernel
theorem b_104_65_2 : ov_ds ov_m104.2.1 65 [.aload_n 0, .aload_n 0] = true := by decide +kernel
theorem d_104_67 : decode ov_m104.2.1 67 = .ok (.getfield 23, 3) := by decide +kernel
theorem b_104_70_3 : ov_ds ov_m104.2.1 70 [.iconst 1, .iadd, .bipush 16] = true := by decide +kernel
theorem d_104_74 : decode ov_m104.2.1 74 = .ok (.invokestatic 44, 3) := by decide +kernel
theorem d_104_77 : decode ov_m104.2.1 77 = .ok (.putfield 23, 3) := by decide +kernel
theorem d_104_80 : decode ov_m104.2.1 80 = .ok (.return_, 1) := by decide +kernel
theorem b_108_0_1 : ov_ds ov_m108.2.1 0 [.aload_n 0] = true := by decide +kernel
theorem d_108_1 : decode ov_m108.2.1 1 = .ok (.getfield 23, 3) := by decide +kernel
theorem d_108_4 : decode ov_m108.2.1 4 = .ok (.ifCond .ne 5, 3) := by decide +kernel
theorem b_108_9_2 : ov_ds ov_m108.2.1 9 [.aload_n 0, .aload_n 0] = true := by decide +kernel
theorem d_108_11 : decode ov_m108.2.1 11 = .ok (.getfield 27, 3) := by decide +kernel
theorem b_108_14_5 : ov_ds ov_m108.2.1 14 [.bipush 16, .iadd, .iconst 1, .isub, .bipush 16] = true := by decide +kernel
theorem d_108_21 : decode ov_m108.2.1 21 = .ok (.irem, 1) := by decide +kernel
theorem d_108_22 : decode ov_m108.2.1 22 = .ok (.putfield 27, 3) := by decide +kernel
theorem b_108_25_2 : ov_ds ov_m108.2.1 25 [.aload_n 0, .dup] = true := by decide +kernel
theorem d_108_27 : decode ov_m108.2.1 27 = .ok (.getfield 23, 3) := by decide +kernel
theorem b_108_30_2 : ov_ds ov_m108.2.1 30 [.iconst 1, .isub] = true := by decide +kernel
theorem d_108_32 : decode ov_m108.2.1 32 = .ok (.putfield 23, 3) := by decide +kernel
theorem b_108_35_2 : ov_ds ov_m108.2.1 35 [.aload_n 1, .aload_n 0] = true := by decide +kernel
theorem d_108_37 : decode ov_m108.2.1 37 = .ok (.getfield 9, 3) := by decide +kernel
theorem b_108_40_1 : ov_ds ov_m108.2.1 40 [.aload_n 0] = true := by decide +kernel
theorem d_108_41 : decode ov_m108.2.1 41 = .ok (.getfield 27, 3) := by decide +kernel
theorem d_108_44 : decode ov_m108.2.1 44 = .ok (.iaload, 1) := by decide +kernel
theorem d_108_45 : decode ov_m108.2.1 45 = .ok (.putfield 30, 3) := by decide +kernel
theorem b_108_48_2 : ov_ds ov_m108.2.1 48 [.aload_n 1, .aload_n 0] = true := by decide +kernel
theorem d_108_50 : decode ov_m108.2.1 50 = .ok (.getfield 13, 3) := by decide +kernel
theorem b_108_53_1 : ov_ds ov_m108.2.1 53 [.aload_n 0] = true := by decide +kernel
theorem d_108_54 : decode ov_m108.2.1 54 = .ok (.getfield 27, 3) := by decide +kernel
theorem d_108_57 : decode ov_m108.2.1 57 = .ok (.iaload, 1) := by decide +kernel
theorem d_108_58 : decode ov_m108.2.1 58 = .ok (.putfield 35, 3) := by decide +kernel
theorem b_108_61_2 : ov_ds ov_m108.2.1 61 [.aload_n 1, .aload_n 0] = true := by decide +kernel
theorem d_108_63 : decode ov_m108.2.1 63 = .ok (.getfield 16, 3) := by decide +kernel
theorem b_108_66_1 : ov_ds ov_m108.2.1 66 [.aload_n 0] = true := by decide +kernel
theorem d_108_67 : decode ov_m108.2.1 67 = .ok (.getfield 27, 3) := by decide +kernel
theorem d_108_70 : decode ov_m108.2.1 70 = .ok (.iaload, 1) := by decide +kernel
theorem d_108_71 : decode ov_m108.2.1 71 = .ok (.putfield 38, 3) := by decide +kernel
theorem b_108_74_2 : ov_ds ov_m108.2.1 74 [.aload_n 1, .aload_n 0] = true := by decide +kernel
theorem d_108_76 : decode ov_m108.2.1 76 = .ok (.getfield 19, 3) := by decide +kernel
theorem b_108_79_1 : ov_ds ov_m108.2.1 79 [.aload_n 0] = true := by decide +kernel
theorem d_108_80 : decode ov_m108.2.1 80 = .ok (.getfield 27, 3) := by decide +kernel
theorem d_108_83 : decode ov_m108.2.1 83 = .ok (.laload, 1) := by decide +kernel
theorem d_108_84 : decode ov_m108.2.1 84 = .ok (.putfield 40, 3) := by decide +kernel
theorem b_108_87_1 : ov_ds ov_m108.2.1 87 [.iconst 1] = true := by decide +kernel
theorem d_108_88 : decode ov_m108.2.1 88 = .ok (.ireturn, 1) := by decide +kernel
theorem b_108_7_1 : ov_ds ov_m108.2.1 7 [.iconst 0] = true := by decide +kernel
theorem d_108_8 : decode ov_m108.2.1 8 = .ok (.ireturn, 1) := by decide +kernel
theorem b_80_0_2 : ov_ds ov_m80.2.1 0 [.aload_n 0, .iconst 0] = true := by decide +kernel
theorem d_80_2 : decode ov_m80.2.1 2 = .ok (.putfield 21, 3) := by decide +kernel
theorem b_80_5_2 : ov_ds ov_m80.2.1 5 [.aload_n 0, .iconst 0] = true := by decide +kernel
theorem d_80_7 : decode ov_m80.2.1 7 = .ok (.putfield 25, 3) := by decide +kernel
theorem d_80_10 : decode ov_m80.2.1 10 = .ok (.return_, 1) := by decide +kernel
theorem b_92_0_1 : ov_ds ov_m92.2.1 0 [.aload_n 0] = true := by decide +kernel
theorem d_92_1 : decode ov_m92.2.1 1 = .ok (.getfield 21, 3) := by decide +kernel
theorem b_92_4_1 : ov_ds ov_m92.2.1 4 [.bipush 13] = true := by decide +kernel
theorem d_92_6 : decode ov_m92.2.1 6 = .ok (.if_icmp .ge 49, 3) := by decide +kernel
theorem d_92_55 : decode ov_m92.2.1 55 = .ok (.return_, 1) := by decide +kernel
theorem b_92_9_1 : ov_ds ov_m92.2.1 9 [.aload_n 0] = true := by decide +kernel
theorem d_92_10 : decode ov_m92.2.1 10 = .ok (.getfield 9, 3) := by decide +kernel
theorem b_92_13_1 : ov_ds ov_m92.2.1 13 [.aload_n 0] = true := by decide +kernel
theorem d_92_14 : decode ov_m92.2.1 14 = .ok (.getfield 21, 3) := by decide +kernel
theorem b_92_17_1 : ov_ds ov_m92.2.1 17 [.iload_n 1] = true := by decide +kernel
theorem d_92_18 : decode ov_m92.2.1 18 = .ok (.iastore, 1) := by decide +kernel
theorem b_92_19_1 : ov_ds ov_m92.2.1 19 [.aload_n 0] = true := by decide +kernel
theorem d_92_20 : decode ov_m92.2.1 20 = .ok (.getfield 15, 3) := by decide +kernel
theorem b_92_23_1 : ov_ds ov_m92.2.1 23 [.aload_n 0] = true := by decide +kernel
theorem d_92_24 : decode ov_m92.2.1 24 = .ok (.getfield 21, 3) := by decide +kernel
theorem b_92_27_1 : ov_ds ov_m92.2.1 27 [.iload_n 2] = true := by decide +kernel
theorem d_92_28 : decode ov_m92.2.1 28 = .ok (.iastore, 1) := by decide +kernel
theorem b_92_29_1 : ov_ds ov_m92.2.1 29 [.aload_n 0] = true := by decide +kernel
theorem d_92_30 : decode ov_m92.2.1 30 = .ok (.getfield 18, 3) := by decide +kernel
theorem b_92_33_1 : ov_ds ov_m92.2.1 33 [.aload_n 0] = true := by decide +kernel
theorem d_92_34 : decode ov_m92.2.1 34 = .ok (.getfield 21, 3) := by decide +kernel
theorem b_92_37_1 : ov_ds ov_m92.2.1 37 [.iload_n 3] = true := by decide +kernel
theorem d_92_38 : decode ov_m92.2.1 38 = .ok (.iastore, 1) := by decide +kernel
theorem b_92_39_2 : ov_ds ov_m92.2.1 39 [.aload_n 0, .iload 4] = true := by decide +kernel
theorem d_92_42 : decode ov_m92.2.1 42 = .ok (.putfield 25, 3) := by decide +kernel
theorem b_92_45_2 : ov_ds ov_m92.2.1 45 [.aload_n 0, .dup] = true := by decide +kernel
theorem d_92_47 : decode ov_m92.2.1 47 = .ok (.getfield 21, 3) := by decide +kernel
theorem b_92_50_2 : ov_ds ov_m92.2.1 50 [.iconst 1, .iadd] = true := by decide +kernel
theorem d_92_52 : decode ov_m92.2.1 52 = .ok (.putfield 21, 3) := by decide +kernel
theorem b_111_0_2 : ov_ds ov_m111.2.1 0 [.aload_n 1, .aload_n 0] = true := by decide +kernel
theorem d_111_2 : decode ov_m111.2.1 2 = .ok (.getfield 9, 3) := by decide +kernel
theorem b_111_5_1 : ov_ds ov_m111.2.1 5 [.iload_n 2] = true := by decide +kernel
theorem d_111_6 : decode ov_m111.2.1 6 = .ok (.iaload, 1) := by decide +kernel
theorem b_111_7_1 : ov_ds ov_m111.2.1 7 [.aload_n 0] = true := by decide +kernel
theorem d_111_8 : decode ov_m111.2.1 8 = .ok (.getfield 15, 3) := by decide +kernel
theorem b_111_11_1 : ov_ds ov_m111.2.1 11 [.iload_n 2] = true := by decide +kernel
theorem d_111_12 : decode ov_m111.2.1 12 = .ok (.iaload, 1) := by decide +kernel
theorem b_111_13_1 : ov_ds ov_m111.2.1 13 [.aload_n 0] = true := by decide +kernel
theorem d_111_14 : decode ov_m111.2.1 14 = .ok (.getfield 18, 3) := by decide +kernel
theorem b_111_17_1 : ov_ds ov_m111.2.1 17 [.iload_n 2] = true := by decide +kernel
theorem d_111_18 : decode ov_m111.2.1 18 = .ok (.iaload, 1) := by decide +kernel
theorem d_111_19 : decode ov_m111.2.1 19 = .ok (.invokevirtual 37, 3) := by decide +kernel
theorem b_111_22_2 : ov_ds ov_m111.2.1 22 [.istore 4, .aload_n 1] = true := by decide +kernel
theorem d_111_25 : decode ov_m111.2.1 25 = .ok (.getfield 41, 3) := by decide +kernel
theorem b_111_28_1 : ov_ds ov_m111.2.1 28 [.aload_n 0] = true := by decide +kernel
theorem d_111_29 : decode ov_m111.2.1 29 = .ok (.getfield 9, 3) := by decide +kernel
theorem b_111_32_1 : ov_ds ov_m111.2.1 32 [.iload_n 2] = true := by decide +kernel
theorem d_111_33 : decode ov_m111.2.1 33 = .ok (.iaload, 1) := by decide +kernel
theorem d_111_34 : decode ov_m111.2.1 34 = .ok (.iaload, 1) := by decide +kernel
theorem b_111_35_1 : ov_ds ov_m111.2.1 35 [.iconst 2] = true := by decide +kernel
theorem d_111_36 : decode ov_m111.2.1 36 = .ok (.if_icmp .ne 17, 3) := by decide +kernel
theorem b_111_53_1 : ov_ds ov_m111.2.1 53 [.iload 4] = true := by decide +kernel
theorem d_111_55 : decode ov_m111.2.1 55 = .ok (.ifCond .ne 7, 3) := by decide +kernel
theorem b_111_62_1 : ov_ds ov_m111.2.1 62 [.iconst 0] = true := by decide +kernel
theorem d_111_63 : decode ov_m111.2.1 63 = .ok (.ireturn, 1) := by decide +kernel
theorem b_111_58_1 : ov_ds ov_m111.2.1 58 [.iconst 1] = true := by decide +kernel
theorem d_111_59 : decode ov_m111.2.1 59 = .ok (.goto 4, 3) := by decide +kernel
theorem b_111_39_2 : ov_ds ov_m111.2.1 39 [.iload_n 3, .iload 4] = true := by decide +kernel
theorem d_111_42 : decode ov_m111.2.1 42 = .ok (.if_icmp .lt 7, 3) := by decide +kernel
theorem b_111_49_1 : ov_ds ov_m111.2.1 49 [.iconst 0] = true := by decide +kernel
theorem d_111_50 : decode ov_m111.2.1 50 = .ok (.goto 13, 3) := by decide +kernel
theorem b_111_45_1 : ov_ds ov_m111.2.1 45 [.iconst 1] = true := by decide +kernel
theorem d_111_46 : decode ov_m111.2.1 46 = .ok (.goto 17, 3) := by decide +kernel
theorem b_110_0_4 : ov_ds ov_m110.2.1 0 [.iconst 0, .istore_n 2, .iconst 0, .istore_n 3] = true := by decide +kernel
theorem b_110_4_2 : ov_ds ov_m110.2.1 4 [.iload_n 3, .aload_n 0] = true := by decide +kernel
theorem d_110_6 : decode ov_m110.2.1 6 = .ok (.getfield 21, 3) := by decide +kernel
theorem d_110_9 : decode ov_m110.2.1 9 = .ok (.if_icmp .ge 48, 3) := by decide +kernel
theorem b_110_57_1 : ov_ds ov_m110.2.1 57 [.iconst (-1)] = true := by decide +kernel
theorem d_110_58 : decode ov_m110.2.1 58 = .ok (.ireturn, 1) := by decide +kernel
theorem b_110_12_1 : ov_ds ov_m110.2.1 12 [.aload_n 0] = true := by decide +kernel
theorem d_110_13 : decode ov_m110.2.1 13 = .ok (.getfield 18, 3) := by decide +kernel
theorem b_110_16_1 : ov_ds ov_m110.2.1 16 [.iload_n 3] = true := by decide +kernel
theorem d_110_17 : decode ov_m110.2.1 17 = .ok (.iaload, 1) := by decide +kernel
theorem b_110_18_3 : ov_ds ov_m110.2.1 18 [.istore 4, .iload 4, .iload_n 2] = true := by decide +kernel
theorem d_110_23 : decode ov_m110.2.1 23 = .ok (.if_icmp .lt 16, 3) := by decide +kernel
theorem b_110_39_1 : ov_ds ov_m110.2.1 39 [.iload_n 3] = true := by decide +kernel
theorem d_110_40 : decode ov_m110.2.1 40 = .ok (.ireturn, 1) := by decide +kernel
theorem b_110_26_6 : ov_ds ov_m110.2.1 26 [.aload_n 0, .aload_n 1, .iload_n 3, .iload 4, .iload_n 2, .isub] = true := by decide +kernel
theorem d_110_33 : decode ov_m110.2.1 33 = .ok (.invokevirtual 28, 3) := by decide +kernel
theorem d_110_36 : decode ov_m110.2.1 36 = .ok (.ifCond .ne 5, 3) := by decide +kernel
theorem b_110_41_2 : ov_ds ov_m110.2.1 41 [.iload 4, .aload_n 1] = true := by decide +kernel
theorem d_110_44 : decode ov_m110.2.1 44 = .ok (.getfield 32, 3) := by decide +kernel
theorem b_110_47_1 : ov_ds ov_m110.2.1 47 [.iconst 0] = true := by decide +kernel
theorem d_110_48 : decode ov_m110.2.1 48 = .ok (.iaload, 1) := by decide +kernel
theorem b_110_49_1 : ov_ds ov_m110.2.1 49 [.iadd] = true := by decide +kernel
theorem b_110_50_2 : ov_ds ov_m110.2.1 50 [.istore_n 2, .iinc 3 1] = true := by decide +kernel
theorem d_110_54 : decode ov_m110.2.1 54 = .ok (.goto (-50), 3) := by decide +kernel
abbrev P_State_clear_4 (F : ov_H) (z : ov_Z) (h : ov_H)  : Option ov_V → ov_Z → ov_H → Prop := fun r0 z' h' => r0 = none ∧ ov_I F z' h' ∧ ((h' 36 7) = (h 36 7) ∧ (h' 1 1) = (h 1 1) ∧ (h' 90 2) = (h 90 2) ∧ (h' 0 10) = (h 0 10) ∧ (h' 0 11) = (h 0 11) ∧ (h' 0 12) = (h 0 12) ∧ (h' 0 13) = (h 0 13) ∧ (h' 3 1) = (h 3 1) ∧ (h' 36 8) = (h 36 8) ∧ (h' 46 3) = (h 46 3) ∧ (h' 46 4) = (h 46 4) ∧ (h' 49 4) = (h 49 4) ∧ (h' 49 5) = (h 49 5) ∧ (h' 64 0) = (h 64 0) ∧ (h' 76 0) = (h 76 0))
set_option maxHeartbeats 4000000 in
theorem c_State_clear_4 {u : ov_U} {F : ov_H} {z : ov_Z} {h : ov_H} (d : Nat) (hd : 0 ≤ d) (U : ov_cap u) (I : ov_I F z h) (hw : ov_kw 16 F) : ov_T u d ov_m81 [ov_r 4] z h (P_State_clear_4 F z h) := by
  refine ov_en rfl (Nat.le_of_ble_eq_true rfl) ?_
  show ov_R u d ov_m81 0 [(0, ov_r 4)] [] z h (P_State_clear_4 F z h)
  refine ov_blk (ls2 := [(0, ov_r 4)]) (st2 := [ov_i 0, ov_r 4]) (pc2 := 2) b_81_0_2 rfl rfl ?_
  refine ov_putf (x := 0) d_81_2 fl_State_24 (zb_4 I) (zs_4 I) rfl nk_0 rfl ?_
  have I1 := up_4_0 (x := 0) I (by omega) (hw 4 (by decide +kernel))
  refine ov_blk (ls2 := [(0, ov_r 4)]) (st2 := [ov_i 0, ov_r 4]) (pc2 := 7) b_81_5_2 rfl rfl ?_
  refine ov_putf (x := 0) d_81_7 fl_State_28 (zb_4 I1) (zs_4 I1) rfl nk_0 rfl ?_
  have I2 := up_4_1 (x := 0) I1 (by omega) (hw 4 (by decide +kernel))
  refine ov_blk (ls2 := [(0, ov_r 4)]) (st2 := [ov_i 0, ov_r 4]) (pc2 := 12) b_81_10_2 rfl rfl ?_
  refine ov_putf (x := 0) d_81_12 fl_State_31 (zb_4 I2) (zs_4 I2) rfl nk_0 rfl ?_
  have I3 := up_4_2 (x := 0) I2 (by omega) (hw 4 (by decide +kernel))
  refine ov_blk (ls2 := [(0, ov_r 4)]) (st2 := [ov_l 0, ov_r 4]) (pc2 := 17) b_81_15_2 rfl rfl ?_
  refine ov_putf (x := 0) d_81_17 fl_State_34 (zb_4 I3) (zs_4 I3) rfl nk_1 rfl ?_
  have I4 := up_4_3 (x := 0) I3 (hw 4 (by decide +kernel))
  refine ov_blk (ls2 := [(0, ov_r 4)]) (st2 := [ov_i 0, ov_r 4]) (pc2 := 22) b_81_20_2 rfl rfl ?_
  refine ov_putf (x := 0) d_81_22 fl_State_38 (zb_4 I4) (zs_4 I4) rfl nk_0 rfl ?_
  have I5 := up_4_4 (x := 0) I4 (by omega) (hw 4 (by decide +kernel))
  refine ov_blk (ls2 := [(0, ov_r 4)]) (st2 := [ov_i 0, ov_r 4]) (pc2 := 27) b_81_25_2 rfl rfl ?_
  refine ov_putf (x := 0) d_81_27 fl_State_41 (zb_4 I5) (zs_4 I5) rfl nk_0 rfl ?_
  have I6 := up_4_5 (x := 0) I5 (by omega) (hw 4 (by decide +kernel))
  exact ov_retv (st := []) d_81_30 rfl ⟨rfl, I6, (by show (h 36 7) = (h 36 7) ∧ (h 1 1) = (h 1 1) ∧ (h 90 2) = (h 90 2) ∧ (h 0 10) = (h 0 10) ∧ (h 0 11) = (h 0 11) ∧ (h 0 12) = (h 0 12) ∧ (h 0 13) = (h 0 13) ∧ (h 3 1) = (h 3 1) ∧ (h 36 8) = (h 36 8) ∧ (h 46 3) = (h 46 3) ∧ (h 46 4) = (h 46 4) ∧ (h 49 4) = (h 49 4) ∧ (h 49 5) = (h 49 5) ∧ (h 64 0) = (h 64 0) ∧ (h 76 0) = (h 76 0); omega)⟩
abbrev P_State_knows_4 (F : ov_H) (z : ov_Z) (h : ov_H) (w : Int) : Option ov_V → ov_Z → ov_H → Prop := fun r0 z' h' => ∃ r : Int, r0 = some (ov_i r) ∧ z = z' ∧ h = h' ∧ ((r = 0 ∨ r = 1))
set_option maxHeartbeats 4000000 in
theorem c_State_knows_4 {u : ov_U} {F : ov_H} {z : ov_Z} {h : ov_H} (d : Nat) (hd : 0 ≤ d) (U : ov_cap u) (I : ov_I F z h) (w : Int) (g_w : ov_g w) : ov_T u d ov_m95 [ov_r 4, ov_i w] z h (P_State_knows_4 F z h w) := by
  refine ov_en rfl (Nat.le_of_ble_eq_true rfl) ?_
  show ov_R u d ov_m95 0 [(0, ov_r 4), (1, ov_i w)] [] z h (P_State_knows_4 F z h w)
  refine ov_blk (ls2 := [(0, ov_r 4), (1, ov_i w)]) (st2 := [ov_r 4]) (pc2 := 1) b_95_0_1 rfl rfl ?_
  refine ov_getf (v := ov_l (h 4 3)) d_95_1 fl_State_34 (zb_4 I) (zs_4 I) rfl ?_
  refine ov_blk (ls2 := [(0, ov_r 4), (1, ov_i w)]) (st2 := [ov_i (ov_lcmp (ov_land (ov_lshr (h 4 3) w) 1) 0)]) (pc2 := 10) b_95_4_6 rfl rfl ?_
  have g1 := ov_lcg (ov_land (ov_lshr (h 4 3) w) 1) 0
  refine ov_ifeq (tgt := 17) d_95_10 (by decide) (by omega) (fun c2 => ?_) (fun c2 => ?_)
  · skip
    refine ov_blk (ls2 := [(0, ov_r 4), (1, ov_i w)]) (st2 := [ov_i 0]) (pc2 := 18) b_95_17_1 rfl rfl ?_
    exact ov_retz (st := []) d_95_18 rfl (by omega) ⟨_, rfl, rfl, rfl, (by show (0 = 0 ∨ 0 = 1); omega)⟩
  · skip
    refine ov_blk (ls2 := [(0, ov_r 4), (1, ov_i w)]) (st2 := [ov_i 1]) (pc2 := 14) b_95_13_1 rfl rfl ?_
    refine ov_goto (tgt := 18) d_95_14 (by decide) ?_
    exact ov_retz (st := []) d_95_18 rfl (by omega) ⟨_, rfl, rfl, rfl, (by show (1 = 0 ∨ 1 = 1); omega)⟩
abbrev P_State_addTry_4 (F : ov_H) (z : ov_Z) (h : ov_H) (w : Int) (p : Int) (t : Int) : Option ov_V → ov_Z → ov_H → Prop := fun r0 z' h' => ∃ r : Int, r0 = some (ov_i r) ∧ ov_I F z' h' ∧ ((r = 0 ∨ r = 1) ∧ (h' 36 7) = (h 36 7) ∧ (h' 1 1) = (h 1 1) ∧ (h' 90 2) = (h 90 2) ∧ (h' 0 10) = (h 0 10) ∧ (h' 0 11) = (h 0 11) ∧ (h' 0 12) = (h 0 12) ∧ (h' 0 13) = (h 0 13) ∧ (h' 3 1) = (h 3 1) ∧ (h' 36 8) = (h 36 8) ∧ (h' 46 3) = (h 46 3) ∧ (h' 46 4) = (h 46 4) ∧ (h' 49 4) = (h 49 4) ∧ (h' 49 5) = (h 49 5) ∧ (h' 64 0) = (h 64 0) ∧ (h' 76 0) = (h 76 0))
set_option maxHeartbeats 4000000 in
theorem c_State_addTry_4 {u : ov_U} {F : ov_H} {z : ov_Z} {h : ov_H} (d : Nat) (hd : 0 ≤ d) (U : ov_cap u) (I : ov_I F z h) (hw : ov_kw 112 F) (w : Int) (p : Int) (t : Int) (g_w : ov_g w) (g_p : p = 0 ∨ p = 1) (g_t : ov_g t) : ov_T u d ov_m173 [ov_r 4, ov_i w, ov_i p, ov_i t] z h (P_State_addTry_4 F z h w p t) := by
  refine ov_en rfl (Nat.le_of_ble_eq_true rfl) ?_
  show ov_R u d ov_m173 0 [(0, ov_r 4), (1, ov_i w), (2, ov_i p), (3, ov_i t)] [] z h (P_State_addTry_4 F z h w p t)
  refine ov_blk (ls2 := [(0, ov_r 4), (1, ov_i w), (2, ov_i p), (3, ov_i t)]) (st2 := [ov_r 4]) (pc2 := 1) b_173_0_1 rfl rfl ?_
  refine ov_getf (v := ov_i (h 4 4)) d_173_1 fl_State_38 (zb_4 I) (zs_4 I) rfl ?_
  have g1 := rg_4_4 I
  refine ov_blk (ls2 := [(0, ov_r 4), (1, ov_i w), (2, ov_i p), (3, ov_i t)]) (st2 := [ov_i 10, ov_i (h 4 4)]) (pc2 := 6) b_173_4_1 rfl rfl ?_
  refine ov_iclt (tgt := 11) d_173_6 (by decide) (by omega) (by omega) (fun c2 => ?_) (fun c2 => ?_)
  · skip
    refine ov_blk (ls2 := [(0, ov_r 4), (1, ov_i w), (2, ov_i p), (3, ov_i t)]) (st2 := [ov_r 4]) (pc2 := 12) b_173_11_1 rfl rfl ?_
    refine ov_getf (v := ov_r 5) d_173_12 fl_State_11 (zb_4 I) (zs_4 I) (congrArg ov_r (rg_4_6 I)) ?_
    refine ov_blk (ls2 := [(0, ov_r 4), (1, ov_i w), (2, ov_i p), (3, ov_i t)]) (st2 := [ov_r 4, ov_r 5]) (pc2 := 16) b_173_15_1 rfl rfl ?_
    refine ov_getf (v := ov_i (h 4 4)) d_173_16 fl_State_38 (zb_4 I) (zs_4 I) rfl ?_
    refine ov_blk (ls2 := [(0, ov_r 4), (1, ov_i w), (2, ov_i p), (3, ov_i t)]) (st2 := [ov_i w, ov_i (h 4 4), ov_r 5]) (pc2 := 20) b_173_19_1 rfl rfl ?_
    refine ov_iast d_173_20 (zb_5 I) (zs_5 I) (by omega) ?_
    have I4 := ua_5 (k := (h 4 4)) (x := w) I (by omega) (hw 5 (by decide +kernel))
    refine ov_blk (ls2 := [(0, ov_r 4), (1, ov_i w), (2, ov_i p), (3, ov_i t)]) (st2 := [ov_r 4]) (pc2 := 22) b_173_21_1 rfl rfl ?_
    refine ov_getf (v := ov_r 6) d_173_22 fl_State_15 (zb_4 I4) (zs_4 I4) (congrArg ov_r (rg_4_7 I4)) ?_
    refine ov_blk (ls2 := [(0, ov_r 4), (1, ov_i w), (2, ov_i p), (3, ov_i t)]) (st2 := [ov_r 4, ov_r 6]) (pc2 := 26) b_173_25_1 rfl rfl ?_
    refine ov_getf (v := ov_i (h 4 4)) d_173_26 fl_State_38 (zb_4 I4) (zs_4 I4) rfl ?_
    refine ov_blk (ls2 := [(0, ov_r 4), (1, ov_i w), (2, ov_i p), (3, ov_i t)]) (st2 := [ov_i p, ov_i (h 4 4), ov_r 6]) (pc2 := 30) b_173_29_1 rfl rfl ?_
    refine ov_ifeq (tgt := 37) d_173_30 (by decide) (by omega) (fun c6 => ?_) (fun c6 => ?_)
    · skip
      refine ov_blk (ls2 := [(0, ov_r 4), (1, ov_i w), (2, ov_i p), (3, ov_i t)]) (st2 := [ov_i (-1), ov_i (h 4 4), ov_r 6]) (pc2 := 38) b_173_37_1 rfl rfl ?_
      refine ov_iast d_173_38 (zb_6 I4) (zs_6 I4) (by omega) ?_
      have I7 := ua_6 (k := (h 4 4)) (x := (-1)) I4 (by omega) (hw 6 (by decide +kernel))
      refine ov_blk (ls2 := [(0, ov_r 4), (1, ov_i w), (2, ov_i p), (3, ov_i t)]) (st2 := [ov_r 4, ov_r 4]) (pc2 := 41) b_173_39_2 rfl rfl ?_
      refine ov_getf (v := ov_i (h 4 4)) d_173_41 fl_State_38 (zb_4 I7) (zs_4 I7) rfl ?_
      refine ov_blk (ls2 := [(0, ov_r 4), (1, ov_i w), (2, ov_i p), (3, ov_i t)]) (st2 := [ov_i ((h 4 4) + 1), ov_r 4]) (pc2 := 46) b_173_44_2 rfl rfl ?_
      refine ov_putf (x := ((h 4 4) + 1)) d_173_46 fl_State_38 (zb_4 I7) (zs_4 I7) rfl nk_0 rfl ?_
      have I9 := up_4_4 (x := ((h 4 4) + 1)) I7 (by omega) (hw 4 (by decide +kernel))
      refine ov_blk (ls2 := [(0, ov_r 4), (1, ov_i w), (2, ov_i p), (3, ov_i t)]) (st2 := [ov_i 1]) (pc2 := 50) b_173_49_1 rfl rfl ?_
      exact ov_retz (st := []) d_173_50 rfl (by omega) ⟨_, rfl, I9, (by show (1 = 0 ∨ 1 = 1) ∧ (h 36 7) = (h 36 7) ∧ (h 1 1) = (h 1 1) ∧ (h 90 2) = (h 90 2) ∧ (h 0 10) = (h 0 10) ∧ (h 0 11) = (h 0 11) ∧ (h 0 12) = (h 0 12) ∧ (h 0 13) = (h 0 13) ∧ (h 3 1) = (h 3 1) ∧ (h 36 8) = (h 36 8) ∧ (h 46 3) = (h 46 3) ∧ (h 46 4) = (h 46 4) ∧ (h 49 4) = (h 49 4) ∧ (h 49 5) = (h 49 5) ∧ (h 64 0) = (h 64 0) ∧ (h 76 0) = (h 76 0); omega)⟩
    · skip
      refine ov_blk (ls2 := [(0, ov_r 4), (1, ov_i w), (2, ov_i p), (3, ov_i t)]) (st2 := [ov_i t, ov_i (h 4 4), ov_r 6]) (pc2 := 34) b_173_33_1 rfl rfl ?_
      refine ov_goto (tgt := 38) d_173_34 (by decide) ?_
      refine ov_iast d_173_38 (zb_6 I4) (zs_6 I4) (by omega) ?_
      have I10 := ua_6 (k := (h 4 4)) (x := t) I4 (by omega) (hw 6 (by decide +kernel))
      refine ov_blk (ls2 := [(0, ov_r 4), (1, ov_i w), (2, ov_i p), (3, ov_i t)]) (st2 := [ov_r 4, ov_r 4]) (pc2 := 41) b_173_39_2 rfl rfl ?_
      refine ov_getf (v := ov_i (h 4 4)) d_173_41 fl_State_38 (zb_4 I10) (zs_4 I10) rfl ?_
      refine ov_blk (ls2 := [(0, ov_r 4), (1, ov_i w), (2, ov_i p), (3, ov_i t)]) (st2 := [ov_i ((h 4 4) + 1), ov_r 4]) (pc2 := 46) b_173_44_2 rfl rfl ?_
      refine ov_putf (x := ((h 4 4) + 1)) d_173_46 fl_State_38 (zb_4 I10) (zs_4 I10) rfl nk_0 rfl ?_
      have I12 := up_4_4 (x := ((h 4 4) + 1)) I10 (by omega) (hw 4 (by decide +kernel))
      refine ov_blk (ls2 := [(0, ov_r 4), (1, ov_i w), (2, ov_i p), (3, ov_i t)]) (st2 := [ov_i 1]) (pc2 := 50) b_173_49_1 rfl rfl ?_
      exact ov_retz (st := []) d_173_50 rfl (by omega) ⟨_, rfl, I12, (by show (1 = 0 ∨ 1 = 1) ∧ (h 36 7) = (h 36 7) ∧ (h 1 1) = (h 1 1) ∧ (h 90 2) = (h 90 2) ∧ (h 0 10) = (h 0 10) ∧ (h 0 11) = (h 0 11) ∧ (h 0 12) = (h 0 12) ∧ (h 0 13) = (h 0 13) ∧ (h 3 1) = (h 3 1) ∧ (h 36 8) = (h 36 8) ∧ (h 46 3) = (h 46 3) ∧ (h 46 4) = (h 46 4) ∧ (h 49 4) = (h 49 4) ∧ (h 49 5) = (h 49 5) ∧ (h 64 0) = (h 64 0) ∧ (h 76 0) = (h 76 0); omega)⟩
  · skip
    refine ov_blk (ls2 := [(0, ov_r 4), (1, ov_i w), (2, ov_i p), (3, ov_i t)]) (st2 := [ov_i 0]) (pc2 := 10) b_173_9_1 rfl rfl ?_
    exact ov_retz (st := []) d_173_10 rfl (by omega) ⟨_, rfl, I, (by show (0 = 0 ∨ 0 = 1) ∧ (h 36 7) = (h 36 7) ∧ (h 1 1) = (h 1 1) ∧ (h 90 2) = (h 90 2) ∧ (h 0 10) = (h 0 10) ∧ (h 0 11) = (h 0 11) ∧ (h 0 12) = (h 0 12) ∧ (h 0 13) = (h 0 13) ∧ (h 3 1) = (h 3 1) ∧ (h 36 8) = (h 36 8) ∧ (h 46 3) = (h 46 3) ∧ (h 46 4) = (h 46 4) ∧ (h 49 4) = (h 49 4) ∧ (h 49 5) = (h 49 5) ∧ (h 64 0) = (h 64 0) ∧ (h 76 0) = (h 76 0); omega)⟩
abbrev P_State_addSighting_4 (F : ov_H) (z : ov_Z) (h : ov_H) (w : Int) (t : Int) : Option ov_V → ov_Z → ov_H → Prop := fun r0 z' h' => ∃ r : Int, r0 = some (ov_i r) ∧ ov_I F z' h' ∧ ((r = 0 ∨ r = 1) ∧ (h' 36 7) = (h 36 7) ∧ (h' 1 1) = (h 1 1) ∧ (h' 90 2) = (h 90 2) ∧ (h' 0 10) = (h 0 10) ∧ (h' 0 11) = (h 0 11) ∧ (h' 0 12) = (h 0 12) ∧ (h' 0 13) = (h 0 13) ∧ (h' 3 1) = (h 3 1) ∧ (h' 36 8) = (h 36 8) ∧ (h' 46 3) = (h 46 3) ∧ (h' 46 4) = (h 46 4) ∧ (h' 49 4) = (h 49 4) ∧ (h' 49 5) = (h 49 5) ∧ (h' 64 0) = (h 64 0) ∧ (h' 76 0) = (h 76 0))
set_option maxHeartbeats 4000000 in
theorem c_State_addSighting_4 {u : ov_U} {F : ov_H} {z : ov_Z} {h : ov_H} (d : Nat) (hd : 0 ≤ d) (U : ov_cap u) (I : ov_I F z h) (hw : ov_kw 400 F) (w : Int) (t : Int) (g_w : ov_g w) (g_t : ov_g t) : ov_T u d ov_m186 [ov_r 4, ov_i w, ov_i t] z h (P_State_addSighting_4 F z h w t) := by
  refine ov_en rfl (Nat.le_of_ble_eq_true rfl) ?_
  show ov_R u d ov_m186 0 [(0, ov_r 4), (1, ov_i w), (2, ov_i t)] [] z h (P_State_addSighting_4 F z h w t)
  refine ov_blk (ls2 := [(0, ov_r 4), (1, ov_i w), (2, ov_i t)]) (st2 := [ov_r 4]) (pc2 := 1) b_186_0_1 rfl rfl ?_
  refine ov_getf (v := ov_i (h 4 5)) d_186_1 fl_State_41 (zb_4 I) (zs_4 I) rfl ?_
  have g1 := rg_4_5 I
  refine ov_blk (ls2 := [(0, ov_r 4), (1, ov_i w), (2, ov_i t)]) (st2 := [ov_i 8, ov_i (h 4 5)]) (pc2 := 6) b_186_4_1 rfl rfl ?_
  refine ov_iclt (tgt := 11) d_186_6 (by decide) (by omega) (by omega) (fun c2 => ?_) (fun c2 => ?_)
  · skip
    refine ov_blk (ls2 := [(0, ov_r 4), (1, ov_i w), (2, ov_i t)]) (st2 := [ov_r 4]) (pc2 := 12) b_186_11_1 rfl rfl ?_
    refine ov_getf (v := ov_r 7) d_186_12 fl_State_18 (zb_4 I) (zs_4 I) (congrArg ov_r (rg_4_8 I)) ?_
    refine ov_blk (ls2 := [(0, ov_r 4), (1, ov_i w), (2, ov_i t)]) (st2 := [ov_r 4, ov_r 7]) (pc2 := 16) b_186_15_1 rfl rfl ?_
    refine ov_getf (v := ov_i (h 4 5)) d_186_16 fl_State_41 (zb_4 I) (zs_4 I) rfl ?_
    refine ov_blk (ls2 := [(0, ov_r 4), (1, ov_i w), (2, ov_i t)]) (st2 := [ov_i w, ov_i (h 4 5), ov_r 7]) (pc2 := 20) b_186_19_1 rfl rfl ?_
    refine ov_iast d_186_20 (zb_7 I) (zs_7 I) (by omega) ?_
    have I4 := ua_7 (k := (h 4 5)) (x := w) I (by omega) (hw 7 (by decide +kernel))
    refine ov_blk (ls2 := [(0, ov_r 4), (1, ov_i w), (2, ov_i t)]) (st2 := [ov_r 4]) (pc2 := 22) b_186_21_1 rfl rfl ?_
    refine ov_getf (v := ov_r 8) d_186_22 fl_State_21 (zb_4 I4) (zs_4 I4) (congrArg ov_r (rg_4_9 I4)) ?_
    refine ov_blk (ls2 := [(0, ov_r 4), (1, ov_i w), (2, ov_i t)]) (st2 := [ov_r 4, ov_r 8]) (pc2 := 26) b_186_25_1 rfl rfl ?_
    refine ov_getf (v := ov_i (h 4 5)) d_186_26 fl_State_41 (zb_4 I4) (zs_4 I4) rfl ?_
    refine ov_blk (ls2 := [(0, ov_r 4), (1, ov_i w), (2, ov_i t)]) (st2 := [ov_i t, ov_i (h 4 5), ov_r 8]) (pc2 := 30) b_186_29_1 rfl rfl ?_
    refine ov_iast d_186_30 (zb_8 I4) (zs_8 I4) (by omega) ?_
    have I6 := ua_8 (k := (h 4 5)) (x := t) I4 (by omega) (hw 8 (by decide +kernel))
    refine ov_blk (ls2 := [(0, ov_r 4), (1, ov_i w), (2, ov_i t)]) (st2 := [ov_r 4, ov_r 4]) (pc2 := 33) b_186_31_2 rfl rfl ?_
    refine ov_getf (v := ov_i (h 4 5)) d_186_33 fl_State_41 (zb_4 I6) (zs_4 I6) rfl ?_
    refine ov_blk (ls2 := [(0, ov_r 4), (1, ov_i w), (2, ov_i t)]) (st2 := [ov_i ((h 4 5) + 1), ov_r 4]) (pc2 := 38) b_186_36_2 rfl rfl ?_
    refine ov_putf (x := ((h 4 5) + 1)) d_186_38 fl_State_41 (zb_4 I6) (zs_4 I6) rfl nk_0 rfl ?_
    have I8 := up_4_5 (x := ((h 4 5) + 1)) I6 (by omega) (hw 4 (by decide +kernel))
    refine ov_blk (ls2 := [(0, ov_r 4), (1, ov_i w), (2, ov_i t)]) (st2 := [ov_i 1]) (pc2 := 42) b_186_41_1 rfl rfl ?_
    exact ov_retz (st := []) d_186_42 rfl (by omega) ⟨_, rfl, I8, (by show (1 = 0 ∨ 1 = 1) ∧ (h 36 7) = (h 36 7) ∧ (h 1 1) = (h 1 1) ∧ (h 90 2) = (h 90 2) ∧ (h 0 10) = (h 0 10) ∧ (h 0 11) = (h 0 11) ∧ (h 0 12) = (h 0 12) ∧ (h 0 13) = (h 0 13) ∧ (h 3 1) = (h 3 1) ∧ (h 36 8) = (h 36 8) ∧ (h 46 3) = (h 46 3) ∧ (h 46 4) = (h 46 4) ∧ (h 49 4) = (h 49 4) ∧ (h 49 5) = (h 49 5) ∧ (h 64 0) = (h 64 0) ∧ (h 76 0) = (h 76 0); omega)⟩
  · skip
    refine ov_blk (ls2 := [(0, ov_r 4), (1, ov_i w), (2, ov_i t)]) (st2 := [ov_i 0]) (pc2 := 10) b_186_9_1 rfl rfl ?_
    exact ov_retz (st := []) d_186_10 rfl (by omega) ⟨_, rfl, I, (by show (0 = 0 ∨ 0 = 1) ∧ (h 36 7) = (h 36 7) ∧ (h 1 1) = (h 1 1) ∧ (h 90 2) = (h 90 2) ∧ (h 0 10) = (h 0 10) ∧ (h 0 11) = (h 0 11) ∧ (h 0 12) = (h 0 12) ∧ (h 0 13) = (h 0 13) ∧ (h 3 1) = (h 3 1) ∧ (h 36 8) = (h 36 8) ∧ (h 46 3) = (h 46 3) ∧ (h 46 4) = (h 46 4) ∧ (h 49 4) = (h 49 4) ∧ (h 49 5) = (h 49 5) ∧ (h 64 0) = (h 64 0) ∧ (h 76 0) = (h 76 0); omega)⟩
abbrev P_State_sightingsWithin_4 (F : ov_H) (z : ov_Z) (h : ov_H) (w : Int) (c : Int) (l : Int) : Option ov_V → ov_Z → ov_H → Prop := fun r0 z' h' => ∃ r : Int, r0 = some (ov_i r) ∧ z = z' ∧ h = h' ∧ (-1 ≤ r ∧ r ≤ 8)
set_option maxHeartbeats 4000000 in
theorem c_State_sightingsWithin_4 {u : ov_U} {F : ov_H} {z : ov_Z} {h : ov_H} (d : Nat) (hd : 0 ≤ d) (U : ov_cap u) (I : ov_I F z h) (w : Int) (c : Int) (l : Int) (g_w : ov_g w) (g_c : ov_g c) (g_l : ov_g l) : ov_T u d ov_m190 [ov_r 4, ov_i w, ov_i c, ov_i l] z h (P_State_sightingsWithin_4 F z h w c l) := by
  refine ov_en rfl (Nat.le_of_ble_eq_true rfl) ?_
  show ov_R u d ov_m190 0 [(0, ov_r 4), (1, ov_i w), (2, ov_i c), (3, ov_i l)] [] z h (P_State_sightingsWithin_4 F z h w c l)
  refine ov_blk (ls2 := [(0, ov_r 4), (1, ov_i w), (2, ov_i c), (3, ov_i l), (4, ov_i 0), (5, ov_i 0)]) (st2 := []) (pc2 := 6) b_190_0_4 rfl rfl ?_
  have L4 : ∀ (n1 : Nat) (x4 : Int) (x5 : Int) (q3 : 0 ≤ x4 ∧ x4 ≤ x5 ∧ 0 ≤ x5 ∧ x5 ≤ 8), 8 - x5 < (n1 : Int) → ov_R u d ov_m190 6 [(0, ov_r 4), (1, ov_i w), (2, ov_i c), (3, ov_i l), (4, ov_i x4), (5, ov_i x5)] [] z h (P_State_sightingsWithin_4 F z h w c l) := by
    intro n1
    induction n1 with
    | zero =>
      intro x4 x5 q3 hn5
      exact absurd hn5 (by omega)
    | succ n1 ih2 =>
      intro x4 x5 q3 hn5
      refine ov_blk (ls2 := [(0, ov_r 4), (1, ov_i w), (2, ov_i c), (3, ov_i l), (4, ov_i x4), (5, ov_i x5)]) (st2 := [ov_r 4, ov_i x5]) (pc2 := 9) b_190_6_2 rfl rfl ?_
      refine ov_getf (v := ov_i (h 4 5)) d_190_9 fl_State_41 (zb_4 I) (zs_4 I) rfl ?_
      have g6 := rg_4_5 I
      refine ov_icge (tgt := 59) d_190_12 (by decide) (by omega) (by omega) (fun c7 => ?_) (fun c7 => ?_)
      · skip
        refine ov_blk (ls2 := [(0, ov_r 4), (1, ov_i w), (2, ov_i c), (3, ov_i l), (4, ov_i x4), (5, ov_i x5)]) (st2 := [ov_i x4]) (pc2 := 61) b_190_59_1 rfl rfl ?_
        exact ov_reti (st := []) d_190_61 rfl ⟨_, rfl, rfl, rfl, (by show -1 ≤ x4 ∧ x4 ≤ 8; omega)⟩
      · skip
        refine ov_blk (ls2 := [(0, ov_r 4), (1, ov_i w), (2, ov_i c), (3, ov_i l), (4, ov_i x4), (5, ov_i x5)]) (st2 := [ov_r 4]) (pc2 := 16) b_190_15_1 rfl rfl ?_
        refine ov_getf (v := ov_r 7) d_190_16 fl_State_18 (zb_4 I) (zs_4 I) (congrArg ov_r (rg_4_8 I)) ?_
        refine ov_blk (ls2 := [(0, ov_r 4), (1, ov_i w), (2, ov_i c), (3, ov_i l), (4, ov_i x4), (5, ov_i x5)]) (st2 := [ov_i x5, ov_r 7]) (pc2 := 21) b_190_19_1 rfl rfl ?_
        refine ov_iald d_190_21 (zb_7 I) (zs_7 I) (by omega) ?_
        have g8 := ra_7 I x5
        refine ov_blk (ls2 := [(0, ov_r 4), (1, ov_i w), (2, ov_i c), (3, ov_i l), (4, ov_i x4), (5, ov_i x5)]) (st2 := [ov_i w, ov_i (h 7 x5)]) (pc2 := 23) b_190_22_1 rfl rfl ?_
        refine ov_icne (tgt := 53) d_190_23 (by decide) (by omega) (by omega) (fun c9 => ?_) (fun c9 => ?_)
        · skip
          refine ov_blk (ls2 := [(0, ov_r 4), (1, ov_i w), (2, ov_i c), (3, ov_i l), (4, ov_i x4), (5, ov_i (x5 + 1))]) (st2 := []) (pc2 := 56) b_190_53_1 rfl rfl ?_
          refine ov_goto (tgt := 6) d_190_56 (by decide) ?_
          exact ih2 x4 (x5 + 1) (by show 0 ≤ x4 ∧ x4 ≤ (x5 + 1) ∧ 0 ≤ (x5 + 1) ∧ (x5 + 1) ≤ 8; omega) (by omega)
        · skip
          refine ov_blk (ls2 := [(0, ov_r 4), (1, ov_i w), (2, ov_i c), (3, ov_i l), (4, ov_i x4), (5, ov_i x5)]) (st2 := [ov_r 4]) (pc2 := 27) b_190_26_1 rfl rfl ?_
          refine ov_getf (v := ov_r 8) d_190_27 fl_State_21 (zb_4 I) (zs_4 I) (congrArg ov_r (rg_4_9 I)) ?_
          refine ov_blk (ls2 := [(0, ov_r 4), (1, ov_i w), (2, ov_i c), (3, ov_i l), (4, ov_i x4), (5, ov_i x5)]) (st2 := [ov_i x5, ov_r 8]) (pc2 := 32) b_190_30_1 rfl rfl ?_
          refine ov_iald d_190_32 (zb_8 I) (zs_8 I) (by omega) ?_
          have g10 := ra_8 I x5
          refine ov_blk (ls2 := [(0, ov_r 4), (1, ov_i w), (2, ov_i c), (3, ov_i l), (4, ov_i x4), (5, ov_i x5)]) (st2 := [ov_i c, ov_i (h 8 x5)]) (pc2 := 34) b_190_33_1 rfl rfl ?_
          refine ov_iclt (tgt := 48) d_190_34 (by decide) (by omega) (by omega) (fun c11 => ?_) (fun c11 => ?_)
          · skip
            refine ov_blk (ls2 := [(0, ov_r 4), (1, ov_i w), (2, ov_i c), (3, ov_i l), (4, ov_i x4), (5, ov_i x5)]) (st2 := [ov_i (-1)]) (pc2 := 49) b_190_48_1 rfl rfl ?_
            exact ov_reti (st := []) d_190_49 rfl ⟨_, rfl, rfl, rfl, (by show -1 ≤ (-1) ∧ (-1) ≤ 8; omega)⟩
          · skip
            refine ov_blk (ls2 := [(0, ov_r 4), (1, ov_i w), (2, ov_i c), (3, ov_i l), (4, ov_i x4), (5, ov_i x5)]) (st2 := [ov_r 4]) (pc2 := 38) b_190_37_1 rfl rfl ?_
            refine ov_getf (v := ov_r 8) d_190_38 fl_State_21 (zb_4 I) (zs_4 I) (congrArg ov_r (rg_4_9 I)) ?_
            refine ov_blk (ls2 := [(0, ov_r 4), (1, ov_i w), (2, ov_i c), (3, ov_i l), (4, ov_i x4), (5, ov_i x5)]) (st2 := [ov_i x5, ov_r 8]) (pc2 := 43) b_190_41_1 rfl rfl ?_
            refine ov_iald d_190_43 (zb_8 I) (zs_8 I) (by omega) ?_
            refine ov_blk (ls2 := [(0, ov_r 4), (1, ov_i w), (2, ov_i c), (3, ov_i l), (4, ov_i x4), (5, ov_i x5)]) (st2 := [ov_i l, ov_i (h 8 x5)]) (pc2 := 45) b_190_44_1 rfl rfl ?_
            refine ov_icle (tgt := 50) d_190_45 (by decide) (by omega) (by omega) (fun c13 => ?_) (fun c13 => ?_)
            · skip
              refine ov_blk (ls2 := [(0, ov_r 4), (1, ov_i w), (2, ov_i c), (3, ov_i l), (4, ov_i (x4 + 1)), (5, ov_i (x5 + 1))]) (st2 := []) (pc2 := 56) b_190_50_2 rfl rfl ?_
              refine ov_goto (tgt := 6) d_190_56 (by decide) ?_
              exact ih2 (x4 + 1) (x5 + 1) (by show 0 ≤ (x4 + 1) ∧ (x4 + 1) ≤ (x5 + 1) ∧ 0 ≤ (x5 + 1) ∧ (x5 + 1) ≤ 8; omega) (by omega)
            · skip
              refine ov_blk (ls2 := [(0, ov_r 4), (1, ov_i w), (2, ov_i c), (3, ov_i l), (4, ov_i x4), (5, ov_i x5)]) (st2 := [ov_i (-1)]) (pc2 := 49) b_190_48_1 rfl rfl ?_
              exact ov_reti (st := []) d_190_49 rfl ⟨_, rfl, rfl, rfl, (by show -1 ≤ (-1) ∧ (-1) ≤ 8; omega)⟩
  exact L4 9 0 0 (by show 0 ≤ 0 ∧ 0 ≤ 0 ∧ 0 ≤ 0 ∧ 0 ≤ 8; omega) (by omega)
abbrev P_State_likelihood_4 (F : ov_H) (z : ov_Z) (h : ov_H) (w : Int) (a : Int) (b : Int) (q : Int) : Option ov_V → ov_Z → ov_H → Prop := fun r0 z' h' => ∃ r : Int, r0 = some (ov_l r) ∧ z = z' ∧ h = h' ∧ (True)
set_option maxHeartbeats 4000000 in
theorem c_State_likelihood_4 {u : ov_U} {F : ov_H} {z : ov_Z} {h : ov_H} (d : Nat) (hd : 1 ≤ d) (U : ov_cap u) (I : ov_I F z h) (w : Int) (a : Int) (b : Int) (q : Int) (g_w : ov_g w) (g_a : ov_g a) (g_b : ov_g b) (g_q : ov_g q) : ov_T u d ov_m175 [ov_r 4, ov_i w, ov_i a, ov_i b, ov_i q] z h (P_State_likelihood_4 F z h w a b q) := by
  refine ov_en rfl (Nat.le_of_ble_eq_true rfl) ?_
  show ov_R u d ov_m175 0 [(0, ov_r 4), (1, ov_i w), (2, ov_i a), (3, ov_i b), (4, ov_i q)] [] z h (P_State_likelihood_4 F z h w a b q)
  refine ov_blk (ls2 := [(0, ov_r 4), (1, ov_i w), (2, ov_i a), (3, ov_i b), (4, ov_i q), (5, ov_l 1), (7, ov_l 1), (9, ov_i 0)]) (st2 := []) (pc2 := 9) b_175_0_6 rfl rfl ?_
  have L4 : ∀ (n1 : Nat) (x5 : Int) (x7 : Int) (x9 : Int) (q3 : 0 ≤ x9 ∧ x9 ≤ 10), 10 - x9 < (n1 : Int) → ov_R u d ov_m175 9 [(0, ov_r 4), (1, ov_i w), (2, ov_i a), (3, ov_i b), (4, ov_i q), (5, ov_l x5), (7, ov_l x7), (9, ov_i x9)] [] z h (P_State_likelihood_4 F z h w a b q) := by
    intro n1
    induction n1 with
    | zero =>
      intro x5 x7 x9 q3 hn5
      exact absurd hn5 (by omega)
    | succ n1 ih2 =>
      intro x5 x7 x9 q3 hn5
      refine ov_blk (ls2 := [(0, ov_r 4), (1, ov_i w), (2, ov_i a), (3, ov_i b), (4, ov_i q), (5, ov_l x5), (7, ov_l x7), (9, ov_i x9)]) (st2 := [ov_r 4, ov_i x9]) (pc2 := 12) b_175_9_2 rfl rfl ?_
      refine ov_getf (v := ov_i (h 4 4)) d_175_12 fl_State_38 (zb_4 I) (zs_4 I) rfl ?_
      have g6 := rg_4_4 I
      refine ov_icge (tgt := 90) d_175_15 (by decide) (by omega) (by omega) (fun c7 => ?_) (fun c7 => ?_)
      · skip
        refine ov_blk (ls2 := [(0, ov_r 4), (1, ov_i w), (2, ov_i a), (3, ov_i b), (4, ov_i q), (5, ov_l x5), (7, ov_l x7), (9, ov_i x9)]) (st2 := [ov_l x5]) (pc2 := 92) b_175_90_1 rfl rfl ?_
        refine ov_havl (fun w8 gw8 qw8 => ?_)
        refine ov_blk (ls2 := [(0, ov_r 4), (1, ov_i w), (2, ov_i a), (3, ov_i b), (4, ov_i q), (5, ov_l x5), (7, ov_l x7), (9, ov_i x9)]) (st2 := [ov_l (x5 + x7), ov_l w8]) (pc2 := 97) b_175_92_3 rfl rfl ?_
        refine ov_havl (fun w9 gw9 qw9 => ?_)
        refine ov_cSN (as := [ov_l w8, ov_l w9]) (st := []) (d2 := d - 1) d_175_97 lk_State_50 rfl (Nat.le_of_ble_eq_true rfl) (by omega) (c_OF_commonDivisor (d - 1) (by omega) U I w8 w9 (by omega) (by omega)) ?_
        rintro _ _ _ ⟨v11, rfl, rfl, rfl, f10⟩
        show ov_R u d ov_m175 100 [(0, ov_r 4), (1, ov_i w), (2, ov_i a), (3, ov_i b), (4, ov_i q), (5, ov_l x5), (7, ov_l x7), (9, ov_i x9)] [ov_l v11] z h (P_State_likelihood_4 F z h w a b q)
        have f12 : (ov_gl v11) ∧ (0 ≤ w8 → 0 ≤ w9 → 0 ≤ v11) := f10
        clear f10
        refine ov_blk (ls2 := [(0, ov_r 4), (1, ov_i w), (2, ov_i a), (3, ov_i b), (4, ov_i q), (5, ov_l x5), (7, ov_l x7), (9, ov_l v11)]) (st2 := [ov_i (ov_lcmp v11 0)]) (pc2 := 106) b_175_100_4 rfl rfl ?_
        have g13 := ov_lcg v11 0
        have g14 := ov_lcs (a := v11) (b := 0) (by omega) (by omega)
        refine ov_ifne (tgt := 113) d_175_106 (by decide) (by omega) (fun c15 => ?_) (fun c15 => ?_)
        · skip
          refine ov_blk (ls2 := [(0, ov_r 4), (1, ov_i w), (2, ov_i a), (3, ov_i b), (4, ov_i q), (5, ov_l x5), (7, ov_l x7), (9, ov_l v11)]) (st2 := [ov_i q]) (pc2 := 115) b_175_113_1 rfl rfl ?_
          refine ov_ifne (tgt := 126) d_175_115 (by decide) (by omega) (fun c16 => ?_) (fun c16 => ?_)
          · skip
            refine ov_blk (ls2 := [(0, ov_r 4), (1, ov_i w), (2, ov_i a), (3, ov_i b), (4, ov_i q), (5, ov_l x5), (7, ov_l x7), (9, ov_l v11)]) (st2 := [ov_l (x5 + x7)]) (pc2 := 131) b_175_126_3 rfl rfl ?_
            refine ov_havl (fun w17 gw17 qw17 => ?_)
            refine ov_blk (ls2 := [(0, ov_r 4), (1, ov_i w), (2, ov_i a), (3, ov_i b), (4, ov_i q), (5, ov_l x5), (7, ov_l x7), (9, ov_l v11)]) (st2 := [ov_l v11, ov_l w17]) (pc2 := 133) b_175_131_1 rfl rfl ?_
            refine ov_ldiv d_175_133 (by omega) (by omega) (by omega) ?_
            exact ov_retl (st := []) d_175_134 rfl ⟨_, rfl, rfl, rfl, trivial⟩
          · skip
            refine ov_blk (ls2 := [(0, ov_r 4), (1, ov_i w), (2, ov_i a), (3, ov_i b), (4, ov_i q), (5, ov_l x5), (7, ov_l x7), (9, ov_l v11)]) (st2 := [ov_l x5]) (pc2 := 120) b_175_118_1 rfl rfl ?_
            refine ov_havl (fun w18 gw18 qw18 => ?_)
            refine ov_blk (ls2 := [(0, ov_r 4), (1, ov_i w), (2, ov_i a), (3, ov_i b), (4, ov_i q), (5, ov_l x5), (7, ov_l x7), (9, ov_l v11)]) (st2 := [ov_l v11, ov_l w18]) (pc2 := 122) b_175_120_1 rfl rfl ?_
            refine ov_ldiv d_175_122 (by omega) (by omega) (by omega) ?_
            refine ov_goto (tgt := 134) d_175_123 (by decide) ?_
            exact ov_retl (st := []) d_175_134 rfl ⟨_, rfl, rfl, rfl, trivial⟩
        · skip
          refine ov_ldc2 (n := (-1)) d_175_109 kc_State_54 ?_
          exact ov_retl (st := []) d_175_112 rfl ⟨_, rfl, rfl, rfl, trivial⟩
      · skip
        refine ov_blk (ls2 := [(0, ov_r 4), (1, ov_i w), (2, ov_i a), (3, ov_i b), (4, ov_i q), (5, ov_l x5), (7, ov_l x7), (9, ov_i x9)]) (st2 := [ov_r 4]) (pc2 := 19) b_175_18_1 rfl rfl ?_
        refine ov_getf (v := ov_r 5) d_175_19 fl_State_11 (zb_4 I) (zs_4 I) (congrArg ov_r (rg_4_6 I)) ?_
        refine ov_blk (ls2 := [(0, ov_r 4), (1, ov_i w), (2, ov_i a), (3, ov_i b), (4, ov_i q), (5, ov_l x5), (7, ov_l x7), (9, ov_i x9)]) (st2 := [ov_i x9, ov_r 5]) (pc2 := 24) b_175_22_1 rfl rfl ?_
        refine ov_iald d_175_24 (zb_5 I) (zs_5 I) (by omega) ?_
        have g19 := ra_5 I x9
        refine ov_blk (ls2 := [(0, ov_r 4), (1, ov_i w), (2, ov_i a), (3, ov_i b), (4, ov_i q), (5, ov_l x5), (7, ov_l x7), (9, ov_i x9)]) (st2 := [ov_i w, ov_i (h 5 x9)]) (pc2 := 26) b_175_25_1 rfl rfl ?_
        refine ov_icne (tgt := 84) d_175_26 (by decide) (by omega) (by omega) (fun c20 => ?_) (fun c20 => ?_)
        · skip
          refine ov_blk (ls2 := [(0, ov_r 4), (1, ov_i w), (2, ov_i a), (3, ov_i b), (4, ov_i q), (5, ov_l x5), (7, ov_l x7), (9, ov_i (x9 + 1))]) (st2 := []) (pc2 := 87) b_175_84_1 rfl rfl ?_
          refine ov_goto (tgt := 9) d_175_87 (by decide) ?_
          exact ih2 x5 x7 (x9 + 1) (by show 0 ≤ (x9 + 1) ∧ (x9 + 1) ≤ 10; omega) (by omega)
        · skip
          refine ov_blk (ls2 := [(0, ov_r 4), (1, ov_i w), (2, ov_i a), (3, ov_i b), (4, ov_i q), (5, ov_l x5), (7, ov_l x7), (9, ov_i x9)]) (st2 := [ov_r 4]) (pc2 := 30) b_175_29_1 rfl rfl ?_
          refine ov_getf (v := ov_r 6) d_175_30 fl_State_15 (zb_4 I) (zs_4 I) (congrArg ov_r (rg_4_7 I)) ?_
          refine ov_blk (ls2 := [(0, ov_r 4), (1, ov_i w), (2, ov_i a), (3, ov_i b), (4, ov_i q), (5, ov_l x5), (7, ov_l x7), (9, ov_i x9)]) (st2 := [ov_i x9, ov_r 6]) (pc2 := 35) b_175_33_1 rfl rfl ?_
          refine ov_iald d_175_35 (zb_6 I) (zs_6 I) (by omega) ?_
          have g21 := ra_6 I x9
          refine ov_blk (ls2 := [(0, ov_r 4), (1, ov_i w), (2, ov_i a), (3, ov_i b), (4, ov_i q), (5, ov_l x5), (7, ov_l x7), (9, ov_i x9)]) (st2 := [ov_i (-1), ov_i (h 6 x9)]) (pc2 := 37) b_175_36_1 rfl rfl ?_
          refine ov_iceq (tgt := 84) d_175_37 (by decide) (by omega) (by omega) (fun c22 => ?_) (fun c22 => ?_)
          · skip
            refine ov_blk (ls2 := [(0, ov_r 4), (1, ov_i w), (2, ov_i a), (3, ov_i b), (4, ov_i q), (5, ov_l x5), (7, ov_l x7), (9, ov_i (x9 + 1))]) (st2 := []) (pc2 := 87) b_175_84_1 rfl rfl ?_
            refine ov_goto (tgt := 9) d_175_87 (by decide) ?_
            exact ih2 x5 x7 (x9 + 1) (by show 0 ≤ (x9 + 1) ∧ (x9 + 1) ≤ 10; omega) (by omega)
          · skip
            refine ov_blk (ls2 := [(0, ov_r 4), (1, ov_i w), (2, ov_i a), (3, ov_i b), (4, ov_i q), (5, ov_l x5), (7, ov_l x7), (9, ov_i x9)]) (st2 := [ov_r 4, ov_l x5]) (pc2 := 43) b_175_40_2 rfl rfl ?_
            refine ov_getf (v := ov_r 6) d_175_43 fl_State_15 (zb_4 I) (zs_4 I) (congrArg ov_r (rg_4_7 I)) ?_
            refine ov_blk (ls2 := [(0, ov_r 4), (1, ov_i w), (2, ov_i a), (3, ov_i b), (4, ov_i q), (5, ov_l x5), (7, ov_l x7), (9, ov_i x9)]) (st2 := [ov_i x9, ov_r 6, ov_l x5]) (pc2 := 48) b_175_46_1 rfl rfl ?_
            refine ov_iald d_175_48 (zb_6 I) (zs_6 I) (by omega) ?_
            refine ov_blk (ls2 := [(0, ov_r 4), (1, ov_i w), (2, ov_i a), (3, ov_i b), (4, ov_i q), (5, ov_l x5), (7, ov_l x7), (9, ov_i x9)]) (st2 := [ov_i b, ov_i (h 6 x9), ov_l x5]) (pc2 := 50) b_175_49_1 rfl rfl ?_
            refine ov_icge (tgt := 58) d_175_50 (by decide) (by omega) (by omega) (fun c24 => ?_) (fun c24 => ?_)
            · skip
              refine ov_blk (ls2 := [(0, ov_r 4), (1, ov_i w), (2, ov_i a), (3, ov_i b), (4, ov_i q), (5, ov_l (x5 * 0)), (7, ov_l x7), (9, ov_i x9)]) (st2 := [ov_r 4, ov_l x7]) (pc2 := 65) b_175_58_5 rfl rfl ?_
              refine ov_getf (v := ov_r 6) d_175_65 fl_State_15 (zb_4 I) (zs_4 I) (congrArg ov_r (rg_4_7 I)) ?_
              refine ov_blk (ls2 := [(0, ov_r 4), (1, ov_i w), (2, ov_i a), (3, ov_i b), (4, ov_i q), (5, ov_l (x5 * 0)), (7, ov_l x7), (9, ov_i x9)]) (st2 := [ov_i x9, ov_r 6, ov_l x7]) (pc2 := 70) b_175_68_1 rfl rfl ?_
              refine ov_iald d_175_70 (zb_6 I) (zs_6 I) (by omega) ?_
              refine ov_blk (ls2 := [(0, ov_r 4), (1, ov_i w), (2, ov_i a), (3, ov_i b), (4, ov_i q), (5, ov_l (x5 * 0)), (7, ov_l x7), (9, ov_i x9)]) (st2 := [ov_i a, ov_i (h 6 x9), ov_l x7]) (pc2 := 72) b_175_71_1 rfl rfl ?_
              refine ov_icge (tgt := 80) d_175_72 (by decide) (by omega) (by omega) (fun c26 => ?_) (fun c26 => ?_)
              · skip
                refine ov_blk (ls2 := [(0, ov_r 4), (1, ov_i w), (2, ov_i a), (3, ov_i b), (4, ov_i q), (5, ov_l (x5 * 0)), (7, ov_l (x7 * 0)), (9, ov_i (x9 + 1))]) (st2 := []) (pc2 := 87) b_175_80_4 rfl rfl ?_
                refine ov_goto (tgt := 9) d_175_87 (by decide) ?_
                exact ih2 (x5 * 0) (x7 * 0) (x9 + 1) (by show 0 ≤ (x9 + 1) ∧ (x9 + 1) ≤ 10; omega) (by omega)
              · skip
                refine ov_blk (ls2 := [(0, ov_r 4), (1, ov_i w), (2, ov_i a), (3, ov_i b), (4, ov_i q), (5, ov_l (x5 * 0)), (7, ov_l x7), (9, ov_i x9)]) (st2 := [ov_l (ov_w b), ov_l x7]) (pc2 := 77) b_175_75_2 rfl rfl ?_
                have g27 := ov_wg b
                have g28 := ov_wq b
                refine ov_goto (tgt := 81) d_175_77 (by decide) ?_
                refine ov_blk (ls2 := [(0, ov_r 4), (1, ov_i w), (2, ov_i a), (3, ov_i b), (4, ov_i q), (5, ov_l (x5 * 0)), (7, ov_l (x7 * (ov_w b))), (9, ov_i (x9 + 1))]) (st2 := []) (pc2 := 87) b_175_81_3 rfl rfl ?_
                refine ov_goto (tgt := 9) d_175_87 (by decide) ?_
                exact ih2 (x5 * 0) (x7 * (ov_w b)) (x9 + 1) (by show 0 ≤ (x9 + 1) ∧ (x9 + 1) ≤ 10; omega) (by omega)
            · skip
              refine ov_blk (ls2 := [(0, ov_r 4), (1, ov_i w), (2, ov_i a), (3, ov_i b), (4, ov_i q), (5, ov_l x5), (7, ov_l x7), (9, ov_i x9)]) (st2 := [ov_l (ov_w a), ov_l x5]) (pc2 := 55) b_175_53_2 rfl rfl ?_
              have g29 := ov_wg a
              have g30 := ov_wq a
              refine ov_goto (tgt := 59) d_175_55 (by decide) ?_
              refine ov_blk (ls2 := [(0, ov_r 4), (1, ov_i w), (2, ov_i a), (3, ov_i b), (4, ov_i q), (5, ov_l (x5 * (ov_w a))), (7, ov_l x7), (9, ov_i x9)]) (st2 := [ov_r 4, ov_l x7]) (pc2 := 65) b_175_59_4 rfl rfl ?_
              refine ov_getf (v := ov_r 6) d_175_65 fl_State_15 (zb_4 I) (zs_4 I) (congrArg ov_r (rg_4_7 I)) ?_
              refine ov_blk (ls2 := [(0, ov_r 4), (1, ov_i w), (2, ov_i a), (3, ov_i b), (4, ov_i q), (5, ov_l (x5 * (ov_w a))), (7, ov_l x7), (9, ov_i x9)]) (st2 := [ov_i x9, ov_r 6, ov_l x7]) (pc2 := 70) b_175_68_1 rfl rfl ?_
              refine ov_iald d_175_70 (zb_6 I) (zs_6 I) (by omega) ?_
              refine ov_blk (ls2 := [(0, ov_r 4), (1, ov_i w), (2, ov_i a), (3, ov_i b), (4, ov_i q), (5, ov_l (x5 * (ov_w a))), (7, ov_l x7), (9, ov_i x9)]) (st2 := [ov_i a, ov_i (h 6 x9), ov_l x7]) (pc2 := 72) b_175_71_1 rfl rfl ?_
              refine ov_icge (tgt := 80) d_175_72 (by decide) (by omega) (by omega) (fun c32 => ?_) (fun c32 => ?_)
              · skip
                refine ov_blk (ls2 := [(0, ov_r 4), (1, ov_i w), (2, ov_i a), (3, ov_i b), (4, ov_i q), (5, ov_l (x5 * (ov_w a))), (7, ov_l (x7 * 0)), (9, ov_i (x9 + 1))]) (st2 := []) (pc2 := 87) b_175_80_4 rfl rfl ?_
                refine ov_goto (tgt := 9) d_175_87 (by decide) ?_
                exact ih2 (x5 * (ov_w a)) (x7 * 0) (x9 + 1) (by show 0 ≤ (x9 + 1) ∧ (x9 + 1) ≤ 10; omega) (by omega)
              · skip
                refine ov_blk (ls2 := [(0, ov_r 4), (1, ov_i w), (2, ov_i a), (3, ov_i b), (4, ov_i q), (5, ov_l (x5 * (ov_w a))), (7, ov_l x7), (9, ov_i x9)]) (st2 := [ov_l (ov_w b), ov_l x7]) (pc2 := 77) b_175_75_2 rfl rfl ?_
                have g33 := ov_wg b
                have g34 := ov_wq b
                refine ov_goto (tgt := 81) d_175_77 (by decide) ?_
                refine ov_blk (ls2 := [(0, ov_r 4), (1, ov_i w), (2, ov_i a), (3, ov_i b), (4, ov_i q), (5, ov_l (x5 * (ov_w a))), (7, ov_l (x7 * (ov_w b))), (9, ov_i (x9 + 1))]) (st2 := []) (pc2 := 87) b_175_81_3 rfl rfl ?_
                refine ov_goto (tgt := 9) d_175_87 (by decide) ?_
                exact ih2 (x5 * (ov_w a)) (x7 * (ov_w b)) (x9 + 1) (by show 0 ≤ (x9 + 1) ∧ (x9 + 1) ≤ 10; omega) (by omega)
  exact L4 11 1 1 0 (by show 0 ≤ 0 ∧ 0 ≤ 10; omega) (by omega)
abbrev P_State_clear_15 (F : ov_H) (z : ov_Z) (h : ov_H)  : Option ov_V → ov_Z → ov_H → Prop := fun r0 z' h' => r0 = none ∧ ov_I F z' h' ∧ ((h' 36 7) = (h 36 7) ∧ (h' 1 1) = (h 1 1) ∧ (h' 90 2) = (h 90 2) ∧ (h' 0 10) = (h 0 10) ∧ (h' 0 11) = (h 0 11) ∧ (h' 0 12) = (h 0 12) ∧ (h' 0 13) = (h 0 13) ∧ (h' 3 1) = (h 3 1) ∧ (h' 36 8) = (h 36 8) ∧ (h' 46 3) = (h 46 3) ∧ (h' 46 4) = (h 46 4) ∧ (h' 49 4) = (h 49 4) ∧ (h' 49 5) = (h 49 5) ∧ (h' 64 0) = (h 64 0) ∧ (h' 76 0) = (h 76 0))
set_option maxHeartbeats 4000000 in
theorem c_State_clear_15 {u : ov_U} {F : ov_H} {z : ov_Z} {h : ov_H} (d : Nat) (hd : 0 ≤ d) (U : ov_cap u) (I : ov_I F z h) (hw : ov_kw 32768 F) : ov_T u d ov_m81 [ov_r 15] z h (P_State_clear_15 F z h) := by
  refine ov_en rfl (Nat.le_of_ble_eq_true rfl) ?_
  show ov_R u d ov_m81 0 [(0, ov_r 15)] [] z h (P_State_clear_15 F z h)
  refine ov_blk (ls2 := [(0, ov_r 15)]) (st2 := [ov_i 0, ov_r 15]) (pc2 := 2) b_81_0_2 rfl rfl ?_
  refine ov_putf (x := 0) d_81_2 fl_State_24 (zb_15 I) (zs_15 I) rfl nk_0 rfl ?_
  have I1 := up_15_0 (x := 0) I (by omega) (hw 15 (by decide +kernel))
  refine ov_blk (ls2 := [(0, ov_r 15)]) (st2 := [ov_i 0, ov_r 15]) (pc2 := 7) b_81_5_2 rfl rfl ?_
  refine ov_putf (x := 0) d_81_7 fl_State_28 (zb_15 I1) (zs_15 I1) rfl nk_0 rfl ?_
  have I2 := up_15_1 (x := 0) I1 (by omega) (hw 15 (by decide +kernel))
  refine ov_blk (ls2 := [(0, ov_r 15)]) (st2 := [ov_i 0, ov_r 15]) (pc2 := 12) b_81_10_2 rfl rfl ?_
  refine ov_putf (x := 0) d_81_12 fl_State_31 (zb_15 I2) (zs_15 I2) rfl nk_0 rfl ?_
  have I3 := up_15_2 (x := 0) I2 (by omega) (hw 15 (by decide +kernel))
  refine ov_blk (ls2 := [(0, ov_r 15)]) (st2 := [ov_l 0, ov_r 15]) (pc2 := 17) b_81_15_2 rfl rfl ?_
  refine ov_putf (x := 0) d_81_17 fl_State_34 (zb_15 I3) (zs_15 I3) rfl nk_1 rfl ?_
  have I4 := up_15_3 (x := 0) I3 (hw 15 (by decide +kernel))
  refine ov_blk (ls2 := [(0, ov_r 15)]) (st2 := [ov_i 0, ov_r 15]) (pc2 := 22) b_81_20_2 rfl rfl ?_
  refine ov_putf (x := 0) d_81_22 fl_State_38 (zb_15 I4) (zs_15 I4) rfl nk_0 rfl ?_
  have I5 := up_15_4 (x := 0) I4 (by omega) (hw 15 (by decide +kernel))
  refine ov_blk (ls2 := [(0, ov_r 15)]) (st2 := [ov_i 0, ov_r 15]) (pc2 := 27) b_81_25_2 rfl rfl ?_
  refine ov_putf (x := 0) d_81_27 fl_State_41 (zb_15 I5) (zs_15 I5) rfl nk_0 rfl ?_
  have I6 := up_15_5 (x := 0) I5 (by omega) (hw 15 (by decide +kernel))
  exact ov_retv (st := []) d_81_30 rfl ⟨rfl, I6, (by show (h 36 7) = (h 36 7) ∧ (h 1 1) = (h 1 1) ∧ (h 90 2) = (h 90 2) ∧ (h 0 10) = (h 0 10) ∧ (h 0 11) = (h 0 11) ∧ (h 0 12) = (h 0 12) ∧ (h 0 13) = (h 0 13) ∧ (h 3 1) = (h 3 1) ∧ (h 36 8) = (h 36 8) ∧ (h 46 3) = (h 46 3) ∧ (h 46 4) = (h 46 4) ∧ (h 49 4) = (h 49 4) ∧ (h 49 5) = (h 49 5) ∧ (h 64 0) = (h 64 0) ∧ (h 76 0) = (h 76 0); omega)⟩
abbrev P_State_clear_20 (F : ov_H) (z : ov_Z) (h : ov_H)  : Option ov_V → ov_Z → ov_H → Prop := fun r0 z' h' => r0 = none ∧ ov_I F z' h' ∧ ((h' 36 7) = (h 36 7) ∧ (h' 1 1) = (h 1 1) ∧ (h' 90 2) = (h 90 2) ∧ (h' 0 10) = (h 0 10) ∧ (h' 0 11) = (h 0 11) ∧ (h' 0 12) = (h 0 12) ∧ (h' 0 13) = (h 0 13) ∧ (h' 3 1) = (h 3 1) ∧ (h' 36 8) = (h 36 8) ∧ (h' 46 3) = (h 46 3) ∧ (h' 46 4) = (h 46 4) ∧ (h' 49 4) = (h 49 4) ∧ (h' 49 5) = (h 49 5) ∧ (h' 64 0) = (h 64 0) ∧ (h' 76 0) = (h 76 0))
set_option maxHeartbeats 4000000 in
theorem c_State_clear_20 {u : ov_U} {F : ov_H} {z : ov_Z} {h : ov_H} (d : Nat) (hd : 0 ≤ d) (U : ov_cap u) (I : ov_I F z h) (hw : ov_kw 1048576 F) : ov_T u d ov_m81 [ov_r 20] z h (P_State_clear_20 F z h) := by
  refine ov_en rfl (Nat.le_of_ble_eq_true rfl) ?_
  show ov_R u d ov_m81 0 [(0, ov_r 20)] [] z h (P_State_clear_20 F z h)
  refine ov_blk (ls2 := [(0, ov_r 20)]) (st2 := [ov_i 0, ov_r 20]) (pc2 := 2) b_81_0_2 rfl rfl ?_
  refine ov_putf (x := 0) d_81_2 fl_State_24 (zb_20 I) (zs_20 I) rfl nk_0 rfl ?_
  have I1 := up_20_0 (x := 0) I (by omega) (hw 20 (by decide +kernel))
  refine ov_blk (ls2 := [(0, ov_r 20)]) (st2 := [ov_i 0, ov_r 20]) (pc2 := 7) b_81_5_2 rfl rfl ?_
  refine ov_putf (x := 0) d_81_7 fl_State_28 (zb_20 I1) (zs_20 I1) rfl nk_0 rfl ?_
  have I2 := up_20_1 (x := 0) I1 (by omega) (hw 20 (by decide +kernel))
  refine ov_blk (ls2 := [(0, ov_r 20)]) (st2 := [ov_i 0, ov_r 20]) (pc2 := 12) b_81_10_2 rfl rfl ?_
  refine ov_putf (x := 0) d_81_12 fl_State_31 (zb_20 I2) (zs_20 I2) rfl nk_0 rfl ?_
  have I3 := up_20_2 (x := 0) I2 (by omega) (hw 20 (by decide +kernel))
  refine ov_blk (ls2 := [(0, ov_r 20)]) (st2 := [ov_l 0, ov_r 20]) (pc2 := 17) b_81_15_2 rfl rfl ?_
  refine ov_putf (x := 0) d_81_17 fl_State_34 (zb_20 I3) (zs_20 I3) rfl nk_1 rfl ?_
  have I4 := up_20_3 (x := 0) I3 (hw 20 (by decide +kernel))
  refine ov_blk (ls2 := [(0, ov_r 20)]) (st2 := [ov_i 0, ov_r 20]) (pc2 := 22) b_81_20_2 rfl rfl ?_
  refine ov_putf (x := 0) d_81_22 fl_State_38 (zb_20 I4) (zs_20 I4) rfl nk_0 rfl ?_
  have I5 := up_20_4 (x := 0) I4 (by omega) (hw 20 (by decide +kernel))
  refine ov_blk (ls2 := [(0, ov_r 20)]) (st2 := [ov_i 0, ov_r 20]) (pc2 := 27) b_81_25_2 rfl rfl ?_
  refine ov_putf (x := 0) d_81_27 fl_State_41 (zb_20 I5) (zs_20 I5) rfl nk_0 rfl ?_
  have I6 := up_20_5 (x := 0) I5 (by omega) (hw 20 (by decide +kernel))
  exact ov_retv (st := []) d_81_30 rfl ⟨rfl, I6, (by show (h 36 7) = (h 36 7) ∧ (h 1 1) = (h 1 1) ∧ (h 90 2) = (h 90 2) ∧ (h 0 10) = (h 0 10) ∧ (h 0 11) = (h 0 11) ∧ (h 0 12) = (h 0 12) ∧ (h 0 13) = (h 0 13) ∧ (h 3 1) = (h 3 1) ∧ (h 36 8) = (h 36 8) ∧ (h 46 3) = (h 46 3) ∧ (h 46 4) = (h 46 4) ∧ (h 49 4) = (h 49 4) ∧ (h 49 5) = (h 49 5) ∧ (h 64 0) = (h 64 0) ∧ (h 76 0) = (h 76 0); omega)⟩
abbrev P_State_clear_25 (F : ov_H) (z : ov_Z) (h : ov_H)  : Option ov_V → ov_Z → ov_H → Prop := fun r0 z' h' => r0 = none ∧ ov_I F z' h' ∧ ((h' 36 7) = (h 36 7) ∧ (h' 1 1) = (h 1 1) ∧ (h' 90 2) = (h 90 2) ∧ (h' 0 10) = (h 0 10) ∧ (h' 0 11) = (h 0 11) ∧ (h' 0 12) = (h 0 12) ∧ (h' 0 13) = (h 0 13) ∧ (h' 3 1) = (h 3 1) ∧ (h' 36 8) = (h 36 8) ∧ (h' 46 3) = (h 46 3) ∧ (h' 46 4) = (h 46 4) ∧ (h' 49 4) = (h 49 4) ∧ (h' 49 5) = (h 49 5) ∧ (h' 64 0) = (h 64 0) ∧ (h' 76 0) = (h 76 0))
set_option maxHeartbeats 4000000 in
theorem c_State_clear_25 {u : ov_U} {F : ov_H} {z : ov_Z} {h : ov_H} (d : Nat) (hd : 0 ≤ d) (U : ov_cap u) (I : ov_I F z h) (hw : ov_kw 33554432 F) : ov_T u d ov_m81 [ov_r 25] z h (P_State_clear_25 F z h) := by
  refine ov_en rfl (Nat.le_of_ble_eq_true rfl) ?_
  show ov_R u d ov_m81 0 [(0, ov_r 25)] [] z h (P_State_clear_25 F z h)
  refine ov_blk (ls2 := [(0, ov_r 25)]) (st2 := [ov_i 0, ov_r 25]) (pc2 := 2) b_81_0_2 rfl rfl ?_
  refine ov_putf (x := 0) d_81_2 fl_State_24 (zb_25 I) (zs_25 I) rfl nk_0 rfl ?_
  have I1 := up_25_0 (x := 0) I (by omega) (hw 25 (by decide +kernel))
  refine ov_blk (ls2 := [(0, ov_r 25)]) (st2 := [ov_i 0, ov_r 25]) (pc2 := 7) b_81_5_2 rfl rfl ?_
  refine ov_putf (x := 0) d_81_7 fl_State_28 (zb_25 I1) (zs_25 I1) rfl nk_0 rfl ?_
  have I2 := up_25_1 (x := 0) I1 (by omega) (hw 25 (by decide +kernel))
  refine ov_blk (ls2 := [(0, ov_r 25)]) (st2 := [ov_i 0, ov_r 25]) (pc2 := 12) b_81_10_2 rfl rfl ?_
  refine ov_putf (x := 0) d_81_12 fl_State_31 (zb_25 I2) (zs_25 I2) rfl nk_0 rfl ?_
  have I3 := up_25_2 (x := 0) I2 (by omega) (hw 25 (by decide +kernel))
  refine ov_blk (ls2 := [(0, ov_r 25)]) (st2 := [ov_l 0, ov_r 25]) (pc2 := 17) b_81_15_2 rfl rfl ?_
  refine ov_putf (x := 0) d_81_17 fl_State_34 (zb_25 I3) (zs_25 I3) rfl nk_1 rfl ?_
  have I4 := up_25_3 (x := 0) I3 (hw 25 (by decide +kernel))
  refine ov_blk (ls2 := [(0, ov_r 25)]) (st2 := [ov_i 0, ov_r 25]) (pc2 := 22) b_81_20_2 rfl rfl ?_
  refine ov_putf (x := 0) d_81_22 fl_State_38 (zb_25 I4) (zs_25 I4) rfl nk_0 rfl ?_
  have I5 := up_25_4 (x := 0) I4 (by omega) (hw 25 (by decide +kernel))
  refine ov_blk (ls2 := [(0, ov_r 25)]) (st2 := [ov_i 0, ov_r 25]) (pc2 := 27) b_81_25_2 rfl rfl ?_
  refine ov_putf (x := 0) d_81_27 fl_State_41 (zb_25 I5) (zs_25 I5) rfl nk_0 rfl ?_
  have I6 := up_25_5 (x := 0) I5 (by omega) (hw 25 (by decide +kernel))
  exact ov_retv (st := []) d_81_30 rfl ⟨rfl, I6, (by show (h 36 7) = (h 36 7) ∧ (h 1 1) = (h 1 1) ∧ (h 90 2) = (h 90 2) ∧ (h 0 10) = (h 0 10) ∧ (h 0 11) = (h 0 11) ∧ (h 0 12) = (h 0 12) ∧ (h 0 13) = (h 0 13) ∧ (h 3 1) = (h 3 1) ∧ (h 36 8) = (h 36 8) ∧ (h 46 3) = (h 46 3) ∧ (h 46 4) = (h 46 4) ∧ (h 49 4) = (h 49 4) ∧ (h 49 5) = (h 49 5) ∧ (h 64 0) = (h 64 0) ∧ (h 76 0) = (h 76 0); omega)⟩
abbrev P_State_clear_30 (F : ov_H) (z : ov_Z) (h : ov_H)  : Option ov_V → ov_Z → ov_H → Prop := fun r0 z' h' => r0 = none ∧ ov_I F z' h' ∧ ((h' 36 7) = (h 36 7) ∧ (h' 1 1) = (h 1 1) ∧ (h' 90 2) = (h 90 2) ∧ (h' 0 10) = (h 0 10) ∧ (h' 0 11) = (h 0 11) ∧ (h' 0 12) = (h 0 12) ∧ (h' 0 13) = (h 0 13) ∧ (h' 3 1) = (h 3 1) ∧ (h' 36 8) = (h 36 8) ∧ (h' 46 3) = (h 46 3) ∧ (h' 46 4) = (h 46 4) ∧ (h' 49 4) = (h 49 4) ∧ (h' 49 5) = (h 49 5) ∧ (h' 64 0) = (h 64 0) ∧ (h' 76 0) = (h 76 0))
set_option maxHeartbeats 4000000 in
theorem c_State_clear_30 {u : ov_U} {F : ov_H} {z : ov_Z} {h : ov_H} (d : Nat) (hd : 0 ≤ d) (U : ov_cap u) (I : ov_I F z h) (hw : ov_kw 1073741824 F) : ov_T u d ov_m81 [ov_r 30] z h (P_State_clear_30 F z h) := by
  refine ov_en rfl (Nat.le_of_ble_eq_true rfl) ?_
  show ov_R u d ov_m81 0 [(0, ov_r 30)] [] z h (P_State_clear_30 F z h)
  refine ov_blk (ls2 := [(0, ov_r 30)]) (st2 := [ov_i 0, ov_r 30]) (pc2 := 2) b_81_0_2 rfl rfl ?_
  refine ov_putf (x := 0) d_81_2 fl_State_24 (zb_30 I) (zs_30 I) rfl nk_0 rfl ?_
  have I1 := up_30_0 (x := 0) I (by omega) (hw 30 (by decide +kernel))
  refine ov_blk (ls2 := [(0, ov_r 30)]) (st2 := [ov_i 0, ov_r 30]) (pc2 := 7) b_81_5_2 rfl rfl ?_
  refine ov_putf (x := 0) d_81_7 fl_State_28 (zb_30 I1) (zs_30 I1) rfl nk_0 rfl ?_
  have I2 := up_30_1 (x := 0) I1 (by omega) (hw 30 (by decide +kernel))
  refine ov_blk (ls2 := [(0, ov_r 30)]) (st2 := [ov_i 0, ov_r 30]) (pc2 := 12) b_81_10_2 rfl rfl ?_
  refine ov_putf (x := 0) d_81_12 fl_State_31 (zb_30 I2) (zs_30 I2) rfl nk_0 rfl ?_
  have I3 := up_30_2 (x := 0) I2 (by omega) (hw 30 (by decide +kernel))
  refine ov_blk (ls2 := [(0, ov_r 30)]) (st2 := [ov_l 0, ov_r 30]) (pc2 := 17) b_81_15_2 rfl rfl ?_
  refine ov_putf (x := 0) d_81_17 fl_State_34 (zb_30 I3) (zs_30 I3) rfl nk_1 rfl ?_
  have I4 := up_30_3 (x := 0) I3 (hw 30 (by decide +kernel))
  refine ov_blk (ls2 := [(0, ov_r 30)]) (st2 := [ov_i 0, ov_r 30]) (pc2 := 22) b_81_20_2 rfl rfl ?_
  refine ov_putf (x := 0) d_81_22 fl_State_38 (zb_30 I4) (zs_30 I4) rfl nk_0 rfl ?_
  have I5 := up_30_4 (x := 0) I4 (by omega) (hw 30 (by decide +kernel))
  refine ov_blk (ls2 := [(0, ov_r 30)]) (st2 := [ov_i 0, ov_r 30]) (pc2 := 27) b_81_25_2 rfl rfl ?_
  refine ov_putf (x := 0) d_81_27 fl_State_41 (zb_30 I5) (zs_30 I5) rfl nk_0 rfl ?_
  have I6 := up_30_5 (x := 0) I5 (by omega) (hw 30 (by decide +kernel))
  exact ov_retv (st := []) d_81_30 rfl ⟨rfl, I6, (by show (h 36 7) = (h 36 7) ∧ (h 1 1) = (h 1 1) ∧ (h 90 2) = (h 90 2) ∧ (h 0 10) = (h 0 10) ∧ (h 0 11) = (h 0 11) ∧ (h 0 12) = (h 0 12) ∧ (h 0 13) = (h 0 13) ∧ (h 3 1) = (h 3 1) ∧ (h 36 8) = (h 36 8) ∧ (h 46 3) = (h 46 3) ∧ (h 46 4) = (h 46 4) ∧ (h 49 4) = (h 49 4) ∧ (h 49 5) = (h 49 5) ∧ (h 64 0) = (h 64 0) ∧ (h 76 0) = (h 76 0); omega)⟩
abbrev P_State_copy_4_15 (F : ov_H) (z : ov_Z) (h : ov_H)  : Option ov_V → ov_Z → ov_H → Prop := fun r0 z' h' => r0 = none ∧ ov_I F z' h' ∧ ((h' 36 7) = (h 36 7) ∧ (h' 1 1) = (h 1 1) ∧ (h' 90 2) = (h 90 2) ∧ (h' 0 10) = (h 0 10) ∧ (h' 0 11) = (h 0 11) ∧ (h' 0 12) = (h 0 12) ∧ (h' 0 13) = (h 0 13) ∧ (h' 3 1) = (h 3 1) ∧ (h' 36 8) = (h 36 8) ∧ (h' 46 3) = (h 46 3) ∧ (h' 46 4) = (h 46 4) ∧ (h' 49 4) = (h 49 4) ∧ (h' 49 5) = (h 49 5) ∧ (h' 64 0) = (h 64 0) ∧ (h' 76 0) = (h 76 0))
set_option maxHeartbeats 4000000 in
theorem c_State_copy_4_15 {u : ov_U} {F : ov_H} {z : ov_Z} {h : ov_H} (d : Nat) (hd : 2 ≤ d) (U : ov_cap u) (I : ov_I F z h) (hw : ov_kw 496 F) : ov_T u d ov_m197 [ov_r 4, ov_r 15] z h (P_State_copy_4_15 F z h) := by
  refine ov_en rfl (Nat.le_of_ble_eq_true rfl) ?_
  show ov_R u d ov_m197 0 [(0, ov_r 4), (1, ov_r 15)] [] z h (P_State_copy_4_15 F z h)
  refine ov_blk (ls2 := [(0, ov_r 4), (1, ov_r 15)]) (st2 := [ov_r 15, ov_r 4]) (pc2 := 2) b_197_0_2 rfl rfl ?_
  refine ov_getf (v := ov_i (h 15 0)) d_197_2 fl_State_24 (zb_15 I) (zs_15 I) rfl ?_
  have g1 := rg_15_0 I
  refine ov_putf (x := (h 15 0)) d_197_5 fl_State_24 (zb_4 I) (zs_4 I) rfl nk_0 rfl ?_
  have I2 := up_4_0 (x := (h 15 0)) I (by omega) (hw 4 (by decide +kernel))
  refine ov_blk (ls2 := [(0, ov_r 4), (1, ov_r 15)]) (st2 := [ov_r 15, ov_r 4]) (pc2 := 10) b_197_8_2 rfl rfl ?_
  refine ov_getf (v := ov_i (h 15 1)) d_197_10 fl_State_28 (zb_15 I2) (zs_15 I2) rfl ?_
  have g3 := rg_15_1 I
  refine ov_putf (x := (h 15 1)) d_197_13 fl_State_28 (zb_4 I2) (zs_4 I2) rfl nk_0 rfl ?_
  have I4 := up_4_1 (x := (h 15 1)) I2 (by omega) (hw 4 (by decide +kernel))
  refine ov_blk (ls2 := [(0, ov_r 4), (1, ov_r 15)]) (st2 := [ov_r 15, ov_r 4]) (pc2 := 18) b_197_16_2 rfl rfl ?_
  refine ov_getf (v := ov_i (h 15 2)) d_197_18 fl_State_31 (zb_15 I4) (zs_15 I4) rfl ?_
  have g5 := rg_15_2 I
  refine ov_putf (x := (h 15 2)) d_197_21 fl_State_31 (zb_4 I4) (zs_4 I4) rfl nk_0 rfl ?_
  have I6 := up_4_2 (x := (h 15 2)) I4 (by omega) (hw 4 (by decide +kernel))
  refine ov_blk (ls2 := [(0, ov_r 4), (1, ov_r 15)]) (st2 := [ov_r 15, ov_r 4]) (pc2 := 26) b_197_24_2 rfl rfl ?_
  refine ov_getf (v := ov_l (h 15 3)) d_197_26 fl_State_34 (zb_15 I6) (zs_15 I6) rfl ?_
  refine ov_putf (x := (h 15 3)) d_197_29 fl_State_34 (zb_4 I6) (zs_4 I6) rfl nk_1 rfl ?_
  have I7 := up_4_3 (x := (h 15 3)) I6 (hw 4 (by decide +kernel))
  refine ov_blk (ls2 := [(0, ov_r 4), (1, ov_r 15)]) (st2 := [ov_r 15, ov_r 4]) (pc2 := 34) b_197_32_2 rfl rfl ?_
  refine ov_getf (v := ov_i (h 15 4)) d_197_34 fl_State_38 (zb_15 I7) (zs_15 I7) rfl ?_
  have g8 := rg_15_4 I
  refine ov_putf (x := (h 15 4)) d_197_37 fl_State_38 (zb_4 I7) (zs_4 I7) rfl nk_0 rfl ?_
  have I9 := up_4_4 (x := (h 15 4)) I7 (by omega) (hw 4 (by decide +kernel))
  refine ov_blk (ls2 := [(0, ov_r 4), (1, ov_r 15)]) (st2 := [ov_r 15, ov_r 4]) (pc2 := 42) b_197_40_2 rfl rfl ?_
  refine ov_getf (v := ov_i (h 15 5)) d_197_42 fl_State_41 (zb_15 I9) (zs_15 I9) rfl ?_
  have g10 := rg_15_5 I
  refine ov_putf (x := (h 15 5)) d_197_45 fl_State_41 (zb_4 I9) (zs_4 I9) rfl nk_0 rfl ?_
  have I11 := up_4_5 (x := (h 15 5)) I9 (by omega) (hw 4 (by decide +kernel))
  refine ov_blk (ls2 := [(0, ov_r 4), (1, ov_r 15)]) (st2 := [ov_r 15]) (pc2 := 49) b_197_48_1 rfl rfl ?_
  refine ov_getf (v := ov_r 16) d_197_49 fl_State_11 (zb_15 I11) (zs_15 I11) (congrArg ov_r (rg_15_6 I11)) ?_
  refine ov_blk (ls2 := [(0, ov_r 4), (1, ov_r 15)]) (st2 := [ov_r 4, ov_i 0, ov_r 16]) (pc2 := 54) b_197_52_2 rfl rfl ?_
  refine ov_getf (v := ov_r 5) d_197_54 fl_State_11 (zb_4 I11) (zs_4 I11) (congrArg ov_r (rg_4_6 I11)) ?_
  refine ov_blk (ls2 := [(0, ov_r 4), (1, ov_r 15)]) (st2 := [ov_i 10, ov_i 0, ov_r 5, ov_i 0, ov_r 16]) (pc2 := 60) b_197_57_2 rfl rfl ?_
  refine ov_acp d_197_60 la_State_44 la_1 la_2 la_3 (zb_16 I11) (zs_16 I11) (zb_5 I11) (zs_5 I11) (by omega) (Nat.le_of_ble_eq_true rfl) (by omega) ?_
  have I12 := ov_I_cp (s := 16) (t := 5) (n := 10) I11 (by decide) (fun k => ra_16 I11 k) (fun _ => (hw 5 (by decide +kernel)))
  refine ov_blk (ls2 := [(0, ov_r 4), (1, ov_r 15)]) (st2 := [ov_r 15]) (pc2 := 64) b_197_63_1 rfl rfl ?_
  refine ov_getf (v := ov_r 17) d_197_64 fl_State_15 (zb_15 I12) (zs_15 I12) (congrArg ov_r (rg_15_7 I12)) ?_
  refine ov_blk (ls2 := [(0, ov_r 4), (1, ov_r 15)]) (st2 := [ov_r 4, ov_i 0, ov_r 17]) (pc2 := 69) b_197_67_2 rfl rfl ?_
  refine ov_getf (v := ov_r 6) d_197_69 fl_State_15 (zb_4 I12) (zs_4 I12) (congrArg ov_r (rg_4_7 I12)) ?_
  refine ov_blk (ls2 := [(0, ov_r 4), (1, ov_r 15)]) (st2 := [ov_i 10, ov_i 0, ov_r 6, ov_i 0, ov_r 17]) (pc2 := 75) b_197_72_2 rfl rfl ?_
  refine ov_acp d_197_75 la_State_44 la_1 la_2 la_3 (zb_17 I12) (zs_17 I12) (zb_6 I12) (zs_6 I12) (by omega) (Nat.le_of_ble_eq_true rfl) (by omega) ?_
  have I13 := ov_I_cp (s := 17) (t := 6) (n := 10) I12 (by decide) (fun k => ra_17 I12 k) (fun _ => (hw 6 (by decide +kernel)))
  refine ov_blk (ls2 := [(0, ov_r 4), (1, ov_r 15)]) (st2 := [ov_r 15]) (pc2 := 79) b_197_78_1 rfl rfl ?_
  refine ov_getf (v := ov_r 18) d_197_79 fl_State_18 (zb_15 I13) (zs_15 I13) (congrArg ov_r (rg_15_8 I13)) ?_
  refine ov_blk (ls2 := [(0, ov_r 4), (1, ov_r 15)]) (st2 := [ov_r 4, ov_i 0, ov_r 18]) (pc2 := 84) b_197_82_2 rfl rfl ?_
  refine ov_getf (v := ov_r 7) d_197_84 fl_State_18 (zb_4 I13) (zs_4 I13) (congrArg ov_r (rg_4_8 I13)) ?_
  refine ov_blk (ls2 := [(0, ov_r 4), (1, ov_r 15)]) (st2 := [ov_i 8, ov_i 0, ov_r 7, ov_i 0, ov_r 18]) (pc2 := 90) b_197_87_2 rfl rfl ?_
  refine ov_acp d_197_90 la_State_44 la_1 la_2 la_3 (zb_18 I13) (zs_18 I13) (zb_7 I13) (zs_7 I13) (by omega) (Nat.le_of_ble_eq_true rfl) (by omega) ?_
  have I14 := ov_I_cp (s := 18) (t := 7) (n := 8) I13 (by decide) (fun k => ra_18 I13 k) (fun _ => (hw 7 (by decide +kernel)))
  refine ov_blk (ls2 := [(0, ov_r 4), (1, ov_r 15)]) (st2 := [ov_r 15]) (pc2 := 94) b_197_93_1 rfl rfl ?_
  refine ov_getf (v := ov_r 19) d_197_94 fl_State_21 (zb_15 I14) (zs_15 I14) (congrArg ov_r (rg_15_9 I14)) ?_
  refine ov_blk (ls2 := [(0, ov_r 4), (1, ov_r 15)]) (st2 := [ov_r 4, ov_i 0, ov_r 19]) (pc2 := 99) b_197_97_2 rfl rfl ?_
  refine ov_getf (v := ov_r 8) d_197_99 fl_State_21 (zb_4 I14) (zs_4 I14) (congrArg ov_r (rg_4_9 I14)) ?_
  refine ov_blk (ls2 := [(0, ov_r 4), (1, ov_r 15)]) (st2 := [ov_i 8, ov_i 0, ov_r 8, ov_i 0, ov_r 19]) (pc2 := 105) b_197_102_2 rfl rfl ?_
  refine ov_acp d_197_105 la_State_44 la_1 la_2 la_3 (zb_19 I14) (zs_19 I14) (zb_8 I14) (zs_8 I14) (by omega) (Nat.le_of_ble_eq_true rfl) (by omega) ?_
  have I15 := ov_I_cp (s := 19) (t := 8) (n := 8) I14 (by decide) (fun k => ra_19 I14 k) (fun _ => (hw 8 (by decide +kernel)))
  exact ov_retv (st := []) d_197_108 rfl ⟨rfl, I15, (by show (h 36 7) = (h 36 7) ∧ (h 1 1) = (h 1 1) ∧ (h 90 2) = (h 90 2) ∧ (h 0 10) = (h 0 10) ∧ (h 0 11) = (h 0 11) ∧ (h 0 12) = (h 0 12) ∧ (h 0 13) = (h 0 13) ∧ (h 3 1) = (h 3 1) ∧ (h 36 8) = (h 36 8) ∧ (h 46 3) = (h 46 3) ∧ (h 46 4) = (h 46 4) ∧ (h 49 4) = (h 49 4) ∧ (h 49 5) = (h 49 5) ∧ (h 64 0) = (h 64 0) ∧ (h 76 0) = (h 76 0); omega)⟩
abbrev P_State_copy_4_20 (F : ov_H) (z : ov_Z) (h : ov_H)  : Option ov_V → ov_Z → ov_H → Prop := fun r0 z' h' => r0 = none ∧ ov_I F z' h' ∧ ((h' 36 7) = (h 36 7) ∧ (h' 1 1) = (h 1 1) ∧ (h' 90 2) = (h 90 2) ∧ (h' 0 10) = (h 0 10) ∧ (h' 0 11) = (h 0 11) ∧ (h' 0 12) = (h 0 12) ∧ (h' 0 13) = (h 0 13) ∧ (h' 3 1) = (h 3 1) ∧ (h' 36 8) = (h 36 8) ∧ (h' 46 3) = (h 46 3) ∧ (h' 46 4) = (h 46 4) ∧ (h' 49 4) = (h 49 4) ∧ (h' 49 5) = (h 49 5) ∧ (h' 64 0) = (h 64 0) ∧ (h' 76 0) = (h 76 0))
set_option maxHeartbeats 4000000 in
theorem c_State_copy_4_20 {u : ov_U} {F : ov_H} {z : ov_Z} {h : ov_H} (d : Nat) (hd : 2 ≤ d) (U : ov_cap u) (I : ov_I F z h) (hw : ov_kw 496 F) : ov_T u d ov_m197 [ov_r 4, ov_r 20] z h (P_State_copy_4_20 F z h) := by
  refine ov_en rfl (Nat.le_of_ble_eq_true rfl) ?_
  show ov_R u d ov_m197 0 [(0, ov_r 4), (1, ov_r 20)] [] z h (P_State_copy_4_20 F z h)
  refine ov_blk (ls2 := [(0, ov_r 4), (1, ov_r 20)]) (st2 := [ov_r 20, ov_r 4]) (pc2 := 2) b_197_0_2 rfl rfl ?_
  refine ov_getf (v := ov_i (h 20 0)) d_197_2 fl_State_24 (zb_20 I) (zs_20 I) rfl ?_
  have g1 := rg_20_0 I
  refine ov_putf (x := (h 20 0)) d_197_5 fl_State_24 (zb_4 I) (zs_4 I) rfl nk_0 rfl ?_
  have I2 := up_4_0 (x := (h 20 0)) I (by omega) (hw 4 (by decide +kernel))
  refine ov_blk (ls2 := [(0, ov_r 4), (1, ov_r 20)]) (st2 := [ov_r 20, ov_r 4]) (pc2 := 10) b_197_8_2 rfl rfl ?_
  refine ov_getf (v := ov_i (h 20 1)) d_197_10 fl_State_28 (zb_20 I2) (zs_20 I2) rfl ?_
  have g3 := rg_20_1 I
  refine ov_putf (x := (h 20 1)) d_197_13 fl_State_28 (zb_4 I2) (zs_4 I2) rfl nk_0 rfl ?_
  have I4 := up_4_1 (x := (h 20 1)) I2 (by omega) (hw 4 (by decide +kernel))
  refine ov_blk (ls2 := [(0, ov_r 4), (1, ov_r 20)]) (st2 := [ov_r 20, ov_r 4]) (pc2 := 18) b_197_16_2 rfl rfl ?_
  refine ov_getf (v := ov_i (h 20 2)) d_197_18 fl_State_31 (zb_20 I4) (zs_20 I4) rfl ?_
  have g5 := rg_20_2 I
  refine ov_putf (x := (h 20 2)) d_197_21 fl_State_31 (zb_4 I4) (zs_4 I4) rfl nk_0 rfl ?_
  have I6 := up_4_2 (x := (h 20 2)) I4 (by omega) (hw 4 (by decide +kernel))
  refine ov_blk (ls2 := [(0, ov_r 4), (1, ov_r 20)]) (st2 := [ov_r 20, ov_r 4]) (pc2 := 26) b_197_24_2 rfl rfl ?_
  refine ov_getf (v := ov_l (h 20 3)) d_197_26 fl_State_34 (zb_20 I6) (zs_20 I6) rfl ?_
  refine ov_putf (x := (h 20 3)) d_197_29 fl_State_34 (zb_4 I6) (zs_4 I6) rfl nk_1 rfl ?_
  have I7 := up_4_3 (x := (h 20 3)) I6 (hw 4 (by decide +kernel))
  refine ov_blk (ls2 := [(0, ov_r 4), (1, ov_r 20)]) (st2 := [ov_r 20, ov_r 4]) (pc2 := 34) b_197_32_2 rfl rfl ?_
  refine ov_getf (v := ov_i (h 20 4)) d_197_34 fl_State_38 (zb_20 I7) (zs_20 I7) rfl ?_
  have g8 := rg_20_4 I
  refine ov_putf (x := (h 20 4)) d_197_37 fl_State_38 (zb_4 I7) (zs_4 I7) rfl nk_0 rfl ?_
  have I9 := up_4_4 (x := (h 20 4)) I7 (by omega) (hw 4 (by decide +kernel))
  refine ov_blk (ls2 := [(0, ov_r 4), (1, ov_r 20)]) (st2 := [ov_r 20, ov_r 4]) (pc2 := 42) b_197_40_2 rfl rfl ?_
  refine ov_getf (v := ov_i (h 20 5)) d_197_42 fl_State_41 (zb_20 I9) (zs_20 I9) rfl ?_
  have g10 := rg_20_5 I
  refine ov_putf (x := (h 20 5)) d_197_45 fl_State_41 (zb_4 I9) (zs_4 I9) rfl nk_0 rfl ?_
  have I11 := up_4_5 (x := (h 20 5)) I9 (by omega) (hw 4 (by decide +kernel))
  refine ov_blk (ls2 := [(0, ov_r 4), (1, ov_r 20)]) (st2 := [ov_r 20]) (pc2 := 49) b_197_48_1 rfl rfl ?_
  refine ov_getf (v := ov_r 21) d_197_49 fl_State_11 (zb_20 I11) (zs_20 I11) (congrArg ov_r (rg_20_6 I11)) ?_
  refine ov_blk (ls2 := [(0, ov_r 4), (1, ov_r 20)]) (st2 := [ov_r 4, ov_i 0, ov_r 21]) (pc2 := 54) b_197_52_2 rfl rfl ?_
  refine ov_getf (v := ov_r 5) d_197_54 fl_State_11 (zb_4 I11) (zs_4 I11) (congrArg ov_r (rg_4_6 I11)) ?_
  refine ov_blk (ls2 := [(0, ov_r 4), (1, ov_r 20)]) (st2 := [ov_i 10, ov_i 0, ov_r 5, ov_i 0, ov_r 21]) (pc2 := 60) b_197_57_2 rfl rfl ?_
  refine ov_acp d_197_60 la_State_44 la_1 la_2 la_3 (zb_21 I11) (zs_21 I11) (zb_5 I11) (zs_5 I11) (by omega) (Nat.le_of_ble_eq_true rfl) (by omega) ?_
  have I12 := ov_I_cp (s := 21) (t := 5) (n := 10) I11 (by decide) (fun k => ra_21 I11 k) (fun _ => (hw 5 (by decide +kernel)))
  refine ov_blk (ls2 := [(0, ov_r 4), (1, ov_r 20)]) (st2 := [ov_r 20]) (pc2 := 64) b_197_63_1 rfl rfl ?_
  refine ov_getf (v := ov_r 22) d_197_64 fl_State_15 (zb_20 I12) (zs_20 I12) (congrArg ov_r (rg_20_7 I12)) ?_
  refine ov_blk (ls2 := [(0, ov_r 4), (1, ov_r 20)]) (st2 := [ov_r 4, ov_i 0, ov_r 22]) (pc2 := 69) b_197_67_2 rfl rfl ?_
  refine ov_getf (v := ov_r 6) d_197_69 fl_State_15 (zb_4 I12) (zs_4 I12) (congrArg ov_r (rg_4_7 I12)) ?_
  refine ov_blk (ls2 := [(0, ov_r 4), (1, ov_r 20)]) (st2 := [ov_i 10, ov_i 0, ov_r 6, ov_i 0, ov_r 22]) (pc2 := 75) b_197_72_2 rfl rfl ?_
  refine ov_acp d_197_75 la_State_44 la_1 la_2 la_3 (zb_22 I12) (zs_22 I12) (zb_6 I12) (zs_6 I12) (by omega) (Nat.le_of_ble_eq_true rfl) (by omega) ?_
  have I13 := ov_I_cp (s := 22) (t := 6) (n := 10) I12 (by decide) (fun k => ra_22 I12 k) (fun _ => (hw 6 (by decide +kernel)))
  refine ov_blk (ls2 := [(0, ov_r 4), (1, ov_r 20)]) (st2 := [ov_r 20]) (pc2 := 79) b_197_78_1 rfl rfl ?_
  refine ov_getf (v := ov_r 23) d_197_79 fl_State_18 (zb_20 I13) (zs_20 I13) (congrArg ov_r (rg_20_8 I13)) ?_
  refine ov_blk (ls2 := [(0, ov_r 4), (1, ov_r 20)]) (st2 := [ov_r 4, ov_i 0, ov_r 23]) (pc2 := 84) b_197_82_2 rfl rfl ?_
  refine ov_getf (v := ov_r 7) d_197_84 fl_State_18 (zb_4 I13) (zs_4 I13) (congrArg ov_r (rg_4_8 I13)) ?_
  refine ov_blk (ls2 := [(0, ov_r 4), (1, ov_r 20)]) (st2 := [ov_i 8, ov_i 0, ov_r 7, ov_i 0, ov_r 23]) (pc2 := 90) b_197_87_2 rfl rfl ?_
  refine ov_acp d_197_90 la_State_44 la_1 la_2 la_3 (zb_23 I13) (zs_23 I13) (zb_7 I13) (zs_7 I13) (by omega) (Nat.le_of_ble_eq_true rfl) (by omega) ?_
  have I14 := ov_I_cp (s := 23) (t := 7) (n := 8) I13 (by decide) (fun k => ra_23 I13 k) (fun _ => (hw 7 (by decide +kernel)))
  refine ov_blk (ls2 := [(0, ov_r 4), (1, ov_r 20)]) (st2 := [ov_r 20]) (pc2 := 94) b_197_93_1 rfl rfl ?_
  refine ov_getf (v := ov_r 24) d_197_94 fl_State_21 (zb_20 I14) (zs_20 I14) (congrArg ov_r (rg_20_9 I14)) ?_
  refine ov_blk (ls2 := [(0, ov_r 4), (1, ov_r 20)]) (st2 := [ov_r 4, ov_i 0, ov_r 24]) (pc2 := 99) b_197_97_2 rfl rfl ?_
  refine ov_getf (v := ov_r 8) d_197_99 fl_State_21 (zb_4 I14) (zs_4 I14) (congrArg ov_r (rg_4_9 I14)) ?_
  refine ov_blk (ls2 := [(0, ov_r 4), (1, ov_r 20)]) (st2 := [ov_i 8, ov_i 0, ov_r 8, ov_i 0, ov_r 24]) (pc2 := 105) b_197_102_2 rfl rfl ?_
  refine ov_acp d_197_105 la_State_44 la_1 la_2 la_3 (zb_24 I14) (zs_24 I14) (zb_8 I14) (zs_8 I14) (by omega) (Nat.le_of_ble_eq_true rfl) (by omega) ?_
  have I15 := ov_I_cp (s := 24) (t := 8) (n := 8) I14 (by decide) (fun k => ra_24 I14 k) (fun _ => (hw 8 (by decide +kernel)))
  exact ov_retv (st := []) d_197_108 rfl ⟨rfl, I15, (by show (h 36 7) = (h 36 7) ∧ (h 1 1) = (h 1 1) ∧ (h 90 2) = (h 90 2) ∧ (h 0 10) = (h 0 10) ∧ (h 0 11) = (h 0 11) ∧ (h 0 12) = (h 0 12) ∧ (h 0 13) = (h 0 13) ∧ (h 3 1) = (h 3 1) ∧ (h 36 8) = (h 36 8) ∧ (h 46 3) = (h 46 3) ∧ (h 46 4) = (h 46 4) ∧ (h 49 4) = (h 49 4) ∧ (h 49 5) = (h 49 5) ∧ (h 64 0) = (h 64 0) ∧ (h 76 0) = (h 76 0); omega)⟩
abbrev P_State_copy_4_25 (F : ov_H) (z : ov_Z) (h : ov_H)  : Option ov_V → ov_Z → ov_H → Prop := fun r0 z' h' => r0 = none ∧ ov_I F z' h' ∧ ((h' 36 7) = (h 36 7) ∧ (h' 1 1) = (h 1 1) ∧ (h' 90 2) = (h 90 2) ∧ (h' 0 10) = (h 0 10) ∧ (h' 0 11) = (h 0 11) ∧ (h' 0 12) = (h 0 12) ∧ (h' 0 13) = (h 0 13) ∧ (h' 3 1) = (h 3 1) ∧ (h' 36 8) = (h 36 8) ∧ (h' 46 3) = (h 46 3) ∧ (h' 46 4) = (h 46 4) ∧ (h' 49 4) = (h 49 4) ∧ (h' 49 5) = (h 49 5) ∧ (h' 64 0) = (h 64 0) ∧ (h' 76 0) = (h 76 0))
set_option maxHeartbeats 4000000 in
theorem c_State_copy_4_25 {u : ov_U} {F : ov_H} {z : ov_Z} {h : ov_H} (d : Nat) (hd : 2 ≤ d) (U : ov_cap u) (I : ov_I F z h) (hw : ov_kw 496 F) : ov_T u d ov_m197 [ov_r 4, ov_r 25] z h (P_State_copy_4_25 F z h) := by
  refine ov_en rfl (Nat.le_of_ble_eq_true rfl) ?_
  show ov_R u d ov_m197 0 [(0, ov_r 4), (1, ov_r 25)] [] z h (P_State_copy_4_25 F z h)
  refine ov_blk (ls2 := [(0, ov_r 4), (1, ov_r 25)]) (st2 := [ov_r 25, ov_r 4]) (pc2 := 2) b_197_0_2 rfl rfl ?_
  refine ov_getf (v := ov_i (h 25 0)) d_197_2 fl_State_24 (zb_25 I) (zs_25 I) rfl ?_
  have g1 := rg_25_0 I
  refine ov_putf (x := (h 25 0)) d_197_5 fl_State_24 (zb_4 I) (zs_4 I) rfl nk_0 rfl ?_
  have I2 := up_4_0 (x := (h 25 0)) I (by omega) (hw 4 (by decide +kernel))
  refine ov_blk (ls2 := [(0, ov_r 4), (1, ov_r 25)]) (st2 := [ov_r 25, ov_r 4]) (pc2 := 10) b_197_8_2 rfl rfl ?_
  refine ov_getf (v := ov_i (h 25 1)) d_197_10 fl_State_28 (zb_25 I2) (zs_25 I2) rfl ?_
  have g3 := rg_25_1 I
  refine ov_putf (x := (h 25 1)) d_197_13 fl_State_28 (zb_4 I2) (zs_4 I2) rfl nk_0 rfl ?_
  have I4 := up_4_1 (x := (h 25 1)) I2 (by omega) (hw 4 (by decide +kernel))
  refine ov_blk (ls2 := [(0, ov_r 4), (1, ov_r 25)]) (st2 := [ov_r 25, ov_r 4]) (pc2 := 18) b_197_16_2 rfl rfl ?_
  refine ov_getf (v := ov_i (h 25 2)) d_197_18 fl_State_31 (zb_25 I4) (zs_25 I4) rfl ?_
  have g5 := rg_25_2 I
  refine ov_putf (x := (h 25 2)) d_197_21 fl_State_31 (zb_4 I4) (zs_4 I4) rfl nk_0 rfl ?_
  have I6 := up_4_2 (x := (h 25 2)) I4 (by omega) (hw 4 (by decide +kernel))
  refine ov_blk (ls2 := [(0, ov_r 4), (1, ov_r 25)]) (st2 := [ov_r 25, ov_r 4]) (pc2 := 26) b_197_24_2 rfl rfl ?_
  refine ov_getf (v := ov_l (h 25 3)) d_197_26 fl_State_34 (zb_25 I6) (zs_25 I6) rfl ?_
  refine ov_putf (x := (h 25 3)) d_197_29 fl_State_34 (zb_4 I6) (zs_4 I6) rfl nk_1 rfl ?_
  have I7 := up_4_3 (x := (h 25 3)) I6 (hw 4 (by decide +kernel))
  refine ov_blk (ls2 := [(0, ov_r 4), (1, ov_r 25)]) (st2 := [ov_r 25, ov_r 4]) (pc2 := 34) b_197_32_2 rfl rfl ?_
  refine ov_getf (v := ov_i (h 25 4)) d_197_34 fl_State_38 (zb_25 I7) (zs_25 I7) rfl ?_
  have g8 := rg_25_4 I
  refine ov_putf (x := (h 25 4)) d_197_37 fl_State_38 (zb_4 I7) (zs_4 I7) rfl nk_0 rfl ?_
  have I9 := up_4_4 (x := (h 25 4)) I7 (by omega) (hw 4 (by decide +kernel))
  refine ov_blk (ls2 := [(0, ov_r 4), (1, ov_r 25)]) (st2 := [ov_r 25, ov_r 4]) (pc2 := 42) b_197_40_2 rfl rfl ?_
  refine ov_getf (v := ov_i (h 25 5)) d_197_42 fl_State_41 (zb_25 I9) (zs_25 I9) rfl ?_
  have g10 := rg_25_5 I
  refine ov_putf (x := (h 25 5)) d_197_45 fl_State_41 (zb_4 I9) (zs_4 I9) rfl nk_0 rfl ?_
  have I11 := up_4_5 (x := (h 25 5)) I9 (by omega) (hw 4 (by decide +kernel))
  refine ov_blk (ls2 := [(0, ov_r 4), (1, ov_r 25)]) (st2 := [ov_r 25]) (pc2 := 49) b_197_48_1 rfl rfl ?_
  refine ov_getf (v := ov_r 26) d_197_49 fl_State_11 (zb_25 I11) (zs_25 I11) (congrArg ov_r (rg_25_6 I11)) ?_
  refine ov_blk (ls2 := [(0, ov_r 4), (1, ov_r 25)]) (st2 := [ov_r 4, ov_i 0, ov_r 26]) (pc2 := 54) b_197_52_2 rfl rfl ?_
  refine ov_getf (v := ov_r 5) d_197_54 fl_State_11 (zb_4 I11) (zs_4 I11) (congrArg ov_r (rg_4_6 I11)) ?_
  refine ov_blk (ls2 := [(0, ov_r 4), (1, ov_r 25)]) (st2 := [ov_i 10, ov_i 0, ov_r 5, ov_i 0, ov_r 26]) (pc2 := 60) b_197_57_2 rfl rfl ?_
  refine ov_acp d_197_60 la_State_44 la_1 la_2 la_3 (zb_26 I11) (zs_26 I11) (zb_5 I11) (zs_5 I11) (by omega) (Nat.le_of_ble_eq_true rfl) (by omega) ?_
  have I12 := ov_I_cp (s := 26) (t := 5) (n := 10) I11 (by decide) (fun k => ra_26 I11 k) (fun _ => (hw 5 (by decide +kernel)))
  refine ov_blk (ls2 := [(0, ov_r 4), (1, ov_r 25)]) (st2 := [ov_r 25]) (pc2 := 64) b_197_63_1 rfl rfl ?_
  refine ov_getf (v := ov_r 27) d_197_64 fl_State_15 (zb_25 I12) (zs_25 I12) (congrArg ov_r (rg_25_7 I12)) ?_
  refine ov_blk (ls2 := [(0, ov_r 4), (1, ov_r 25)]) (st2 := [ov_r 4, ov_i 0, ov_r 27]) (pc2 := 69) b_197_67_2 rfl rfl ?_
  refine ov_getf (v := ov_r 6) d_197_69 fl_State_15 (zb_4 I12) (zs_4 I12) (congrArg ov_r (rg_4_7 I12)) ?_
  refine ov_blk (ls2 := [(0, ov_r 4), (1, ov_r 25)]) (st2 := [ov_i 10, ov_i 0, ov_r 6, ov_i 0, ov_r 27]) (pc2 := 75) b_197_72_2 rfl rfl ?_
  refine ov_acp d_197_75 la_State_44 la_1 la_2 la_3 (zb_27 I12) (zs_27 I12) (zb_6 I12) (zs_6 I12) (by omega) (Nat.le_of_ble_eq_true rfl) (by omega) ?_
  have I13 := ov_I_cp (s := 27) (t := 6) (n := 10) I12 (by decide) (fun k => ra_27 I12 k) (fun _ => (hw 6 (by decide +kernel)))
  refine ov_blk (ls2 := [(0, ov_r 4), (1, ov_r 25)]) (st2 := [ov_r 25]) (pc2 := 79) b_197_78_1 rfl rfl ?_
  refine ov_getf (v := ov_r 28) d_197_79 fl_State_18 (zb_25 I13) (zs_25 I13) (congrArg ov_r (rg_25_8 I13)) ?_
  refine ov_blk (ls2 := [(0, ov_r 4), (1, ov_r 25)]) (st2 := [ov_r 4, ov_i 0, ov_r 28]) (pc2 := 84) b_197_82_2 rfl rfl ?_
  refine ov_getf (v := ov_r 7) d_197_84 fl_State_18 (zb_4 I13) (zs_4 I13) (congrArg ov_r (rg_4_8 I13)) ?_
  refine ov_blk (ls2 := [(0, ov_r 4), (1, ov_r 25)]) (st2 := [ov_i 8, ov_i 0, ov_r 7, ov_i 0, ov_r 28]) (pc2 := 90) b_197_87_2 rfl rfl ?_
  refine ov_acp d_197_90 la_State_44 la_1 la_2 la_3 (zb_28 I13) (zs_28 I13) (zb_7 I13) (zs_7 I13) (by omega) (Nat.le_of_ble_eq_true rfl) (by omega) ?_
  have I14 := ov_I_cp (s := 28) (t := 7) (n := 8) I13 (by decide) (fun k => ra_28 I13 k) (fun _ => (hw 7 (by decide +kernel)))
  refine ov_blk (ls2 := [(0, ov_r 4), (1, ov_r 25)]) (st2 := [ov_r 25]) (pc2 := 94) b_197_93_1 rfl rfl ?_
  refine ov_getf (v := ov_r 29) d_197_94 fl_State_21 (zb_25 I14) (zs_25 I14) (congrArg ov_r (rg_25_9 I14)) ?_
  refine ov_blk (ls2 := [(0, ov_r 4), (1, ov_r 25)]) (st2 := [ov_r 4, ov_i 0, ov_r 29]) (pc2 := 99) b_197_97_2 rfl rfl ?_
  refine ov_getf (v := ov_r 8) d_197_99 fl_State_21 (zb_4 I14) (zs_4 I14) (congrArg ov_r (rg_4_9 I14)) ?_
  refine ov_blk (ls2 := [(0, ov_r 4), (1, ov_r 25)]) (st2 := [ov_i 8, ov_i 0, ov_r 8, ov_i 0, ov_r 29]) (pc2 := 105) b_197_102_2 rfl rfl ?_
  refine ov_acp d_197_105 la_State_44 la_1 la_2 la_3 (zb_29 I14) (zs_29 I14) (zb_8 I14) (zs_8 I14) (by omega) (Nat.le_of_ble_eq_true rfl) (by omega) ?_
  have I15 := ov_I_cp (s := 29) (t := 8) (n := 8) I14 (by decide) (fun k => ra_29 I14 k) (fun _ => (hw 8 (by decide +kernel)))
  exact ov_retv (st := []) d_197_108 rfl ⟨rfl, I15, (by show (h 36 7) = (h 36 7) ∧ (h 1 1) = (h 1 1) ∧ (h 90 2) = (h 90 2) ∧ (h 0 10) = (h 0 10) ∧ (h 0 11) = (h 0 11) ∧ (h 0 12) = (h 0 12) ∧ (h 0 13) = (h 0 13) ∧ (h 3 1) = (h 3 1) ∧ (h 36 8) = (h 36 8) ∧ (h 46 3) = (h 46 3) ∧ (h 46 4) = (h 46 4) ∧ (h 49 4) = (h 49 4) ∧ (h 49 5) = (h 49 5) ∧ (h 64 0) = (h 64 0) ∧ (h 76 0) = (h 76 0); omega)⟩
abbrev P_State_copy_4_30 (F : ov_H) (z : ov_Z) (h : ov_H)  : Option ov_V → ov_Z → ov_H → Prop := fun r0 z' h' => r0 = none ∧ ov_I F z' h' ∧ ((h' 36 7) = (h 36 7) ∧ (h' 1 1) = (h 1 1) ∧ (h' 90 2) = (h 90 2) ∧ (h' 0 10) = (h 0 10) ∧ (h' 0 11) = (h 0 11) ∧ (h' 0 12) = (h 0 12) ∧ (h' 0 13) = (h 0 13) ∧ (h' 3 1) = (h 3 1) ∧ (h' 36 8) = (h 36 8) ∧ (h' 46 3) = (h 46 3) ∧ (h' 46 4) = (h 46 4) ∧ (h' 49 4) = (h 49 4) ∧ (h' 49 5) = (h 49 5) ∧ (h' 64 0) = (h 64 0) ∧ (h' 76 0) = (h 76 0))
set_option maxHeartbeats 4000000 in
theorem c_State_copy_4_30 {u : ov_U} {F : ov_H} {z : ov_Z} {h : ov_H} (d : Nat) (hd : 2 ≤ d) (U : ov_cap u) (I : ov_I F z h) (hw : ov_kw 496 F) : ov_T u d ov_m197 [ov_r 4, ov_r 30] z h (P_State_copy_4_30 F z h) := by
  refine ov_en rfl (Nat.le_of_ble_eq_true rfl) ?_
  show ov_R u d ov_m197 0 [(0, ov_r 4), (1, ov_r 30)] [] z h (P_State_copy_4_30 F z h)
  refine ov_blk (ls2 := [(0, ov_r 4), (1, ov_r 30)]) (st2 := [ov_r 30, ov_r 4]) (pc2 := 2) b_197_0_2 rfl rfl ?_
  refine ov_getf (v := ov_i (h 30 0)) d_197_2 fl_State_24 (zb_30 I) (zs_30 I) rfl ?_
  have g1 := rg_30_0 I
  refine ov_putf (x := (h 30 0)) d_197_5 fl_State_24 (zb_4 I) (zs_4 I) rfl nk_0 rfl ?_
  have I2 := up_4_0 (x := (h 30 0)) I (by omega) (hw 4 (by decide +kernel))
  refine ov_blk (ls2 := [(0, ov_r 4), (1, ov_r 30)]) (st2 := [ov_r 30, ov_r 4]) (pc2 := 10) b_197_8_2 rfl rfl ?_
  refine ov_getf (v := ov_i (h 30 1)) d_197_10 fl_State_28 (zb_30 I2) (zs_30 I2) rfl ?_
  have g3 := rg_30_1 I
  refine ov_putf (x := (h 30 1)) d_197_13 fl_State_28 (zb_4 I2) (zs_4 I2) rfl nk_0 rfl ?_
  have I4 := up_4_1 (x := (h 30 1)) I2 (by omega) (hw 4 (by decide +kernel))
  refine ov_blk (ls2 := [(0, ov_r 4), (1, ov_r 30)]) (st2 := [ov_r 30, ov_r 4]) (pc2 := 18) b_197_16_2 rfl rfl ?_
  refine ov_getf (v := ov_i (h 30 2)) d_197_18 fl_State_31 (zb_30 I4) (zs_30 I4) rfl ?_
  have g5 := rg_30_2 I
  refine ov_putf (x := (h 30 2)) d_197_21 fl_State_31 (zb_4 I4) (zs_4 I4) rfl nk_0 rfl ?_
  have I6 := up_4_2 (x := (h 30 2)) I4 (by omega) (hw 4 (by decide +kernel))
  refine ov_blk (ls2 := [(0, ov_r 4), (1, ov_r 30)]) (st2 := [ov_r 30, ov_r 4]) (pc2 := 26) b_197_24_2 rfl rfl ?_
  refine ov_getf (v := ov_l (h 30 3)) d_197_26 fl_State_34 (zb_30 I6) (zs_30 I6) rfl ?_
  refine ov_putf (x := (h 30 3)) d_197_29 fl_State_34 (zb_4 I6) (zs_4 I6) rfl nk_1 rfl ?_
  have I7 := up_4_3 (x := (h 30 3)) I6 (hw 4 (by decide +kernel))
  refine ov_blk (ls2 := [(0, ov_r 4), (1, ov_r 30)]) (st2 := [ov_r 30, ov_r 4]) (pc2 := 34) b_197_32_2 rfl rfl ?_
  refine ov_getf (v := ov_i (h 30 4)) d_197_34 fl_State_38 (zb_30 I7) (zs_30 I7) rfl ?_
  have g8 := rg_30_4 I
  refine ov_putf (x := (h 30 4)) d_197_37 fl_State_38 (zb_4 I7) (zs_4 I7) rfl nk_0 rfl ?_
  have I9 := up_4_4 (x := (h 30 4)) I7 (by omega) (hw 4 (by decide +kernel))
  refine ov_blk (ls2 := [(0, ov_r 4), (1, ov_r 30)]) (st2 := [ov_r 30, ov_r 4]) (pc2 := 42) b_197_40_2 rfl rfl ?_
  refine ov_getf (v := ov_i (h 30 5)) d_197_42 fl_State_41 (zb_30 I9) (zs_30 I9) rfl ?_
  have g10 := rg_30_5 I
  refine ov_putf (x := (h 30 5)) d_197_45 fl_State_41 (zb_4 I9) (zs_4 I9) rfl nk_0 rfl ?_
  have I11 := up_4_5 (x := (h 30 5)) I9 (by omega) (hw 4 (by decide +kernel))
  refine ov_blk (ls2 := [(0, ov_r 4), (1, ov_r 30)]) (st2 := [ov_r 30]) (pc2 := 49) b_197_48_1 rfl rfl ?_
  refine ov_getf (v := ov_r 31) d_197_49 fl_State_11 (zb_30 I11) (zs_30 I11) (congrArg ov_r (rg_30_6 I11)) ?_
  refine ov_blk (ls2 := [(0, ov_r 4), (1, ov_r 30)]) (st2 := [ov_r 4, ov_i 0, ov_r 31]) (pc2 := 54) b_197_52_2 rfl rfl ?_
  refine ov_getf (v := ov_r 5) d_197_54 fl_State_11 (zb_4 I11) (zs_4 I11) (congrArg ov_r (rg_4_6 I11)) ?_
  refine ov_blk (ls2 := [(0, ov_r 4), (1, ov_r 30)]) (st2 := [ov_i 10, ov_i 0, ov_r 5, ov_i 0, ov_r 31]) (pc2 := 60) b_197_57_2 rfl rfl ?_
  refine ov_acp d_197_60 la_State_44 la_1 la_2 la_3 (zb_31 I11) (zs_31 I11) (zb_5 I11) (zs_5 I11) (by omega) (Nat.le_of_ble_eq_true rfl) (by omega) ?_
  have I12 := ov_I_cp (s := 31) (t := 5) (n := 10) I11 (by decide) (fun k => ra_31 I11 k) (fun _ => (hw 5 (by decide +kernel)))
  refine ov_blk (ls2 := [(0, ov_r 4), (1, ov_r 30)]) (st2 := [ov_r 30]) (pc2 := 64) b_197_63_1 rfl rfl ?_
  refine ov_getf (v := ov_r 32) d_197_64 fl_State_15 (zb_30 I12) (zs_30 I12) (congrArg ov_r (rg_30_7 I12)) ?_
  refine ov_blk (ls2 := [(0, ov_r 4), (1, ov_r 30)]) (st2 := [ov_r 4, ov_i 0, ov_r 32]) (pc2 := 69) b_197_67_2 rfl rfl ?_
  refine ov_getf (v := ov_r 6) d_197_69 fl_State_15 (zb_4 I12) (zs_4 I12) (congrArg ov_r (rg_4_7 I12)) ?_
  refine ov_blk (ls2 := [(0, ov_r 4), (1, ov_r 30)]) (st2 := [ov_i 10, ov_i 0, ov_r 6, ov_i 0, ov_r 32]) (pc2 := 75) b_197_72_2 rfl rfl ?_
  refine ov_acp d_197_75 la_State_44 la_1 la_2 la_3 (zb_32 I12) (zs_32 I12) (zb_6 I12) (zs_6 I12) (by omega) (Nat.le_of_ble_eq_true rfl) (by omega) ?_
  have I13 := ov_I_cp (s := 32) (t := 6) (n := 10) I12 (by decide) (fun k => ra_32 I12 k) (fun _ => (hw 6 (by decide +kernel)))
  refine ov_blk (ls2 := [(0, ov_r 4), (1, ov_r 30)]) (st2 := [ov_r 30]) (pc2 := 79) b_197_78_1 rfl rfl ?_
  refine ov_getf (v := ov_r 33) d_197_79 fl_State_18 (zb_30 I13) (zs_30 I13) (congrArg ov_r (rg_30_8 I13)) ?_
  refine ov_blk (ls2 := [(0, ov_r 4), (1, ov_r 30)]) (st2 := [ov_r 4, ov_i 0, ov_r 33]) (pc2 := 84) b_197_82_2 rfl rfl ?_
  refine ov_getf (v := ov_r 7) d_197_84 fl_State_18 (zb_4 I13) (zs_4 I13) (congrArg ov_r (rg_4_8 I13)) ?_
  refine ov_blk (ls2 := [(0, ov_r 4), (1, ov_r 30)]) (st2 := [ov_i 8, ov_i 0, ov_r 7, ov_i 0, ov_r 33]) (pc2 := 90) b_197_87_2 rfl rfl ?_
  refine ov_acp d_197_90 la_State_44 la_1 la_2 la_3 (zb_33 I13) (zs_33 I13) (zb_7 I13) (zs_7 I13) (by omega) (Nat.le_of_ble_eq_true rfl) (by omega) ?_
  have I14 := ov_I_cp (s := 33) (t := 7) (n := 8) I13 (by decide) (fun k => ra_33 I13 k) (fun _ => (hw 7 (by decide +kernel)))
  refine ov_blk (ls2 := [(0, ov_r 4), (1, ov_r 30)]) (st2 := [ov_r 30]) (pc2 := 94) b_197_93_1 rfl rfl ?_
  refine ov_getf (v := ov_r 34) d_197_94 fl_State_21 (zb_30 I14) (zs_30 I14) (congrArg ov_r (rg_30_9 I14)) ?_
  refine ov_blk (ls2 := [(0, ov_r 4), (1, ov_r 30)]) (st2 := [ov_r 4, ov_i 0, ov_r 34]) (pc2 := 99) b_197_97_2 rfl rfl ?_
  refine ov_getf (v := ov_r 8) d_197_99 fl_State_21 (zb_4 I14) (zs_4 I14) (congrArg ov_r (rg_4_9 I14)) ?_
  refine ov_blk (ls2 := [(0, ov_r 4), (1, ov_r 30)]) (st2 := [ov_i 8, ov_i 0, ov_r 8, ov_i 0, ov_r 34]) (pc2 := 105) b_197_102_2 rfl rfl ?_
  refine ov_acp d_197_105 la_State_44 la_1 la_2 la_3 (zb_34 I14) (zs_34 I14) (zb_8 I14) (zs_8 I14) (by omega) (Nat.le_of_ble_eq_true rfl) (by omega) ?_
  have I15 := ov_I_cp (s := 34) (t := 8) (n := 8) I14 (by decide) (fun k => ra_34 I14 k) (fun _ => (hw 8 (by decide +kernel)))
  exact ov_retv (st := []) d_197_108 rfl ⟨rfl, I15, (by show (h 36 7) = (h 36 7) ∧ (h 1 1) = (h 1 1) ∧ (h 90 2) = (h 90 2) ∧ (h 0 10) = (h 0 10) ∧ (h 0 11) = (h 0 11) ∧ (h 0 12) = (h 0 12) ∧ (h 0 13) = (h 0 13) ∧ (h 3 1) = (h 3 1) ∧ (h 36 8) = (h 36 8) ∧ (h 46 3) = (h 46 3) ∧ (h 46 4) = (h 46 4) ∧ (h 49 4) = (h 49 4) ∧ (h 49 5) = (h 49 5) ∧ (h 64 0) = (h 64 0) ∧ (h 76 0) = (h 76 0); omega)⟩
abbrev P_State_copy_15_4 (F : ov_H) (z : ov_Z) (h : ov_H)  : Option ov_V → ov_Z → ov_H → Prop := fun r0 z' h' => r0 = none ∧ ov_I F z' h' ∧ ((h' 36 7) = (h 36 7) ∧ (h' 1 1) = (h 1 1) ∧ (h' 90 2) = (h 90 2) ∧ (h' 0 10) = (h 0 10) ∧ (h' 0 11) = (h 0 11) ∧ (h' 0 12) = (h 0 12) ∧ (h' 0 13) = (h 0 13) ∧ (h' 3 1) = (h 3 1) ∧ (h' 36 8) = (h 36 8) ∧ (h' 46 3) = (h 46 3) ∧ (h' 46 4) = (h 46 4) ∧ (h' 49 4) = (h 49 4) ∧ (h' 49 5) = (h 49 5) ∧ (h' 64 0) = (h 64 0) ∧ (h' 76 0) = (h 76 0))
set_option maxHeartbeats 4000000 in
theorem c_State_copy_15_4 {u : ov_U} {F : ov_H} {z : ov_Z} {h : ov_H} (d : Nat) (hd : 2 ≤ d) (U : ov_cap u) (I : ov_I F z h) (hw : ov_kw 1015808 F) : ov_T u d ov_m197 [ov_r 15, ov_r 4] z h (P_State_copy_15_4 F z h) := by
  refine ov_en rfl (Nat.le_of_ble_eq_true rfl) ?_
  show ov_R u d ov_m197 0 [(0, ov_r 15), (1, ov_r 4)] [] z h (P_State_copy_15_4 F z h)
  refine ov_blk (ls2 := [(0, ov_r 15), (1, ov_r 4)]) (st2 := [ov_r 4, ov_r 15]) (pc2 := 2) b_197_0_2 rfl rfl ?_
  refine ov_getf (v := ov_i (h 4 0)) d_197_2 fl_State_24 (zb_4 I) (zs_4 I) rfl ?_
  have g1 := rg_4_0 I
  refine ov_putf (x := (h 4 0)) d_197_5 fl_State_24 (zb_15 I) (zs_15 I) rfl nk_0 rfl ?_
  have I2 := up_15_0 (x := (h 4 0)) I (by omega) (hw 15 (by decide +kernel))
  refine ov_blk (ls2 := [(0, ov_r 15), (1, ov_r 4)]) (st2 := [ov_r 4, ov_r 15]) (pc2 := 10) b_197_8_2 rfl rfl ?_
  refine ov_getf (v := ov_i (h 4 1)) d_197_10 fl_State_28 (zb_4 I2) (zs_4 I2) rfl ?_
  have g3 := rg_4_1 I
  refine ov_putf (x := (h 4 1)) d_197_13 fl_State_28 (zb_15 I2) (zs_15 I2) rfl nk_0 rfl ?_
  have I4 := up_15_1 (x := (h 4 1)) I2 (by omega) (hw 15 (by decide +kernel))
  refine ov_blk (ls2 := [(0, ov_r 15), (1, ov_r 4)]) (st2 := [ov_r 4, ov_r 15]) (pc2 := 18) b_197_16_2 rfl rfl ?_
  refine ov_getf (v := ov_i (h 4 2)) d_197_18 fl_State_31 (zb_4 I4) (zs_4 I4) rfl ?_
  have g5 := rg_4_2 I
  refine ov_putf (x := (h 4 2)) d_197_21 fl_State_31 (zb_15 I4) (zs_15 I4) rfl nk_0 rfl ?_
  have I6 := up_15_2 (x := (h 4 2)) I4 (by omega) (hw 15 (by decide +kernel))
  refine ov_blk (ls2 := [(0, ov_r 15), (1, ov_r 4)]) (st2 := [ov_r 4, ov_r 15]) (pc2 := 26) b_197_24_2 rfl rfl ?_
  refine ov_getf (v := ov_l (h 4 3)) d_197_26 fl_State_34 (zb_4 I6) (zs_4 I6) rfl ?_
  refine ov_putf (x := (h 4 3)) d_197_29 fl_State_34 (zb_15 I6) (zs_15 I6) rfl nk_1 rfl ?_
  have I7 := up_15_3 (x := (h 4 3)) I6 (hw 15 (by decide +kernel))
  refine ov_blk (ls2 := [(0, ov_r 15), (1, ov_r 4)]) (st2 := [ov_r 4, ov_r 15]) (pc2 := 34) b_197_32_2 rfl rfl ?_
  refine ov_getf (v := ov_i (h 4 4)) d_197_34 fl_State_38 (zb_4 I7) (zs_4 I7) rfl ?_
  have g8 := rg_4_4 I
  refine ov_putf (x := (h 4 4)) d_197_37 fl_State_38 (zb_15 I7) (zs_15 I7) rfl nk_0 rfl ?_
  have I9 := up_15_4 (x := (h 4 4)) I7 (by omega) (hw 15 (by decide +kernel))
  refine ov_blk (ls2 := [(0, ov_r 15), (1, ov_r 4)]) (st2 := [ov_r 4, ov_r 15]) (pc2 := 42) b_197_40_2 rfl rfl ?_
  refine ov_getf (v := ov_i (h 4 5)) d_197_42 fl_State_41 (zb_4 I9) (zs_4 I9) rfl ?_
  have g10 := rg_4_5 I
  refine ov_putf (x := (h 4 5)) d_197_45 fl_State_41 (zb_15 I9) (zs_15 I9) rfl nk_0 rfl ?_
  have I11 := up_15_5 (x := (h 4 5)) I9 (by omega) (hw 15 (by decide +kernel))
  refine ov_blk (ls2 := [(0, ov_r 15), (1, ov_r 4)]) (st2 := [ov_r 4]) (pc2 := 49) b_197_48_1 rfl rfl ?_
  refine ov_getf (v := ov_r 5) d_197_49 fl_State_11 (zb_4 I11) (zs_4 I11) (congrArg ov_r (rg_4_6 I11)) ?_
  refine ov_blk (ls2 := [(0, ov_r 15), (1, ov_r 4)]) (st2 := [ov_r 15, ov_i 0, ov_r 5]) (pc2 := 54) b_197_52_2 rfl rfl ?_
  refine ov_getf (v := ov_r 16) d_197_54 fl_State_11 (zb_15 I11) (zs_15 I11) (congrArg ov_r (rg_15_6 I11)) ?_
  refine ov_blk (ls2 := [(0, ov_r 15), (1, ov_r 4)]) (st2 := [ov_i 10, ov_i 0, ov_r 16, ov_i 0, ov_r 5]) (pc2 := 60) b_197_57_2 rfl rfl ?_
  refine ov_acp d_197_60 la_State_44 la_1 la_2 la_3 (zb_5 I11) (zs_5 I11) (zb_16 I11) (zs_16 I11) (by omega) (Nat.le_of_ble_eq_true rfl) (by omega) ?_
  have I12 := ov_I_cp (s := 5) (t := 16) (n := 10) I11 (by decide) (fun k => ra_5 I11 k) (fun _ => (hw 16 (by decide +kernel)))
  refine ov_blk (ls2 := [(0, ov_r 15), (1, ov_r 4)]) (st2 := [ov_r 4]) (pc2 := 64) b_197_63_1 rfl rfl ?_
  refine ov_getf (v := ov_r 6) d_197_64 fl_State_15 (zb_4 I12) (zs_4 I12) (congrArg ov_r (rg_4_7 I12)) ?_
  refine ov_blk (ls2 := [(0, ov_r 15), (1, ov_r 4)]) (st2 := [ov_r 15, ov_i 0, ov_r 6]) (pc2 := 69) b_197_67_2 rfl rfl ?_
  refine ov_getf (v := ov_r 17) d_197_69 fl_State_15 (zb_15 I12) (zs_15 I12) (congrArg ov_r (rg_15_7 I12)) ?_
  refine ov_blk (ls2 := [(0, ov_r 15), (1, ov_r 4)]) (st2 := [ov_i 10, ov_i 0, ov_r 17, ov_i 0, ov_r 6]) (pc2 := 75) b_197_72_2 rfl rfl ?_
  refine ov_acp d_197_75 la_State_44 la_1 la_2 la_3 (zb_6 I12) (zs_6 I12) (zb_17 I12) (zs_17 I12) (by omega) (Nat.le_of_ble_eq_true rfl) (by omega) ?_
  have I13 := ov_I_cp (s := 6) (t := 17) (n := 10) I12 (by decide) (fun k => ra_6 I12 k) (fun _ => (hw 17 (by decide +kernel)))
  refine ov_blk (ls2 := [(0, ov_r 15), (1, ov_r 4)]) (st2 := [ov_r 4]) (pc2 := 79) b_197_78_1 rfl rfl ?_
  refine ov_getf (v := ov_r 7) d_197_79 fl_State_18 (zb_4 I13) (zs_4 I13) (congrArg ov_r (rg_4_8 I13)) ?_
  refine ov_blk (ls2 := [(0, ov_r 15), (1, ov_r 4)]) (st2 := [ov_r 15, ov_i 0, ov_r 7]) (pc2 := 84) b_197_82_2 rfl rfl ?_
  refine ov_getf (v := ov_r 18) d_197_84 fl_State_18 (zb_15 I13) (zs_15 I13) (congrArg ov_r (rg_15_8 I13)) ?_
  refine ov_blk (ls2 := [(0, ov_r 15), (1, ov_r 4)]) (st2 := [ov_i 8, ov_i 0, ov_r 18, ov_i 0, ov_r 7]) (pc2 := 90) b_197_87_2 rfl rfl ?_
  refine ov_acp d_197_90 la_State_44 la_1 la_2 la_3 (zb_7 I13) (zs_7 I13) (zb_18 I13) (zs_18 I13) (by omega) (Nat.le_of_ble_eq_true rfl) (by omega) ?_
  have I14 := ov_I_cp (s := 7) (t := 18) (n := 8) I13 (by decide) (fun k => ra_7 I13 k) (fun _ => (hw 18 (by decide +kernel)))
  refine ov_blk (ls2 := [(0, ov_r 15), (1, ov_r 4)]) (st2 := [ov_r 4]) (pc2 := 94) b_197_93_1 rfl rfl ?_
  refine ov_getf (v := ov_r 8) d_197_94 fl_State_21 (zb_4 I14) (zs_4 I14) (congrArg ov_r (rg_4_9 I14)) ?_
  refine ov_blk (ls2 := [(0, ov_r 15), (1, ov_r 4)]) (st2 := [ov_r 15, ov_i 0, ov_r 8]) (pc2 := 99) b_197_97_2 rfl rfl ?_
  refine ov_getf (v := ov_r 19) d_197_99 fl_State_21 (zb_15 I14) (zs_15 I14) (congrArg ov_r (rg_15_9 I14)) ?_
  refine ov_blk (ls2 := [(0, ov_r 15), (1, ov_r 4)]) (st2 := [ov_i 8, ov_i 0, ov_r 19, ov_i 0, ov_r 8]) (pc2 := 105) b_197_102_2 rfl rfl ?_
  refine ov_acp d_197_105 la_State_44 la_1 la_2 la_3 (zb_8 I14) (zs_8 I14) (zb_19 I14) (zs_19 I14) (by omega) (Nat.le_of_ble_eq_true rfl) (by omega) ?_
  have I15 := ov_I_cp (s := 8) (t := 19) (n := 8) I14 (by decide) (fun k => ra_8 I14 k) (fun _ => (hw 19 (by decide +kernel)))
  exact ov_retv (st := []) d_197_108 rfl ⟨rfl, I15, (by show (h 36 7) = (h 36 7) ∧ (h 1 1) = (h 1 1) ∧ (h 90 2) = (h 90 2) ∧ (h 0 10) = (h 0 10) ∧ (h 0 11) = (h 0 11) ∧ (h 0 12) = (h 0 12) ∧ (h 0 13) = (h 0 13) ∧ (h 3 1) = (h 3 1) ∧ (h 36 8) = (h 36 8) ∧ (h 46 3) = (h 46 3) ∧ (h 46 4) = (h 46 4) ∧ (h 49 4) = (h 49 4) ∧ (h 49 5) = (h 49 5) ∧ (h 64 0) = (h 64 0) ∧ (h 76 0) = (h 76 0); omega)⟩
abbrev P_State_copy_20_4 (F : ov_H) (z : ov_Z) (h : ov_H)  : Option ov_V → ov_Z → ov_H → Prop := fun r0 z' h' => r0 = none ∧ ov_I F z' h' ∧ ((h' 36 7) = (h 36 7) ∧ (h' 1 1) = (h 1 1) ∧ (h' 90 2) = (h 90 2) ∧ (h' 0 10) = (h 0 10) ∧ (h' 0 11) = (h 0 11) ∧ (h' 0 12) = (h 0 12) ∧ (h' 0 13) = (h 0 13) ∧ (h' 3 1) = (h 3 1) ∧ (h' 36 8) = (h 36 8) ∧ (h' 46 3) = (h 46 3) ∧ (h' 46 4) = (h 46 4) ∧ (h' 49 4) = (h 49 4) ∧ (h' 49 5) = (h 49 5) ∧ (h' 64 0) = (h 64 0) ∧ (h' 76 0) = (h 76 0))
set_option maxHeartbeats 4000000 in
theorem c_State_copy_20_4 {u : ov_U} {F : ov_H} {z : ov_Z} {h : ov_H} (d : Nat) (hd : 2 ≤ d) (U : ov_cap u) (I : ov_I F z h) (hw : ov_kw 32505856 F) : ov_T u d ov_m197 [ov_r 20, ov_r 4] z h (P_State_copy_20_4 F z h) := by
  refine ov_en rfl (Nat.le_of_ble_eq_true rfl) ?_
  show ov_R u d ov_m197 0 [(0, ov_r 20), (1, ov_r 4)] [] z h (P_State_copy_20_4 F z h)
  refine ov_blk (ls2 := [(0, ov_r 20), (1, ov_r 4)]) (st2 := [ov_r 4, ov_r 20]) (pc2 := 2) b_197_0_2 rfl rfl ?_
  refine ov_getf (v := ov_i (h 4 0)) d_197_2 fl_State_24 (zb_4 I) (zs_4 I) rfl ?_
  have g1 := rg_4_0 I
  refine ov_putf (x := (h 4 0)) d_197_5 fl_State_24 (zb_20 I) (zs_20 I) rfl nk_0 rfl ?_
  have I2 := up_20_0 (x := (h 4 0)) I (by omega) (hw 20 (by decide +kernel))
  refine ov_blk (ls2 := [(0, ov_r 20), (1, ov_r 4)]) (st2 := [ov_r 4, ov_r 20]) (pc2 := 10) b_197_8_2 rfl rfl ?_
  refine ov_getf (v := ov_i (h 4 1)) d_197_10 fl_State_28 (zb_4 I2) (zs_4 I2) rfl ?_
  have g3 := rg_4_1 I
  refine ov_putf (x := (h 4 1)) d_197_13 fl_State_28 (zb_20 I2) (zs_20 I2) rfl nk_0 rfl ?_
  have I4 := up_20_1 (x := (h 4 1)) I2 (by omega) (hw 20 (by decide +kernel))
  refine ov_blk (ls2 := [(0, ov_r 20), (1, ov_r 4)]) (st2 := [ov_r 4, ov_r 20]) (pc2 := 18) b_197_16_2 rfl rfl ?_
  refine ov_getf (v := ov_i (h 4 2)) d_197_18 fl_State_31 (zb_4 I4) (zs_4 I4) rfl ?_
  have g5 := rg_4_2 I
  refine ov_putf (x := (h 4 2)) d_197_21 fl_State_31 (zb_20 I4) (zs_20 I4) rfl nk_0 rfl ?_
  have I6 := up_20_2 (x := (h 4 2)) I4 (by omega) (hw 20 (by decide +kernel))
  refine ov_blk (ls2 := [(0, ov_r 20), (1, ov_r 4)]) (st2 := [ov_r 4, ov_r 20]) (pc2 := 26) b_197_24_2 rfl rfl ?_
  refine ov_getf (v := ov_l (h 4 3)) d_197_26 fl_State_34 (zb_4 I6) (zs_4 I6) rfl ?_
  refine ov_putf (x := (h 4 3)) d_197_29 fl_State_34 (zb_20 I6) (zs_20 I6) rfl nk_1 rfl ?_
  have I7 := up_20_3 (x := (h 4 3)) I6 (hw 20 (by decide +kernel))
  refine ov_blk (ls2 := [(0, ov_r 20), (1, ov_r 4)]) (st2 := [ov_r 4, ov_r 20]) (pc2 := 34) b_197_32_2 rfl rfl ?_
  refine ov_getf (v := ov_i (h 4 4)) d_197_34 fl_State_38 (zb_4 I7) (zs_4 I7) rfl ?_
  have g8 := rg_4_4 I
  refine ov_putf (x := (h 4 4)) d_197_37 fl_State_38 (zb_20 I7) (zs_20 I7) rfl nk_0 rfl ?_
  have I9 := up_20_4 (x := (h 4 4)) I7 (by omega) (hw 20 (by decide +kernel))
  refine ov_blk (ls2 := [(0, ov_r 20), (1, ov_r 4)]) (st2 := [ov_r 4, ov_r 20]) (pc2 := 42) b_197_40_2 rfl rfl ?_
  refine ov_getf (v := ov_i (h 4 5)) d_197_42 fl_State_41 (zb_4 I9) (zs_4 I9) rfl ?_
  have g10 := rg_4_5 I
  refine ov_putf (x := (h 4 5)) d_197_45 fl_State_41 (zb_20 I9) (zs_20 I9) rfl nk_0 rfl ?_
  have I11 := up_20_5 (x := (h 4 5)) I9 (by omega) (hw 20 (by decide +kernel))
  refine ov_blk (ls2 := [(0, ov_r 20), (1, ov_r 4)]) (st2 := [ov_r 4]) (pc2 := 49) b_197_48_1 rfl rfl ?_
  refine ov_getf (v := ov_r 5) d_197_49 fl_State_11 (zb_4 I11) (zs_4 I11) (congrArg ov_r (rg_4_6 I11)) ?_
  refine ov_blk (ls2 := [(0, ov_r 20), (1, ov_r 4)]) (st2 := [ov_r 20, ov_i 0, ov_r 5]) (pc2 := 54) b_197_52_2 rfl rfl ?_
  refine ov_getf (v := ov_r 21) d_197_54 fl_State_11 (zb_20 I11) (zs_20 I11) (congrArg ov_r (rg_20_6 I11)) ?_
  refine ov_blk (ls2 := [(0, ov_r 20), (1, ov_r 4)]) (st2 := [ov_i 10, ov_i 0, ov_r 21, ov_i 0, ov_r 5]) (pc2 := 60) b_197_57_2 rfl rfl ?_
  refine ov_acp d_197_60 la_State_44 la_1 la_2 la_3 (zb_5 I11) (zs_5 I11) (zb_21 I11) (zs_21 I11) (by omega) (Nat.le_of_ble_eq_true rfl) (by omega) ?_
  have I12 := ov_I_cp (s := 5) (t := 21) (n := 10) I11 (by decide) (fun k => ra_5 I11 k) (fun _ => (hw 21 (by decide +kernel)))
  refine ov_blk (ls2 := [(0, ov_r 20), (1, ov_r 4)]) (st2 := [ov_r 4]) (pc2 := 64) b_197_63_1 rfl rfl ?_
  refine ov_getf (v := ov_r 6) d_197_64 fl_State_15 (zb_4 I12) (zs_4 I12) (congrArg ov_r (rg_4_7 I12)) ?_
  refine ov_blk (ls2 := [(0, ov_r 20), (1, ov_r 4)]) (st2 := [ov_r 20, ov_i 0, ov_r 6]) (pc2 := 69) b_197_67_2 rfl rfl ?_
  refine ov_getf (v := ov_r 22) d_197_69 fl_State_15 (zb_20 I12) (zs_20 I12) (congrArg ov_r (rg_20_7 I12)) ?_
  refine ov_blk (ls2 := [(0, ov_r 20), (1, ov_r 4)]) (st2 := [ov_i 10, ov_i 0, ov_r 22, ov_i 0, ov_r 6]) (pc2 := 75) b_197_72_2 rfl rfl ?_
  refine ov_acp d_197_75 la_State_44 la_1 la_2 la_3 (zb_6 I12) (zs_6 I12) (zb_22 I12) (zs_22 I12) (by omega) (Nat.le_of_ble_eq_true rfl) (by omega) ?_
  have I13 := ov_I_cp (s := 6) (t := 22) (n := 10) I12 (by decide) (fun k => ra_6 I12 k) (fun _ => (hw 22 (by decide +kernel)))
  refine ov_blk (ls2 := [(0, ov_r 20), (1, ov_r 4)]) (st2 := [ov_r 4]) (pc2 := 79) b_197_78_1 rfl rfl ?_
  refine ov_getf (v := ov_r 7) d_197_79 fl_State_18 (zb_4 I13) (zs_4 I13) (congrArg ov_r (rg_4_8 I13)) ?_
  refine ov_blk (ls2 := [(0, ov_r 20), (1, ov_r 4)]) (st2 := [ov_r 20, ov_i 0, ov_r 7]) (pc2 := 84) b_197_82_2 rfl rfl ?_
  refine ov_getf (v := ov_r 23) d_197_84 fl_State_18 (zb_20 I13) (zs_20 I13) (congrArg ov_r (rg_20_8 I13)) ?_
  refine ov_blk (ls2 := [(0, ov_r 20), (1, ov_r 4)]) (st2 := [ov_i 8, ov_i 0, ov_r 23, ov_i 0, ov_r 7]) (pc2 := 90) b_197_87_2 rfl rfl ?_
  refine ov_acp d_197_90 la_State_44 la_1 la_2 la_3 (zb_7 I13) (zs_7 I13) (zb_23 I13) (zs_23 I13) (by omega) (Nat.le_of_ble_eq_true rfl) (by omega) ?_
  have I14 := ov_I_cp (s := 7) (t := 23) (n := 8) I13 (by decide) (fun k => ra_7 I13 k) (fun _ => (hw 23 (by decide +kernel)))
  refine ov_blk (ls2 := [(0, ov_r 20), (1, ov_r 4)]) (st2 := [ov_r 4]) (pc2 := 94) b_197_93_1 rfl rfl ?_
  refine ov_getf (v := ov_r 8) d_197_94 fl_State_21 (zb_4 I14) (zs_4 I14) (congrArg ov_r (rg_4_9 I14)) ?_
  refine ov_blk (ls2 := [(0, ov_r 20), (1, ov_r 4)]) (st2 := [ov_r 20, ov_i 0, ov_r 8]) (pc2 := 99) b_197_97_2 rfl rfl ?_
  refine ov_getf (v := ov_r 24) d_197_99 fl_State_21 (zb_20 I14) (zs_20 I14) (congrArg ov_r (rg_20_9 I14)) ?_
  refine ov_blk (ls2 := [(0, ov_r 20), (1, ov_r 4)]) (st2 := [ov_i 8, ov_i 0, ov_r 24, ov_i 0, ov_r 8]) (pc2 := 105) b_197_102_2 rfl rfl ?_
  refine ov_acp d_197_105 la_State_44 la_1 la_2 la_3 (zb_8 I14) (zs_8 I14) (zb_24 I14) (zs_24 I14) (by omega) (Nat.le_of_ble_eq_true rfl) (by omega) ?_
  have I15 := ov_I_cp (s := 8) (t := 24) (n := 8) I14 (by decide) (fun k => ra_8 I14 k) (fun _ => (hw 24 (by decide +kernel)))
  exact ov_retv (st := []) d_197_108 rfl ⟨rfl, I15, (by show (h 36 7) = (h 36 7) ∧ (h 1 1) = (h 1 1) ∧ (h 90 2) = (h 90 2) ∧ (h 0 10) = (h 0 10) ∧ (h 0 11) = (h 0 11) ∧ (h 0 12) = (h 0 12) ∧ (h 0 13) = (h 0 13) ∧ (h 3 1) = (h 3 1) ∧ (h 36 8) = (h 36 8) ∧ (h 46 3) = (h 46 3) ∧ (h 46 4) = (h 46 4) ∧ (h 49 4) = (h 49 4) ∧ (h 49 5) = (h 49 5) ∧ (h 64 0) = (h 64 0) ∧ (h 76 0) = (h 76 0); omega)⟩
abbrev P_State_copy_25_4 (F : ov_H) (z : ov_Z) (h : ov_H)  : Option ov_V → ov_Z → ov_H → Prop := fun r0 z' h' => r0 = none ∧ ov_I F z' h' ∧ ((h' 36 7) = (h 36 7) ∧ (h' 1 1) = (h 1 1) ∧ (h' 90 2) = (h 90 2) ∧ (h' 0 10) = (h 0 10) ∧ (h' 0 11) = (h 0 11) ∧ (h' 0 12) = (h 0 12) ∧ (h' 0 13) = (h 0 13) ∧ (h' 3 1) = (h 3 1) ∧ (h' 36 8) = (h 36 8) ∧ (h' 46 3) = (h 46 3) ∧ (h' 46 4) = (h 46 4) ∧ (h' 49 4) = (h 49 4) ∧ (h' 49 5) = (h 49 5) ∧ (h' 64 0) = (h 64 0) ∧ (h' 76 0) = (h 76 0))
set_option maxHeartbeats 4000000 in
theorem c_State_copy_25_4 {u : ov_U} {F : ov_H} {z : ov_Z} {h : ov_H} (d : Nat) (hd : 2 ≤ d) (U : ov_cap u) (I : ov_I F z h) (hw : ov_kw 1040187392 F) : ov_T u d ov_m197 [ov_r 25, ov_r 4] z h (P_State_copy_25_4 F z h) := by
  refine ov_en rfl (Nat.le_of_ble_eq_true rfl) ?_
  show ov_R u d ov_m197 0 [(0, ov_r 25), (1, ov_r 4)] [] z h (P_State_copy_25_4 F z h)
  refine ov_blk (ls2 := [(0, ov_r 25), (1, ov_r 4)]) (st2 := [ov_r 4, ov_r 25]) (pc2 := 2) b_197_0_2 rfl rfl ?_
  refine ov_getf (v := ov_i (h 4 0)) d_197_2 fl_State_24 (zb_4 I) (zs_4 I) rfl ?_
  have g1 := rg_4_0 I
  refine ov_putf (x := (h 4 0)) d_197_5 fl_State_24 (zb_25 I) (zs_25 I) rfl nk_0 rfl ?_
  have I2 := up_25_0 (x := (h 4 0)) I (by omega) (hw 25 (by decide +kernel))
  refine ov_blk (ls2 := [(0, ov_r 25), (1, ov_r 4)]) (st2 := [ov_r 4, ov_r 25]) (pc2 := 10) b_197_8_2 rfl rfl ?_
  refine ov_getf (v := ov_i (h 4 1)) d_197_10 fl_State_28 (zb_4 I2) (zs_4 I2) rfl ?_
  have g3 := rg_4_1 I
  refine ov_putf (x := (h 4 1)) d_197_13 fl_State_28 (zb_25 I2) (zs_25 I2) rfl nk_0 rfl ?_
  have I4 := up_25_1 (x := (h 4 1)) I2 (by omega) (hw 25 (by decide +kernel))
  refine ov_blk (ls2 := [(0, ov_r 25), (1, ov_r 4)]) (st2 := [ov_r 4, ov_r 25]) (pc2 := 18) b_197_16_2 rfl rfl ?_
  refine ov_getf (v := ov_i (h 4 2)) d_197_18 fl_State_31 (zb_4 I4) (zs_4 I4) rfl ?_
  have g5 := rg_4_2 I
  refine ov_putf (x := (h 4 2)) d_197_21 fl_State_31 (zb_25 I4) (zs_25 I4) rfl nk_0 rfl ?_
  have I6 := up_25_2 (x := (h 4 2)) I4 (by omega) (hw 25 (by decide +kernel))
  refine ov_blk (ls2 := [(0, ov_r 25), (1, ov_r 4)]) (st2 := [ov_r 4, ov_r 25]) (pc2 := 26) b_197_24_2 rfl rfl ?_
  refine ov_getf (v := ov_l (h 4 3)) d_197_26 fl_State_34 (zb_4 I6) (zs_4 I6) rfl ?_
  refine ov_putf (x := (h 4 3)) d_197_29 fl_State_34 (zb_25 I6) (zs_25 I6) rfl nk_1 rfl ?_
  have I7 := up_25_3 (x := (h 4 3)) I6 (hw 25 (by decide +kernel))
  refine ov_blk (ls2 := [(0, ov_r 25), (1, ov_r 4)]) (st2 := [ov_r 4, ov_r 25]) (pc2 := 34) b_197_32_2 rfl rfl ?_
  refine ov_getf (v := ov_i (h 4 4)) d_197_34 fl_State_38 (zb_4 I7) (zs_4 I7) rfl ?_
  have g8 := rg_4_4 I
  refine ov_putf (x := (h 4 4)) d_197_37 fl_State_38 (zb_25 I7) (zs_25 I7) rfl nk_0 rfl ?_
  have I9 := up_25_4 (x := (h 4 4)) I7 (by omega) (hw 25 (by decide +kernel))
  refine ov_blk (ls2 := [(0, ov_r 25), (1, ov_r 4)]) (st2 := [ov_r 4, ov_r 25]) (pc2 := 42) b_197_40_2 rfl rfl ?_
  refine ov_getf (v := ov_i (h 4 5)) d_197_42 fl_State_41 (zb_4 I9) (zs_4 I9) rfl ?_
  have g10 := rg_4_5 I
  refine ov_putf (x := (h 4 5)) d_197_45 fl_State_41 (zb_25 I9) (zs_25 I9) rfl nk_0 rfl ?_
  have I11 := up_25_5 (x := (h 4 5)) I9 (by omega) (hw 25 (by decide +kernel))
  refine ov_blk (ls2 := [(0, ov_r 25), (1, ov_r 4)]) (st2 := [ov_r 4]) (pc2 := 49) b_197_48_1 rfl rfl ?_
  refine ov_getf (v := ov_r 5) d_197_49 fl_State_11 (zb_4 I11) (zs_4 I11) (congrArg ov_r (rg_4_6 I11)) ?_
  refine ov_blk (ls2 := [(0, ov_r 25), (1, ov_r 4)]) (st2 := [ov_r 25, ov_i 0, ov_r 5]) (pc2 := 54) b_197_52_2 rfl rfl ?_
  refine ov_getf (v := ov_r 26) d_197_54 fl_State_11 (zb_25 I11) (zs_25 I11) (congrArg ov_r (rg_25_6 I11)) ?_
  refine ov_blk (ls2 := [(0, ov_r 25), (1, ov_r 4)]) (st2 := [ov_i 10, ov_i 0, ov_r 26, ov_i 0, ov_r 5]) (pc2 := 60) b_197_57_2 rfl rfl ?_
  refine ov_acp d_197_60 la_State_44 la_1 la_2 la_3 (zb_5 I11) (zs_5 I11) (zb_26 I11) (zs_26 I11) (by omega) (Nat.le_of_ble_eq_true rfl) (by omega) ?_
  have I12 := ov_I_cp (s := 5) (t := 26) (n := 10) I11 (by decide) (fun k => ra_5 I11 k) (fun _ => (hw 26 (by decide +kernel)))
  refine ov_blk (ls2 := [(0, ov_r 25), (1, ov_r 4)]) (st2 := [ov_r 4]) (pc2 := 64) b_197_63_1 rfl rfl ?_
  refine ov_getf (v := ov_r 6) d_197_64 fl_State_15 (zb_4 I12) (zs_4 I12) (congrArg ov_r (rg_4_7 I12)) ?_
  refine ov_blk (ls2 := [(0, ov_r 25), (1, ov_r 4)]) (st2 := [ov_r 25, ov_i 0, ov_r 6]) (pc2 := 69) b_197_67_2 rfl rfl ?_
  refine ov_getf (v := ov_r 27) d_197_69 fl_State_15 (zb_25 I12) (zs_25 I12) (congrArg ov_r (rg_25_7 I12)) ?_
  refine ov_blk (ls2 := [(0, ov_r 25), (1, ov_r 4)]) (st2 := [ov_i 10, ov_i 0, ov_r 27, ov_i 0, ov_r 6]) (pc2 := 75) b_197_72_2 rfl rfl ?_
  refine ov_acp d_197_75 la_State_44 la_1 la_2 la_3 (zb_6 I12) (zs_6 I12) (zb_27 I12) (zs_27 I12) (by omega) (Nat.le_of_ble_eq_true rfl) (by omega) ?_
  have I13 := ov_I_cp (s := 6) (t := 27) (n := 10) I12 (by decide) (fun k => ra_6 I12 k) (fun _ => (hw 27 (by decide +kernel)))
  refine ov_blk (ls2 := [(0, ov_r 25), (1, ov_r 4)]) (st2 := [ov_r 4]) (pc2 := 79) b_197_78_1 rfl rfl ?_
  refine ov_getf (v := ov_r 7) d_197_79 fl_State_18 (zb_4 I13) (zs_4 I13) (congrArg ov_r (rg_4_8 I13)) ?_
  refine ov_blk (ls2 := [(0, ov_r 25), (1, ov_r 4)]) (st2 := [ov_r 25, ov_i 0, ov_r 7]) (pc2 := 84) b_197_82_2 rfl rfl ?_
  refine ov_getf (v := ov_r 28) d_197_84 fl_State_18 (zb_25 I13) (zs_25 I13) (congrArg ov_r (rg_25_8 I13)) ?_
  refine ov_blk (ls2 := [(0, ov_r 25), (1, ov_r 4)]) (st2 := [ov_i 8, ov_i 0, ov_r 28, ov_i 0, ov_r 7]) (pc2 := 90) b_197_87_2 rfl rfl ?_
  refine ov_acp d_197_90 la_State_44 la_1 la_2 la_3 (zb_7 I13) (zs_7 I13) (zb_28 I13) (zs_28 I13) (by omega) (Nat.le_of_ble_eq_true rfl) (by omega) ?_
  have I14 := ov_I_cp (s := 7) (t := 28) (n := 8) I13 (by decide) (fun k => ra_7 I13 k) (fun _ => (hw 28 (by decide +kernel)))
  refine ov_blk (ls2 := [(0, ov_r 25), (1, ov_r 4)]) (st2 := [ov_r 4]) (pc2 := 94) b_197_93_1 rfl rfl ?_
  refine ov_getf (v := ov_r 8) d_197_94 fl_State_21 (zb_4 I14) (zs_4 I14) (congrArg ov_r (rg_4_9 I14)) ?_
  refine ov_blk (ls2 := [(0, ov_r 25), (1, ov_r 4)]) (st2 := [ov_r 25, ov_i 0, ov_r 8]) (pc2 := 99) b_197_97_2 rfl rfl ?_
  refine ov_getf (v := ov_r 29) d_197_99 fl_State_21 (zb_25 I14) (zs_25 I14) (congrArg ov_r (rg_25_9 I14)) ?_
  refine ov_blk (ls2 := [(0, ov_r 25), (1, ov_r 4)]) (st2 := [ov_i 8, ov_i 0, ov_r 29, ov_i 0, ov_r 8]) (pc2 := 105) b_197_102_2 rfl rfl ?_
  refine ov_acp d_197_105 la_State_44 la_1 la_2 la_3 (zb_8 I14) (zs_8 I14) (zb_29 I14) (zs_29 I14) (by omega) (Nat.le_of_ble_eq_true rfl) (by omega) ?_
  have I15 := ov_I_cp (s := 8) (t := 29) (n := 8) I14 (by decide) (fun k => ra_8 I14 k) (fun _ => (hw 29 (by decide +kernel)))
  exact ov_retv (st := []) d_197_108 rfl ⟨rfl, I15, (by show (h 36 7) = (h 36 7) ∧ (h 1 1) = (h 1 1) ∧ (h 90 2) = (h 90 2) ∧ (h 0 10) = (h 0 10) ∧ (h 0 11) = (h 0 11) ∧ (h 0 12) = (h 0 12) ∧ (h 0 13) = (h 0 13) ∧ (h 3 1) = (h 3 1) ∧ (h 36 8) = (h 36 8) ∧ (h 46 3) = (h 46 3) ∧ (h 46 4) = (h 46 4) ∧ (h 49 4) = (h 49 4) ∧ (h 49 5) = (h 49 5) ∧ (h 64 0) = (h 64 0) ∧ (h 76 0) = (h 76 0); omega)⟩
abbrev P_State_copy_30_4 (F : ov_H) (z : ov_Z) (h : ov_H)  : Option ov_V → ov_Z → ov_H → Prop := fun r0 z' h' => r0 = none ∧ ov_I F z' h' ∧ ((h' 36 7) = (h 36 7) ∧ (h' 1 1) = (h 1 1) ∧ (h' 90 2) = (h 90 2) ∧ (h' 0 10) = (h 0 10) ∧ (h' 0 11) = (h 0 11) ∧ (h' 0 12) = (h 0 12) ∧ (h' 0 13) = (h 0 13) ∧ (h' 3 1) = (h 3 1) ∧ (h' 36 8) = (h 36 8) ∧ (h' 46 3) = (h 46 3) ∧ (h' 46 4) = (h 46 4) ∧ (h' 49 4) = (h 49 4) ∧ (h' 49 5) = (h 49 5) ∧ (h' 64 0) = (h 64 0) ∧ (h' 76 0) = (h 76 0))
set_option maxHeartbeats 4000000 in
theorem c_State_copy_30_4 {u : ov_U} {F : ov_H} {z : ov_Z} {h : ov_H} (d : Nat) (hd : 2 ≤ d) (U : ov_cap u) (I : ov_I F z h) (hw : ov_kw 33285996544 F) : ov_T u d ov_m197 [ov_r 30, ov_r 4] z h (P_State_copy_30_4 F z h) := by
  refine ov_en rfl (Nat.le_of_ble_eq_true rfl) ?_
  show ov_R u d ov_m197 0 [(0, ov_r 30), (1, ov_r 4)] [] z h (P_State_copy_30_4 F z h)
  refine ov_blk (ls2 := [(0, ov_r 30), (1, ov_r 4)]) (st2 := [ov_r 4, ov_r 30]) (pc2 := 2) b_197_0_2 rfl rfl ?_
  refine ov_getf (v := ov_i (h 4 0)) d_197_2 fl_State_24 (zb_4 I) (zs_4 I) rfl ?_
  have g1 := rg_4_0 I
  refine ov_putf (x := (h 4 0)) d_197_5 fl_State_24 (zb_30 I) (zs_30 I) rfl nk_0 rfl ?_
  have I2 := up_30_0 (x := (h 4 0)) I (by omega) (hw 30 (by decide +kernel))
  refine ov_blk (ls2 := [(0, ov_r 30), (1, ov_r 4)]) (st2 := [ov_r 4, ov_r 30]) (pc2 := 10) b_197_8_2 rfl rfl ?_
  refine ov_getf (v := ov_i (h 4 1)) d_197_10 fl_State_28 (zb_4 I2) (zs_4 I2) rfl ?_
  have g3 := rg_4_1 I
  refine ov_putf (x := (h 4 1)) d_197_13 fl_State_28 (zb_30 I2) (zs_30 I2) rfl nk_0 rfl ?_
  have I4 := up_30_1 (x := (h 4 1)) I2 (by omega) (hw 30 (by decide +kernel))
  refine ov_blk (ls2 := [(0, ov_r 30), (1, ov_r 4)]) (st2 := [ov_r 4, ov_r 30]) (pc2 := 18) b_197_16_2 rfl rfl ?_
  refine ov_getf (v := ov_i (h 4 2)) d_197_18 fl_State_31 (zb_4 I4) (zs_4 I4) rfl ?_
  have g5 := rg_4_2 I
  refine ov_putf (x := (h 4 2)) d_197_21 fl_State_31 (zb_30 I4) (zs_30 I4) rfl nk_0 rfl ?_
  have I6 := up_30_2 (x := (h 4 2)) I4 (by omega) (hw 30 (by decide +kernel))
  refine ov_blk (ls2 := [(0, ov_r 30), (1, ov_r 4)]) (st2 := [ov_r 4, ov_r 30]) (pc2 := 26) b_197_24_2 rfl rfl ?_
  refine ov_getf (v := ov_l (h 4 3)) d_197_26 fl_State_34 (zb_4 I6) (zs_4 I6) rfl ?_
  refine ov_putf (x := (h 4 3)) d_197_29 fl_State_34 (zb_30 I6) (zs_30 I6) rfl nk_1 rfl ?_
  have I7 := up_30_3 (x := (h 4 3)) I6 (hw 30 (by decide +kernel))
  refine ov_blk (ls2 := [(0, ov_r 30), (1, ov_r 4)]) (st2 := [ov_r 4, ov_r 30]) (pc2 := 34) b_197_32_2 rfl rfl ?_
  refine ov_getf (v := ov_i (h 4 4)) d_197_34 fl_State_38 (zb_4 I7) (zs_4 I7) rfl ?_
  have g8 := rg_4_4 I
  refine ov_putf (x := (h 4 4)) d_197_37 fl_State_38 (zb_30 I7) (zs_30 I7) rfl nk_0 rfl ?_
  have I9 := up_30_4 (x := (h 4 4)) I7 (by omega) (hw 30 (by decide +kernel))
  refine ov_blk (ls2 := [(0, ov_r 30), (1, ov_r 4)]) (st2 := [ov_r 4, ov_r 30]) (pc2 := 42) b_197_40_2 rfl rfl ?_
  refine ov_getf (v := ov_i (h 4 5)) d_197_42 fl_State_41 (zb_4 I9) (zs_4 I9) rfl ?_
  have g10 := rg_4_5 I
  refine ov_putf (x := (h 4 5)) d_197_45 fl_State_41 (zb_30 I9) (zs_30 I9) rfl nk_0 rfl ?_
  have I11 := up_30_5 (x := (h 4 5)) I9 (by omega) (hw 30 (by decide +kernel))
  refine ov_blk (ls2 := [(0, ov_r 30), (1, ov_r 4)]) (st2 := [ov_r 4]) (pc2 := 49) b_197_48_1 rfl rfl ?_
  refine ov_getf (v := ov_r 5) d_197_49 fl_State_11 (zb_4 I11) (zs_4 I11) (congrArg ov_r (rg_4_6 I11)) ?_
  refine ov_blk (ls2 := [(0, ov_r 30), (1, ov_r 4)]) (st2 := [ov_r 30, ov_i 0, ov_r 5]) (pc2 := 54) b_197_52_2 rfl rfl ?_
  refine ov_getf (v := ov_r 31) d_197_54 fl_State_11 (zb_30 I11) (zs_30 I11) (congrArg ov_r (rg_30_6 I11)) ?_
  refine ov_blk (ls2 := [(0, ov_r 30), (1, ov_r 4)]) (st2 := [ov_i 10, ov_i 0, ov_r 31, ov_i 0, ov_r 5]) (pc2 := 60) b_197_57_2 rfl rfl ?_
  refine ov_acp d_197_60 la_State_44 la_1 la_2 la_3 (zb_5 I11) (zs_5 I11) (zb_31 I11) (zs_31 I11) (by omega) (Nat.le_of_ble_eq_true rfl) (by omega) ?_
  have I12 := ov_I_cp (s := 5) (t := 31) (n := 10) I11 (by decide) (fun k => ra_5 I11 k) (fun _ => (hw 31 (by decide +kernel)))
  refine ov_blk (ls2 := [(0, ov_r 30), (1, ov_r 4)]) (st2 := [ov_r 4]) (pc2 := 64) b_197_63_1 rfl rfl ?_
  refine ov_getf (v := ov_r 6) d_197_64 fl_State_15 (zb_4 I12) (zs_4 I12) (congrArg ov_r (rg_4_7 I12)) ?_
  refine ov_blk (ls2 := [(0, ov_r 30), (1, ov_r 4)]) (st2 := [ov_r 30, ov_i 0, ov_r 6]) (pc2 := 69) b_197_67_2 rfl rfl ?_
  refine ov_getf (v := ov_r 32) d_197_69 fl_State_15 (zb_30 I12) (zs_30 I12) (congrArg ov_r (rg_30_7 I12)) ?_
  refine ov_blk (ls2 := [(0, ov_r 30), (1, ov_r 4)]) (st2 := [ov_i 10, ov_i 0, ov_r 32, ov_i 0, ov_r 6]) (pc2 := 75) b_197_72_2 rfl rfl ?_
  refine ov_acp d_197_75 la_State_44 la_1 la_2 la_3 (zb_6 I12) (zs_6 I12) (zb_32 I12) (zs_32 I12) (by omega) (Nat.le_of_ble_eq_true rfl) (by omega) ?_
  have I13 := ov_I_cp (s := 6) (t := 32) (n := 10) I12 (by decide) (fun k => ra_6 I12 k) (fun _ => (hw 32 (by decide +kernel)))
  refine ov_blk (ls2 := [(0, ov_r 30), (1, ov_r 4)]) (st2 := [ov_r 4]) (pc2 := 79) b_197_78_1 rfl rfl ?_
  refine ov_getf (v := ov_r 7) d_197_79 fl_State_18 (zb_4 I13) (zs_4 I13) (congrArg ov_r (rg_4_8 I13)) ?_
  refine ov_blk (ls2 := [(0, ov_r 30), (1, ov_r 4)]) (st2 := [ov_r 30, ov_i 0, ov_r 7]) (pc2 := 84) b_197_82_2 rfl rfl ?_
  refine ov_getf (v := ov_r 33) d_197_84 fl_State_18 (zb_30 I13) (zs_30 I13) (congrArg ov_r (rg_30_8 I13)) ?_
  refine ov_blk (ls2 := [(0, ov_r 30), (1, ov_r 4)]) (st2 := [ov_i 8, ov_i 0, ov_r 33, ov_i 0, ov_r 7]) (pc2 := 90) b_197_87_2 rfl rfl ?_
  refine ov_acp d_197_90 la_State_44 la_1 la_2 la_3 (zb_7 I13) (zs_7 I13) (zb_33 I13) (zs_33 I13) (by omega) (Nat.le_of_ble_eq_true rfl) (by omega) ?_
  have I14 := ov_I_cp (s := 7) (t := 33) (n := 8) I13 (by decide) (fun k => ra_7 I13 k) (fun _ => (hw 33 (by decide +kernel)))
  refine ov_blk (ls2 := [(0, ov_r 30), (1, ov_r 4)]) (st2 := [ov_r 4]) (pc2 := 94) b_197_93_1 rfl rfl ?_
  refine ov_getf (v := ov_r 8) d_197_94 fl_State_21 (zb_4 I14) (zs_4 I14) (congrArg ov_r (rg_4_9 I14)) ?_
  refine ov_blk (ls2 := [(0, ov_r 30), (1, ov_r 4)]) (st2 := [ov_r 30, ov_i 0, ov_r 8]) (pc2 := 99) b_197_97_2 rfl rfl ?_
  refine ov_getf (v := ov_r 34) d_197_99 fl_State_21 (zb_30 I14) (zs_30 I14) (congrArg ov_r (rg_30_9 I14)) ?_
  refine ov_blk (ls2 := [(0, ov_r 30), (1, ov_r 4)]) (st2 := [ov_i 8, ov_i 0, ov_r 34, ov_i 0, ov_r 8]) (pc2 := 105) b_197_102_2 rfl rfl ?_
  refine ov_acp d_197_105 la_State_44 la_1 la_2 la_3 (zb_8 I14) (zs_8 I14) (zb_34 I14) (zs_34 I14) (by omega) (Nat.le_of_ble_eq_true rfl) (by omega) ?_
  have I15 := ov_I_cp (s := 8) (t := 34) (n := 8) I14 (by decide) (fun k => ra_8 I14 k) (fun _ => (hw 34 (by decide +kernel)))
  exact ov_retv (st := []) d_197_108 rfl ⟨rfl, I15, (by show (h 36 7) = (h 36 7) ∧ (h 1 1) = (h 1 1) ∧ (h 90 2) = (h 90 2) ∧ (h 0 10) = (h 0 10) ∧ (h 0 11) = (h 0 11) ∧ (h 0 12) = (h 0 12) ∧ (h 0 13) = (h 0 13) ∧ (h 3 1) = (h 3 1) ∧ (h 36 8) = (h 36 8) ∧ (h 46 3) = (h 46 3) ∧ (h 46 4) = (h 46 4) ∧ (h 49 4) = (h 49 4) ∧ (h 49 5) = (h 49 5) ∧ (h 64 0) = (h 64 0) ∧ (h 76 0) = (h 76 0); omega)⟩
abbrev P_History_clear_9 (F : ov_H) (z : ov_Z) (h : ov_H)  : Option ov_V → ov_Z → ov_H → Prop := fun r0 z' h' => r0 = none ∧ ov_I F z' h' ∧ ((h' 36 7) = (h 36 7) ∧ (h' 1 1) = (h 1 1) ∧ (h' 90 2) = (h 90 2) ∧ (h' 0 10) = (h 0 10) ∧ (h' 0 11) = (h 0 11) ∧ (h' 0 12) = (h 0 12) ∧ (h' 0 13) = (h 0 13) ∧ (h' 3 1) = (h 3 1) ∧ (h' 36 8) = (h 36 8) ∧ (h' 46 3) = (h 46 3) ∧ (h' 46 4) = (h 46 4) ∧ (h' 49 4) = (h 49 4) ∧ (h' 49 5) = (h 49 5) ∧ (h' 64 0) = (h 64 0) ∧ (h' 76 0) = (h 76 0))
set_option maxHeartbeats 4000000 in
theorem c_History_clear_9 {u : ov_U} {F : ov_H} {z : ov_Z} {h : ov_H} (d : Nat) (hd : 0 ≤ d) (U : ov_cap u) (I : ov_I F z h) (hw : ov_kw 512 F) : ov_T u d ov_m82 [ov_r 9] z h (P_History_clear_9 F z h) := by
  refine ov_en rfl (Nat.le_of_ble_eq_true rfl) ?_
  show ov_R u d ov_m82 0 [(0, ov_r 9)] [] z h (P_History_clear_9 F z h)
  refine ov_blk (ls2 := [(0, ov_r 9)]) (st2 := [ov_i 0, ov_r 9]) (pc2 := 2) b_82_0_2 rfl rfl ?_
  refine ov_putf (x := 0) d_82_2 fl_History_23 (zb_9 I) (zs_9 I) rfl nk_0 rfl ?_
  have I1 := up_9_0 (x := 0) I (by omega) (hw 9 (by decide +kernel))
  exact ov_retv (st := []) d_82_5 rfl ⟨rfl, I1, (by show (h 36 7) = (h 36 7) ∧ (h 1 1) = (h 1 1) ∧ (h 90 2) = (h 90 2) ∧ (h 0 10) = (h 0 10) ∧ (h 0 11) = (h 0 11) ∧ (h 0 12) = (h 0 12) ∧ (h 0 13) = (h 0 13) ∧ (h 3 1) = (h 3 1) ∧ (h 36 8) = (h 36 8) ∧ (h 46 3) = (h 46 3) ∧ (h 46 4) = (h 46 4) ∧ (h 49 4) = (h 49 4) ∧ (h 49 5) = (h 49 5) ∧ (h 64 0) = (h 64 0) ∧ (h 76 0) = (h 76 0); omega)⟩
abbrev P_History_keep_9_4 (F : ov_H) (z : ov_Z) (h : ov_H)  : Option ov_V → ov_Z → ov_H → Prop := fun r0 z' h' => r0 = none ∧ ov_I F z' h' ∧ ((h' 36 7) = (h 36 7) ∧ (h' 1 1) = (h 1 1) ∧ (h' 90 2) = (h 90 2) ∧ (h' 0 10) = (h 0 10) ∧ (h' 0 11) = (h 0 11) ∧ (h' 0 12) = (h 0 12) ∧ (h' 0 13) = (h 0 13) ∧ (h' 3 1) = (h 3 1) ∧ (h' 36 8) = (h 36 8) ∧ (h' 46 3) = (h 46 3) ∧ (h' 46 4) = (h 46 4) ∧ (h' 49 4) = (h 49 4) ∧ (h' 49 5) = (h 49 5) ∧ (h' 64 0) = (h 64 0) ∧ (h' 76 0) = (h 76 0))
set_option maxHeartbeats 4000000 in
theorem c_History_keep_9_4 {u : ov_U} {F : ov_H} {z : ov_Z} {h : ov_H} (d : Nat) (hd : 1 ≤ d) (U : ov_cap u) (I : ov_I F z h) (hw : ov_kw 15872 F) : ov_T u d ov_m104 [ov_r 9, ov_r 4] z h (P_History_keep_9_4 F z h) := by
  refine ov_en rfl (Nat.le_of_ble_eq_true rfl) ?_
  show ov_R u d ov_m104 0 [(0, ov_r 9), (1, ov_r 4)] [] z h (P_History_keep_9_4 F z h)
  refine ov_blk (ls2 := [(0, ov_r 9), (1, ov_r 4)]) (st2 := [ov_r 9]) (pc2 := 1) b_104_0_1 rfl rfl ?_
  refine ov_getf (v := ov_r 10) d_104_1 fl_History_9 (zb_9 I) (zs_9 I) (congrArg ov_r (rg_9_2 I)) ?_
  refine ov_blk (ls2 := [(0, ov_r 9), (1, ov_r 4)]) (st2 := [ov_r 9, ov_r 10]) (pc2 := 5) b_104_4_1 rfl rfl ?_
  refine ov_getf (v := ov_i (h 9 1)) d_104_5 fl_History_27 (zb_9 I) (zs_9 I) rfl ?_
  have g1 := rg_9_1 I
  refine ov_blk (ls2 := [(0, ov_r 9), (1, ov_r 4)]) (st2 := [ov_r 4, ov_i (h 9 1), ov_r 10]) (pc2 := 9) b_104_8_1 rfl rfl ?_
  refine ov_getf (v := ov_i (h 4 0)) d_104_9 fl_History_30 (zb_4 I) (zs_4 I) rfl ?_
  have g2 := rg_4_0 I
  refine ov_iast d_104_12 (zb_10 I) (zs_10 I) (by omega) ?_
  have I3 := ua_10 (k := (h 9 1)) (x := (h 4 0)) I (by omega) (hw 10 (by decide +kernel))
  refine ov_blk (ls2 := [(0, ov_r 9), (1, ov_r 4)]) (st2 := [ov_r 9]) (pc2 := 14) b_104_13_1 rfl rfl ?_
  refine ov_getf (v := ov_r 11) d_104_14 fl_History_13 (zb_9 I3) (zs_9 I3) (congrArg ov_r (rg_9_3 I3)) ?_
  refine ov_blk (ls2 := [(0, ov_r 9), (1, ov_r 4)]) (st2 := [ov_r 9, ov_r 11]) (pc2 := 18) b_104_17_1 rfl rfl ?_
  refine ov_getf (v := ov_i (h 9 1)) d_104_18 fl_History_27 (zb_9 I3) (zs_9 I3) rfl ?_
  refine ov_blk (ls2 := [(0, ov_r 9), (1, ov_r 4)]) (st2 := [ov_r 4, ov_i (h 9 1), ov_r 11]) (pc2 := 22) b_104_21_1 rfl rfl ?_
  refine ov_getf (v := ov_i (h 4 1)) d_104_22 fl_History_35 (zb_4 I3) (zs_4 I3) rfl ?_
  have g5 := rg_4_1 I
  refine ov_iast d_104_25 (zb_11 I3) (zs_11 I3) (by omega) ?_
  have I6 := ua_11 (k := (h 9 1)) (x := (h 4 1)) I3 (by omega) (hw 11 (by decide +kernel))
  refine ov_blk (ls2 := [(0, ov_r 9), (1, ov_r 4)]) (st2 := [ov_r 9]) (pc2 := 27) b_104_26_1 rfl rfl ?_
  refine ov_getf (v := ov_r 12) d_104_27 fl_History_16 (zb_9 I6) (zs_9 I6) (congrArg ov_r (rg_9_4 I6)) ?_
  refine ov_blk (ls2 := [(0, ov_r 9), (1, ov_r 4)]) (st2 := [ov_r 9, ov_r 12]) (pc2 := 31) b_104_30_1 rfl rfl ?_
  refine ov_getf (v := ov_i (h 9 1)) d_104_31 fl_History_27 (zb_9 I6) (zs_9 I6) rfl ?_
  refine ov_blk (ls2 := [(0, ov_r 9), (1, ov_r 4)]) (st2 := [ov_r 4, ov_i (h 9 1), ov_r 12]) (pc2 := 35) b_104_34_1 rfl rfl ?_
  refine ov_getf (v := ov_i (h 4 2)) d_104_35 fl_History_38 (zb_4 I6) (zs_4 I6) rfl ?_
  have g8 := rg_4_2 I
  refine ov_iast d_104_38 (zb_12 I6) (zs_12 I6) (by omega) ?_
  have I9 := ua_12 (k := (h 9 1)) (x := (h 4 2)) I6 (by omega) (hw 12 (by decide +kernel))
  refine ov_blk (ls2 := [(0, ov_r 9), (1, ov_r 4)]) (st2 := [ov_r 9]) (pc2 := 40) b_104_39_1 rfl rfl ?_
  refine ov_getf (v := ov_r 13) d_104_40 fl_History_19 (zb_9 I9) (zs_9 I9) (congrArg ov_r (rg_9_5 I9)) ?_
  refine ov_blk (ls2 := [(0, ov_r 9), (1, ov_r 4)]) (st2 := [ov_r 9, ov_r 13]) (pc2 := 44) b_104_43_1 rfl rfl ?_
  refine ov_getf (v := ov_i (h 9 1)) d_104_44 fl_History_27 (zb_9 I9) (zs_9 I9) rfl ?_
  refine ov_blk (ls2 := [(0, ov_r 9), (1, ov_r 4)]) (st2 := [ov_r 4, ov_i (h 9 1), ov_r 13]) (pc2 := 48) b_104_47_1 rfl rfl ?_
  refine ov_getf (v := ov_l (h 4 3)) d_104_48 fl_History_40 (zb_4 I9) (zs_4 I9) rfl ?_
  refine ov_last d_104_51 (zb_13 I9) (zs_13 I9) (by omega) ?_
  have I11 := ua_13 (k := (h 9 1)) (x := (h 4 3)) I9 (hw 13 (by decide +kernel))
  refine ov_blk (ls2 := [(0, ov_r 9), (1, ov_r 4)]) (st2 := [ov_r 9, ov_r 9]) (pc2 := 54) b_104_52_2 rfl rfl ?_
  refine ov_getf (v := ov_i (h 9 1)) d_104_54 fl_History_27 (zb_9 I11) (zs_9 I11) rfl ?_
  refine ov_blk (ls2 := [(0, ov_r 9), (1, ov_r 4)]) (st2 := [ov_i 16, ov_i ((h 9 1) + 1), ov_r 9]) (pc2 := 61) b_104_57_3 rfl rfl ?_
  refine ov_irem d_104_61 (by omega) (by omega) (by omega) ?_
  have g13 := ov_tm (a := ((h 9 1) + 1)) (b := 16) (by omega)
  have g14 := ov_tmg (a := ((h 9 1) + 1)) (b := 16) (by omega) (by omega)
  refine ov_putf (x := (Int.tmod ((h 9 1) + 1) 16)) d_104_62 fl_History_27 (zb_9 I11) (zs_9 I11) rfl nk_0 rfl ?_
  have I15 := up_9_1 (x := (Int.tmod ((h 9 1) + 1) 16)) I11 (by omega) (hw 9 (by decide +kernel))
  refine ov_blk (ls2 := [(0, ov_r 9), (1, ov_r 4)]) (st2 := [ov_r 9, ov_r 9]) (pc2 := 67) b_104_65_2 rfl rfl ?_
  refine ov_getf (v := ov_i (h 9 0)) d_104_67 fl_History_23 (zb_9 I15) (zs_9 I15) rfl ?_
  have g16 := rg_9_0 I
  refine ov_blk (ls2 := [(0, ov_r 9), (1, ov_r 4)]) (st2 := [ov_i 16, ov_i ((h 9 0) + 1), ov_r 9]) (pc2 := 74) b_104_70_3 rfl rfl ?_
  refine ov_cS (as := [ov_i ((h 9 0) + 1), ov_i 16]) (st := [ov_r 9]) (d2 := d - 1) d_104_74 lk_History_44 rfl (Nat.le_of_ble_eq_true rfl) (by omega) (c_Math_min (d - 1) (by omega) U I15 ((h 9 0) + 1) 16 (by omega) (by omega)) ?_
  rintro _ _ _ ⟨v18, rfl, rfl, rfl, f17⟩
  show ov_R u d ov_m104 77 [(0, ov_r 9), (1, ov_r 4)] [ov_i v18, ov_r 9] z (ov_up (ov_up (ov_up (ov_up (ov_up h 10 (h 9 1) (h 4 0)) 11 (h 9 1) (h 4 1)) 12 (h 9 1) (h 4 2)) 13 (h 9 1) (h 4 3)) 9 1 (Int.tmod ((h 9 1) + 1) 16)) (P_History_keep_9_4 F z h)
  have f19 : v18 ≤ ((h 9 0) + 1) ∧ v18 ≤ (16 : Int) ∧ (v18 = ((h 9 0) + 1) ∨ v18 = (16 : Int)) := f17
  clear f17
  refine ov_putf (x := v18) d_104_77 fl_History_23 (zb_9 I15) (zs_9 I15) rfl nk_0 rfl ?_
  have I20 := up_9_0 (x := v18) I15 (by omega) (hw 9 (by decide +kernel))
  exact ov_retv (st := []) d_104_80 rfl ⟨rfl, I20, (by show (h 36 7) = (h 36 7) ∧ (h 1 1) = (h 1 1) ∧ (h 90 2) = (h 90 2) ∧ (h 0 10) = (h 0 10) ∧ (h 0 11) = (h 0 11) ∧ (h 0 12) = (h 0 12) ∧ (h 0 13) = (h 0 13) ∧ (h 3 1) = (h 3 1) ∧ (h 36 8) = (h 36 8) ∧ (h 46 3) = (h 46 3) ∧ (h 46 4) = (h 46 4) ∧ (h 49 4) = (h 49 4) ∧ (h 49 5) = (h 49 5) ∧ (h 64 0) = (h 64 0) ∧ (h 76 0) = (h 76 0); omega)⟩
abbrev P_History_giveBack_9_4 (F : ov_H) (z : ov_Z) (h : ov_H)  : Option ov_V → ov_Z → ov_H → Prop := fun r0 z' h' => ∃ r : Int, r0 = some (ov_i r) ∧ ov_I F z' h' ∧ ((r = 0 ∨ r = 1) ∧ (h' 36 7) = (h 36 7) ∧ (h' 1 1) = (h 1 1) ∧ (h' 90 2) = (h 90 2) ∧ (h' 0 10) = (h 0 10) ∧ (h' 0 11) = (h 0 11) ∧ (h' 0 12) = (h 0 12) ∧ (h' 0 13) = (h 0 13) ∧ (h' 3 1) = (h 3 1) ∧ (h' 36 8) = (h 36 8) ∧ (h' 46 3) = (h 46 3) ∧ (h' 46 4) = (h 46 4) ∧ (h' 49 4) = (h 49 4) ∧ (h' 49 5) = (h 49 5) ∧ (h' 64 0) = (h 64 0) ∧ (h' 76 0) = (h 76 0))
set_option maxHeartbeats 4000000 in
theorem c_History_giveBack_9_4 {u : ov_U} {F : ov_H} {z : ov_Z} {h : ov_H} (d : Nat) (hd : 0 ≤ d) (U : ov_cap u) (I : ov_I F z h) (hw : ov_kw 528 F) : ov_T u d ov_m108 [ov_r 9, ov_r 4] z h (P_History_giveBack_9_4 F z h) := by
  refine ov_en rfl (Nat.le_of_ble_eq_true rfl) ?_
  show ov_R u d ov_m108 0 [(0, ov_r 9), (1, ov_r 4)] [] z h (P_History_giveBack_9_4 F z h)
  refine ov_blk (ls2 := [(0, ov_r 9), (1, ov_r 4)]) (st2 := [ov_r 9]) (pc2 := 1) b_108_0_1 rfl rfl ?_
  refine ov_getf (v := ov_i (h 9 0)) d_108_1 fl_History_23 (zb_9 I) (zs_9 I) rfl ?_
  have g1 := rg_9_0 I
  refine ov_ifne (tgt := 9) d_108_4 (by decide) (by omega) (fun c2 => ?_) (fun c2 => ?_)
  · skip
    refine ov_blk (ls2 := [(0, ov_r 9), (1, ov_r 4)]) (st2 := [ov_r 9, ov_r 9]) (pc2 := 11) b_108_9_2 rfl rfl ?_
    refine ov_getf (v := ov_i (h 9 1)) d_108_11 fl_History_27 (zb_9 I) (zs_9 I) rfl ?_
    have g3 := rg_9_1 I
    refine ov_blk (ls2 := [(0, ov_r 9), (1, ov_r 4)]) (st2 := [ov_i 16, ov_i (((h 9 1) + 16) - 1), ov_r 9]) (pc2 := 21) b_108_14_5 rfl rfl ?_
    refine ov_irem d_108_21 (by omega) (by omega) (by omega) ?_
    have g4 := ov_tm (a := (((h 9 1) + 16) - 1)) (b := 16) (by omega)
    have g5 := ov_tmg (a := (((h 9 1) + 16) - 1)) (b := 16) (by omega) (by omega)
    refine ov_putf (x := (Int.tmod (((h 9 1) + 16) - 1) 16)) d_108_22 fl_History_27 (zb_9 I) (zs_9 I) rfl nk_0 rfl ?_
    have I6 := up_9_1 (x := (Int.tmod (((h 9 1) + 16) - 1) 16)) I (by omega) (hw 9 (by decide +kernel))
    refine ov_blk (ls2 := [(0, ov_r 9), (1, ov_r 4)]) (st2 := [ov_r 9, ov_r 9]) (pc2 := 27) b_108_25_2 rfl rfl ?_
    refine ov_getf (v := ov_i (h 9 0)) d_108_27 fl_History_23 (zb_9 I6) (zs_9 I6) rfl ?_
    refine ov_blk (ls2 := [(0, ov_r 9), (1, ov_r 4)]) (st2 := [ov_i ((h 9 0) - 1), ov_r 9]) (pc2 := 32) b_108_30_2 rfl rfl ?_
    refine ov_putf (x := ((h 9 0) - 1)) d_108_32 fl_History_23 (zb_9 I6) (zs_9 I6) rfl nk_0 rfl ?_
    have I8 := up_9_0 (x := ((h 9 0) - 1)) I6 (by omega) (hw 9 (by decide +kernel))
    refine ov_blk (ls2 := [(0, ov_r 9), (1, ov_r 4)]) (st2 := [ov_r 9, ov_r 4]) (pc2 := 37) b_108_35_2 rfl rfl ?_
    refine ov_getf (v := ov_r 10) d_108_37 fl_History_9 (zb_9 I8) (zs_9 I8) (congrArg ov_r (rg_9_2 I8)) ?_
    refine ov_blk (ls2 := [(0, ov_r 9), (1, ov_r 4)]) (st2 := [ov_r 9, ov_r 10, ov_r 4]) (pc2 := 41) b_108_40_1 rfl rfl ?_
    refine ov_getf (v := ov_i (Int.tmod (((h 9 1) + 16) - 1) 16)) d_108_41 fl_History_27 (zb_9 I8) (zs_9 I8) rfl ?_
    refine ov_iald d_108_44 (zb_10 I8) (zs_10 I8) (by omega) ?_
    show ov_R u d ov_m108 45 [(0, ov_r 9), (1, ov_r 4)] [ov_i (h 10 (Int.tmod (((h 9 1) + 16) - 1) 16)), ov_r 4] z (ov_up (ov_up h 9 1 (Int.tmod (((h 9 1) + 16) - 1) 16)) 9 0 ((h 9 0) - 1)) (P_History_giveBack_9_4 F z h)
    have g9 := ra_10 I (Int.tmod (((h 9 1) + 16) - 1) 16)
    refine ov_putf (x := (h 10 (Int.tmod (((h 9 1) + 16) - 1) 16))) d_108_45 fl_History_30 (zb_4 I8) (zs_4 I8) rfl nk_0 rfl ?_
    have I10 := up_4_0 (x := (h 10 (Int.tmod (((h 9 1) + 16) - 1) 16))) I8 (by omega) (hw 4 (by decide +kernel))
    refine ov_blk (ls2 := [(0, ov_r 9), (1, ov_r 4)]) (st2 := [ov_r 9, ov_r 4]) (pc2 := 50) b_108_48_2 rfl rfl ?_
    refine ov_getf (v := ov_r 11) d_108_50 fl_History_13 (zb_9 I10) (zs_9 I10) (congrArg ov_r (rg_9_3 I10)) ?_
    refine ov_blk (ls2 := [(0, ov_r 9), (1, ov_r 4)]) (st2 := [ov_r 9, ov_r 11, ov_r 4]) (pc2 := 54) b_108_53_1 rfl rfl ?_
    refine ov_getf (v := ov_i (Int.tmod (((h 9 1) + 16) - 1) 16)) d_108_54 fl_History_27 (zb_9 I10) (zs_9 I10) rfl ?_
    refine ov_iald d_108_57 (zb_11 I10) (zs_11 I10) (by omega) ?_
    show ov_R u d ov_m108 58 [(0, ov_r 9), (1, ov_r 4)] [ov_i (h 11 (Int.tmod (((h 9 1) + 16) - 1) 16)), ov_r 4] z (ov_up (ov_up (ov_up h 9 1 (Int.tmod (((h 9 1) + 16) - 1) 16)) 9 0 ((h 9 0) - 1)) 4 0 (h 10 (Int.tmod (((h 9 1) + 16) - 1) 16))) (P_History_giveBack_9_4 F z h)
    have g11 := ra_11 I (Int.tmod (((h 9 1) + 16) - 1) 16)
    refine ov_putf (x := (h 11 (Int.tmod (((h 9 1) + 16) - 1) 16))) d_108_58 fl_History_35 (zb_4 I10) (zs_4 I10) rfl nk_0 rfl ?_
    have I12 := up_4_1 (x := (h 11 (Int.tmod (((h 9 1) + 16) - 1) 16))) I10 (by omega) (hw 4 (by decide +kernel))
    refine ov_blk (ls2 := [(0, ov_r 9), (1, ov_r 4)]) (st2 := [ov_r 9, ov_r 4]) (pc2 := 63) b_108_61_2 rfl rfl ?_
    refine ov_getf (v := ov_r 12) d_108_63 fl_History_16 (zb_9 I12) (zs_9 I12) (congrArg ov_r (rg_9_4 I12)) ?_
    refine ov_blk (ls2 := [(0, ov_r 9), (1, ov_r 4)]) (st2 := [ov_r 9, ov_r 12, ov_r 4]) (pc2 := 67) b_108_66_1 rfl rfl ?_
    refine ov_getf (v := ov_i (Int.tmod (((h 9 1) + 16) - 1) 16)) d_108_67 fl_History_27 (zb_9 I12) (zs_9 I12) rfl ?_
    refine ov_iald d_108_70 (zb_12 I12) (zs_12 I12) (by omega) ?_
    show ov_R u d ov_m108 71 [(0, ov_r 9), (1, ov_r 4)] [ov_i (h 12 (Int.tmod (((h 9 1) + 16) - 1) 16)), ov_r 4] z (ov_up (ov_up (ov_up (ov_up h 9 1 (Int.tmod (((h 9 1) + 16) - 1) 16)) 9 0 ((h 9 0) - 1)) 4 0 (h 10 (Int.tmod (((h 9 1) + 16) - 1) 16))) 4 1 (h 11 (Int.tmod (((h 9 1) + 16) - 1) 16))) (P_History_giveBack_9_4 F z h)
    have g13 := ra_12 I (Int.tmod (((h 9 1) + 16) - 1) 16)
    refine ov_putf (x := (h 12 (Int.tmod (((h 9 1) + 16) - 1) 16))) d_108_71 fl_History_38 (zb_4 I12) (zs_4 I12) rfl nk_0 rfl ?_
    have I14 := up_4_2 (x := (h 12 (Int.tmod (((h 9 1) + 16) - 1) 16))) I12 (by omega) (hw 4 (by decide +kernel))
    refine ov_blk (ls2 := [(0, ov_r 9), (1, ov_r 4)]) (st2 := [ov_r 9, ov_r 4]) (pc2 := 76) b_108_74_2 rfl rfl ?_
    refine ov_getf (v := ov_r 13) d_108_76 fl_History_19 (zb_9 I14) (zs_9 I14) (congrArg ov_r (rg_9_5 I14)) ?_
    refine ov_blk (ls2 := [(0, ov_r 9), (1, ov_r 4)]) (st2 := [ov_r 9, ov_r 13, ov_r 4]) (pc2 := 80) b_108_79_1 rfl rfl ?_
    refine ov_getf (v := ov_i (Int.tmod (((h 9 1) + 16) - 1) 16)) d_108_80 fl_History_27 (zb_9 I14) (zs_9 I14) rfl ?_
    refine ov_lald d_108_83 (zb_13 I14) (zs_13 I14) (by omega) ?_
    show ov_R u d ov_m108 84 [(0, ov_r 9), (1, ov_r 4)] [ov_l (h 13 (Int.tmod (((h 9 1) + 16) - 1) 16)), ov_r 4] z (ov_up (ov_up (ov_up (ov_up (ov_up h 9 1 (Int.tmod (((h 9 1) + 16) - 1) 16)) 9 0 ((h 9 0) - 1)) 4 0 (h 10 (Int.tmod (((h 9 1) + 16) - 1) 16))) 4 1 (h 11 (Int.tmod (((h 9 1) + 16) - 1) 16))) 4 2 (h 12 (Int.tmod (((h 9 1) + 16) - 1) 16))) (P_History_giveBack_9_4 F z h)
    refine ov_putf (x := (h 13 (Int.tmod (((h 9 1) + 16) - 1) 16))) d_108_84 fl_History_40 (zb_4 I14) (zs_4 I14) rfl nk_1 rfl ?_
    have I15 := up_4_3 (x := (h 13 (Int.tmod (((h 9 1) + 16) - 1) 16))) I14 (hw 4 (by decide +kernel))
    refine ov_blk (ls2 := [(0, ov_r 9), (1, ov_r 4)]) (st2 := [ov_i 1]) (pc2 := 88) b_108_87_1 rfl rfl ?_
    exact ov_retz (st := []) d_108_88 rfl (by omega) ⟨_, rfl, I15, (by show (1 = 0 ∨ 1 = 1) ∧ (h 36 7) = (h 36 7) ∧ (h 1 1) = (h 1 1) ∧ (h 90 2) = (h 90 2) ∧ (h 0 10) = (h 0 10) ∧ (h 0 11) = (h 0 11) ∧ (h 0 12) = (h 0 12) ∧ (h 0 13) = (h 0 13) ∧ (h 3 1) = (h 3 1) ∧ (h 36 8) = (h 36 8) ∧ (h 46 3) = (h 46 3) ∧ (h 46 4) = (h 46 4) ∧ (h 49 4) = (h 49 4) ∧ (h 49 5) = (h 49 5) ∧ (h 64 0) = (h 64 0) ∧ (h 76 0) = (h 76 0); omega)⟩
  · skip
    refine ov_blk (ls2 := [(0, ov_r 9), (1, ov_r 4)]) (st2 := [ov_i 0]) (pc2 := 8) b_108_7_1 rfl rfl ?_
    exact ov_retz (st := []) d_108_8 rfl (by omega) ⟨_, rfl, I, (by show (0 = 0 ∨ 0 = 1) ∧ (h 36 7) = (h 36 7) ∧ (h 1 1) = (h 1 1) ∧ (h 90 2) = (h 90 2) ∧ (h 0 10) = (h 0 10) ∧ (h 0 11) = (h 0 11) ∧ (h 0 12) = (h 0 12) ∧ (h 0 13) = (h 0 13) ∧ (h 3 1) = (h 3 1) ∧ (h 36 8) = (h 36 8) ∧ (h 46 3) = (h 46 3) ∧ (h 46 4) = (h 46 4) ∧ (h 49 4) = (h 49 4) ∧ (h 49 5) = (h 49 5) ∧ (h 64 0) = (h 64 0) ∧ (h 76 0) = (h 76 0); omega)⟩
abbrev P_Walk_clear_82 (F : ov_H) (z : ov_Z) (h : ov_H)  : Option ov_V → ov_Z → ov_H → Prop := fun r0 z' h' => r0 = none ∧ ov_I F z' h' ∧ ((h' 36 7) = (h 36 7) ∧ (h' 1 1) = (h 1 1) ∧ (h' 90 2) = (h 90 2) ∧ (h' 0 10) = (h 0 10) ∧ (h' 0 11) = (h 0 11) ∧ (h' 0 12) = (h 0 12) ∧ (h' 0 13) = (h 0 13) ∧ (h' 3 1) = (h 3 1) ∧ (h' 36 8) = (h 36 8) ∧ (h' 46 3) = (h 46 3) ∧ (h' 46 4) = (h 46 4) ∧ (h' 49 4) = (h 49 4) ∧ (h' 49 5) = (h 49 5) ∧ (h' 64 0) = (h 64 0) ∧ (h' 76 0) = (h 76 0))
set_option maxHeartbeats 4000000 in
theorem c_Walk_clear_82 {u : ov_U} {F : ov_H} {z : ov_Z} {h : ov_H} (d : Nat) (hd : 0 ≤ d) (U : ov_cap u) (I : ov_I F z h) (hw : ov_kw 4835703278458516698824704 F) : ov_T u d ov_m80 [ov_r 82] z h (P_Walk_clear_82 F z h) := by
  refine ov_en rfl (Nat.le_of_ble_eq_true rfl) ?_
  show ov_R u d ov_m80 0 [(0, ov_r 82)] [] z h (P_Walk_clear_82 F z h)
  refine ov_blk (ls2 := [(0, ov_r 82)]) (st2 := [ov_i 0, ov_r 82]) (pc2 := 2) b_80_0_2 rfl rfl ?_
  refine ov_putf (x := 0) d_80_2 fl_Walk_21 (zb_82 I) (zs_82 I) rfl nk_0 rfl ?_
  have I1 := up_82_0 (x := 0) I (by omega) (hw 82 (by decide +kernel))
  refine ov_blk (ls2 := [(0, ov_r 82)]) (st2 := [ov_i 0, ov_r 82]) (pc2 := 7) b_80_5_2 rfl rfl ?_
  refine ov_putf (x := 0) d_80_7 fl_Walk_25 (zb_82 I1) (zs_82 I1) rfl nk_0 rfl ?_
  have I2 := up_82_1 (x := 0) I1 (by omega) (hw 82 (by decide +kernel))
  exact ov_retv (st := []) d_80_10 rfl ⟨rfl, I2, (by show (h 36 7) = (h 36 7) ∧ (h 1 1) = (h 1 1) ∧ (h 90 2) = (h 90 2) ∧ (h 0 10) = (h 0 10) ∧ (h 0 11) = (h 0 11) ∧ (h 0 12) = (h 0 12) ∧ (h 0 13) = (h 0 13) ∧ (h 3 1) = (h 3 1) ∧ (h 36 8) = (h 36 8) ∧ (h 46 3) = (h 46 3) ∧ (h 46 4) = (h 46 4) ∧ (h 49 4) = (h 49 4) ∧ (h 49 5) = (h 49 5) ∧ (h 64 0) = (h 64 0) ∧ (h 76 0) = (h 76 0); omega)⟩
abbrev P_Walk_add_82 (F : ov_H) (z : ov_Z) (h : ov_H) (c : Int) (way : Int) (s : Int) (n : Int) : Option ov_V → ov_Z → ov_H → Prop := fun r0 z' h' => r0 = none ∧ ov_I F z' h' ∧ ((h' 36 7) = (h 36 7) ∧ (h' 1 1) = (h 1 1) ∧ (h' 90 2) = (h 90 2) ∧ (h' 0 10) = (h 0 10) ∧ (h' 0 11) = (h 0 11) ∧ (h' 0 12) = (h 0 12) ∧ (h' 0 13) = (h 0 13) ∧ (h' 3 1) = (h 3 1) ∧ (h' 36 8) = (h 36 8) ∧ (h' 46 3) = (h 46 3) ∧ (h' 46 4) = (h 46 4) ∧ (h' 49 4) = (h 49 4) ∧ (h' 49 5) = (h 49 5) ∧ (h' 64 0) = (h 64 0) ∧ (h' 76 0) = (h 76 0))
set_option maxHeartbeats 4000000 in
theorem c_Walk_add_82 {u : ov_U} {F : ov_H} {z : ov_Z} {h : ov_H} (d : Nat) (hd : 0 ≤ d) (U : ov_cap u) (I : ov_I F z h) (hw : ov_kw 72535549176877750482370560 F) (c : Int) (way : Int) (s : Int) (n : Int) (g_c : ov_g c) (g_way : ov_g way) (g_s : ov_g s) (g_n : ov_g n) (p0 : 0 ≤ c ∧ c ≤ 53) (p1 : way = 0 ∨ way = 1) (p2 : 0 ≤ n ∧ n ≤ 53) : ov_T u d ov_m92 [ov_r 82, ov_i c, ov_i way, ov_i s, ov_i n] z h (P_Walk_add_82 F z h c way s n) := by
  refine ov_en rfl (Nat.le_of_ble_eq_true rfl) ?_
  show ov_R u d ov_m92 0 [(0, ov_r 82), (1, ov_i c), (2, ov_i way), (3, ov_i s), (4, ov_i n)] [] z h (P_Walk_add_82 F z h c way s n)
  refine ov_blk (ls2 := [(0, ov_r 82), (1, ov_i c), (2, ov_i way), (3, ov_i s), (4, ov_i n)]) (st2 := [ov_r 82]) (pc2 := 1) b_92_0_1 rfl rfl ?_
  refine ov_getf (v := ov_i (h 82 0)) d_92_1 fl_Walk_21 (zb_82 I) (zs_82 I) rfl ?_
  have g1 := rg_82_0 I
  refine ov_blk (ls2 := [(0, ov_r 82), (1, ov_i c), (2, ov_i way), (3, ov_i s), (4, ov_i n)]) (st2 := [ov_i 13, ov_i (h 82 0)]) (pc2 := 6) b_92_4_1 rfl rfl ?_
  refine ov_icge (tgt := 55) d_92_6 (by decide) (by omega) (by omega) (fun c2 => ?_) (fun c2 => ?_)
  · skip
    exact ov_retv (st := []) d_92_55 rfl ⟨rfl, I, (by show (h 36 7) = (h 36 7) ∧ (h 1 1) = (h 1 1) ∧ (h 90 2) = (h 90 2) ∧ (h 0 10) = (h 0 10) ∧ (h 0 11) = (h 0 11) ∧ (h 0 12) = (h 0 12) ∧ (h 0 13) = (h 0 13) ∧ (h 3 1) = (h 3 1) ∧ (h 36 8) = (h 36 8) ∧ (h 46 3) = (h 46 3) ∧ (h 46 4) = (h 46 4) ∧ (h 49 4) = (h 49 4) ∧ (h 49 5) = (h 49 5) ∧ (h 64 0) = (h 64 0) ∧ (h 76 0) = (h 76 0); omega)⟩
  · skip
    refine ov_blk (ls2 := [(0, ov_r 82), (1, ov_i c), (2, ov_i way), (3, ov_i s), (4, ov_i n)]) (st2 := [ov_r 82]) (pc2 := 10) b_92_9_1 rfl rfl ?_
    refine ov_getf (v := ov_r 83) d_92_10 fl_Walk_9 (zb_82 I) (zs_82 I) (congrArg ov_r (rg_82_2 I)) ?_
    refine ov_blk (ls2 := [(0, ov_r 82), (1, ov_i c), (2, ov_i way), (3, ov_i s), (4, ov_i n)]) (st2 := [ov_r 82, ov_r 83]) (pc2 := 14) b_92_13_1 rfl rfl ?_
    refine ov_getf (v := ov_i (h 82 0)) d_92_14 fl_Walk_21 (zb_82 I) (zs_82 I) rfl ?_
    refine ov_blk (ls2 := [(0, ov_r 82), (1, ov_i c), (2, ov_i way), (3, ov_i s), (4, ov_i n)]) (st2 := [ov_i c, ov_i (h 82 0), ov_r 83]) (pc2 := 18) b_92_17_1 rfl rfl ?_
    refine ov_iast d_92_18 (zb_83 I) (zs_83 I) (by omega) ?_
    have I4 := ua_83 (k := (h 82 0)) (x := c) I (by omega) (hw 83 (by decide +kernel))
    refine ov_blk (ls2 := [(0, ov_r 82), (1, ov_i c), (2, ov_i way), (3, ov_i s), (4, ov_i n)]) (st2 := [ov_r 82]) (pc2 := 20) b_92_19_1 rfl rfl ?_
    refine ov_getf (v := ov_r 84) d_92_20 fl_Walk_15 (zb_82 I4) (zs_82 I4) (congrArg ov_r (rg_82_3 I4)) ?_
    refine ov_blk (ls2 := [(0, ov_r 82), (1, ov_i c), (2, ov_i way), (3, ov_i s), (4, ov_i n)]) (st2 := [ov_r 82, ov_r 84]) (pc2 := 24) b_92_23_1 rfl rfl ?_
    refine ov_getf (v := ov_i (h 82 0)) d_92_24 fl_Walk_21 (zb_82 I4) (zs_82 I4) rfl ?_
    refine ov_blk (ls2 := [(0, ov_r 82), (1, ov_i c), (2, ov_i way), (3, ov_i s), (4, ov_i n)]) (st2 := [ov_i way, ov_i (h 82 0), ov_r 84]) (pc2 := 28) b_92_27_1 rfl rfl ?_
    refine ov_iast d_92_28 (zb_84 I4) (zs_84 I4) (by omega) ?_
    have I6 := ua_84 (k := (h 82 0)) (x := way) I4 (by omega) (hw 84 (by decide +kernel))
    refine ov_blk (ls2 := [(0, ov_r 82), (1, ov_i c), (2, ov_i way), (3, ov_i s), (4, ov_i n)]) (st2 := [ov_r 82]) (pc2 := 30) b_92_29_1 rfl rfl ?_
    refine ov_getf (v := ov_r 85) d_92_30 fl_Walk_18 (zb_82 I6) (zs_82 I6) (congrArg ov_r (rg_82_4 I6)) ?_
    refine ov_blk (ls2 := [(0, ov_r 82), (1, ov_i c), (2, ov_i way), (3, ov_i s), (4, ov_i n)]) (st2 := [ov_r 82, ov_r 85]) (pc2 := 34) b_92_33_1 rfl rfl ?_
    refine ov_getf (v := ov_i (h 82 0)) d_92_34 fl_Walk_21 (zb_82 I6) (zs_82 I6) rfl ?_
    refine ov_blk (ls2 := [(0, ov_r 82), (1, ov_i c), (2, ov_i way), (3, ov_i s), (4, ov_i n)]) (st2 := [ov_i s, ov_i (h 82 0), ov_r 85]) (pc2 := 38) b_92_37_1 rfl rfl ?_
    refine ov_iast d_92_38 (zb_85 I6) (zs_85 I6) (by omega) ?_
    have I8 := ua_85 (k := (h 82 0)) (x := s) I6 (by omega) (hw 85 (by decide +kernel))
    refine ov_blk (ls2 := [(0, ov_r 82), (1, ov_i c), (2, ov_i way), (3, ov_i s), (4, ov_i n)]) (st2 := [ov_i n, ov_r 82]) (pc2 := 42) b_92_39_2 rfl rfl ?_
    refine ov_putf (x := n) d_92_42 fl_Walk_25 (zb_82 I8) (zs_82 I8) rfl nk_0 rfl ?_
    have I9 := up_82_1 (x := n) I8 (by omega) (hw 82 (by decide +kernel))
    refine ov_blk (ls2 := [(0, ov_r 82), (1, ov_i c), (2, ov_i way), (3, ov_i s), (4, ov_i n)]) (st2 := [ov_r 82, ov_r 82]) (pc2 := 47) b_92_45_2 rfl rfl ?_
    refine ov_getf (v := ov_i (h 82 0)) d_92_47 fl_Walk_21 (zb_82 I9) (zs_82 I9) rfl ?_
    refine ov_blk (ls2 := [(0, ov_r 82), (1, ov_i c), (2, ov_i way), (3, ov_i s), (4, ov_i n)]) (st2 := [ov_i ((h 82 0) + 1), ov_r 82]) (pc2 := 52) b_92_50_2 rfl rfl ?_
    refine ov_putf (x := ((h 82 0) + 1)) d_92_52 fl_Walk_21 (zb_82 I9) (zs_82 I9) rfl nk_0 rfl ?_
    have I11 := up_82_0 (x := ((h 82 0) + 1)) I9 (by omega) (hw 82 (by decide +kernel))
    exact ov_retv (st := []) d_92_55 rfl ⟨rfl, I11, (by show (h 36 7) = (h 36 7) ∧ (h 1 1) = (h 1 1) ∧ (h 90 2) = (h 90 2) ∧ (h 0 10) = (h 0 10) ∧ (h 0 11) = (h 0 11) ∧ (h 0 12) = (h 0 12) ∧ (h 0 13) = (h 0 13) ∧ (h 3 1) = (h 3 1) ∧ (h 36 8) = (h 36 8) ∧ (h 46 3) = (h 46 3) ∧ (h 46 4) = (h 46 4) ∧ (h 49 4) = (h 49 4) ∧ (h 49 5) = (h 49 5) ∧ (h 64 0) = (h 64 0) ∧ (h 76 0) = (h 76 0); omega)⟩
abbrev P_Walk_isGreenFor_82_58 (F : ov_H) (z : ov_Z) (h : ov_H) (l : Int) (s : Int) : Option ov_V → ov_Z → ov_H → Prop := fun r0 z' h' => ∃ r : Int, r0 = some (ov_i r) ∧ z = z' ∧ h = h' ∧ ((r = 0 ∨ r = 1))
set_option maxHeartbeats 4000000 in
theorem c_Walk_isGreenFor_82_58 {u : ov_U} {F : ov_H} {z : ov_Z} {h : ov_H} (d : Nat) (hd : 2 ≤ d) (U : ov_cap u) (I : ov_I F z h) (l : Int) (s : Int) (g_l : ov_g l) (g_s : ov_g s) (p0 : 0 ≤ l ∧ l ≤ 12) : ov_T u d ov_m111 [ov_r 82, ov_r 58, ov_i l, ov_i s] z h (P_Walk_isGreenFor_82_58 F z h l s) := by
  refine ov_en rfl (Nat.le_of_ble_eq_true rfl) ?_
  show ov_R u d ov_m111 0 [(0, ov_r 82), (1, ov_r 58), (2, ov_i l), (3, ov_i s)] [] z h (P_Walk_isGreenFor_82_58 F z h l s)
  refine ov_blk (ls2 := [(0, ov_r 82), (1, ov_r 58), (2, ov_i l), (3, ov_i s)]) (st2 := [ov_r 82, ov_r 58]) (pc2 := 2) b_111_0_2 rfl rfl ?_
  refine ov_getf (v := ov_r 83) d_111_2 fl_Walk_9 (zb_82 I) (zs_82 I) (congrArg ov_r (rg_82_2 I)) ?_
  refine ov_blk (ls2 := [(0, ov_r 82), (1, ov_r 58), (2, ov_i l), (3, ov_i s)]) (st2 := [ov_i l, ov_r 83, ov_r 58]) (pc2 := 6) b_111_5_1 rfl rfl ?_
  refine ov_iald d_111_6 (zb_83 I) (zs_83 I) (by omega) ?_
  have g1 := ra_83 I l
  refine ov_blk (ls2 := [(0, ov_r 82), (1, ov_r 58), (2, ov_i l), (3, ov_i s)]) (st2 := [ov_r 82, ov_i (h 83 l), ov_r 58]) (pc2 := 8) b_111_7_1 rfl rfl ?_
  refine ov_getf (v := ov_r 84) d_111_8 fl_Walk_15 (zb_82 I) (zs_82 I) (congrArg ov_r (rg_82_3 I)) ?_
  refine ov_blk (ls2 := [(0, ov_r 82), (1, ov_r 58), (2, ov_i l), (3, ov_i s)]) (st2 := [ov_i l, ov_r 84, ov_i (h 83 l), ov_r 58]) (pc2 := 12) b_111_11_1 rfl rfl ?_
  refine ov_iald d_111_12 (zb_84 I) (zs_84 I) (by omega) ?_
  have g2 := ra_84 I l
  refine ov_blk (ls2 := [(0, ov_r 82), (1, ov_r 58), (2, ov_i l), (3, ov_i s)]) (st2 := [ov_r 82, ov_i (h 84 l), ov_i (h 83 l), ov_r 58]) (pc2 := 14) b_111_13_1 rfl rfl ?_
  refine ov_getf (v := ov_r 85) d_111_14 fl_Walk_18 (zb_82 I) (zs_82 I) (congrArg ov_r (rg_82_4 I)) ?_
  refine ov_blk (ls2 := [(0, ov_r 82), (1, ov_r 58), (2, ov_i l), (3, ov_i s)]) (st2 := [ov_i l, ov_r 85, ov_i (h 84 l), ov_i (h 83 l), ov_r 58]) (pc2 := 18) b_111_17_1 rfl rfl ?_
  refine ov_iald d_111_18 (zb_85 I) (zs_85 I) (by omega) ?_
  have g3 := ra_85 I l
  refine ov_cV (as := [ov_i (h 83 l), ov_i (h 84 l), ov_i (h 85 l)]) (st := []) (d2 := d - 1) d_111_19 lk_Walk_37 rfl (Nat.le_of_ble_eq_true rfl) (c := 9) (zb_58 I) (zs_58 I) ⟨by decide, rfl⟩ (by omega) (c_Town_waitFor_58 (d - 1) (by omega) U I (h 83 l) (h 84 l) (h 85 l) (by omega) (by omega) (by omega) (by omega)) ?_
  rintro _ _ _ ⟨v5, rfl, rfl, rfl, f4⟩
  show ov_R u d ov_m111 22 [(0, ov_r 82), (1, ov_r 58), (2, ov_i l), (3, ov_i s)] [ov_i v5] z h (P_Walk_isGreenFor_82_58 F z h l s)
  have f6 : 0 ≤ v5 ∧ v5 ≤ 60 := f4
  clear f4
  refine ov_blk (ls2 := [(0, ov_r 82), (1, ov_r 58), (2, ov_i l), (3, ov_i s), (4, ov_i v5)]) (st2 := [ov_r 58]) (pc2 := 25) b_111_22_2 rfl rfl ?_
  refine ov_getf (v := ov_r 59) d_111_25 fl_Walk_41 (zb_58 I) (zs_58 I) (congrArg ov_r (rg_58_2 I)) ?_
  refine ov_blk (ls2 := [(0, ov_r 82), (1, ov_r 58), (2, ov_i l), (3, ov_i s), (4, ov_i v5)]) (st2 := [ov_r 82, ov_r 59]) (pc2 := 29) b_111_28_1 rfl rfl ?_
  refine ov_getf (v := ov_r 83) d_111_29 fl_Walk_9 (zb_82 I) (zs_82 I) (congrArg ov_r (rg_82_2 I)) ?_
  refine ov_blk (ls2 := [(0, ov_r 82), (1, ov_r 58), (2, ov_i l), (3, ov_i s), (4, ov_i v5)]) (st2 := [ov_i l, ov_r 83, ov_r 59]) (pc2 := 33) b_111_32_1 rfl rfl ?_
  refine ov_iald d_111_33 (zb_83 I) (zs_83 I) (by omega) ?_
  refine ov_iald d_111_34 (zb_59 I) (zs_59 I) (by omega) ?_
  have g8 := ra_59 I (h 83 l)
  refine ov_blk (ls2 := [(0, ov_r 82), (1, ov_r 58), (2, ov_i l), (3, ov_i s), (4, ov_i v5)]) (st2 := [ov_i 2, ov_i (h 59 (h 83 l))]) (pc2 := 36) b_111_35_1 rfl rfl ?_
  refine ov_icne (tgt := 53) d_111_36 (by decide) (by omega) (by omega) (fun c9 => ?_) (fun c9 => ?_)
  · skip
    refine ov_blk (ls2 := [(0, ov_r 82), (1, ov_r 58), (2, ov_i l), (3, ov_i s), (4, ov_i v5)]) (st2 := [ov_i v5]) (pc2 := 55) b_111_53_1 rfl rfl ?_
    refine ov_ifne (tgt := 62) d_111_55 (by decide) (by omega) (fun c10 => ?_) (fun c10 => ?_)
    · skip
      refine ov_blk (ls2 := [(0, ov_r 82), (1, ov_r 58), (2, ov_i l), (3, ov_i s), (4, ov_i v5)]) (st2 := [ov_i 0]) (pc2 := 63) b_111_62_1 rfl rfl ?_
      exact ov_retz (st := []) d_111_63 rfl (by omega) ⟨_, rfl, rfl, rfl, (by show (0 = 0 ∨ 0 = 1); omega)⟩
    · skip
      refine ov_blk (ls2 := [(0, ov_r 82), (1, ov_r 58), (2, ov_i l), (3, ov_i s), (4, ov_i v5)]) (st2 := [ov_i 1]) (pc2 := 59) b_111_58_1 rfl rfl ?_
      refine ov_goto (tgt := 63) d_111_59 (by decide) ?_
      exact ov_retz (st := []) d_111_63 rfl (by omega) ⟨_, rfl, rfl, rfl, (by show (1 = 0 ∨ 1 = 1); omega)⟩
  · skip
    refine ov_blk (ls2 := [(0, ov_r 82), (1, ov_r 58), (2, ov_i l), (3, ov_i s), (4, ov_i v5)]) (st2 := [ov_i v5, ov_i s]) (pc2 := 42) b_111_39_2 rfl rfl ?_
    refine ov_iclt (tgt := 49) d_111_42 (by decide) (by omega) (by omega) (fun c11 => ?_) (fun c11 => ?_)
    · skip
      refine ov_blk (ls2 := [(0, ov_r 82), (1, ov_r 58), (2, ov_i l), (3, ov_i s), (4, ov_i v5)]) (st2 := [ov_i 0]) (pc2 := 50) b_111_49_1 rfl rfl ?_
      refine ov_goto (tgt := 63) d_111_50 (by decide) ?_
      exact ov_retz (st := []) d_111_63 rfl (by omega) ⟨_, rfl, rfl, rfl, (by show (0 = 0 ∨ 0 = 1); omega)⟩
    · skip
      refine ov_blk (ls2 := [(0, ov_r 82), (1, ov_r 58), (2, ov_i l), (3, ov_i s), (4, ov_i v5)]) (st2 := [ov_i 1]) (pc2 := 46) b_111_45_1 rfl rfl ?_
      refine ov_goto (tgt := 63) d_111_46 (by decide) ?_
      exact ov_retz (st := []) d_111_63 rfl (by omega) ⟨_, rfl, rfl, rfl, (by show (1 = 0 ∨ 1 = 1); omega)⟩
abbrev P_Walk_firstWrong_82_58 (F : ov_H) (z : ov_Z) (h : ov_H)  : Option ov_V → ov_Z → ov_H → Prop := fun r0 z' h' => ∃ r : Int, r0 = some (ov_i r) ∧ z = z' ∧ h = h' ∧ (-1 ≤ r ∧ r ≤ 13)
set_option maxHeartbeats 4000000 in
theorem c_Walk_firstWrong_82_58 {u : ov_U} {F : ov_H} {z : ov_Z} {h : ov_H} (d : Nat) (hd : 3 ≤ d) (U : ov_cap u) (I : ov_I F z h) : ov_T u d ov_m110 [ov_r 82, ov_r 58] z h (P_Walk_firstWrong_82_58 F z h) := by
  refine ov_en rfl (Nat.le_of_ble_eq_true rfl) ?_
  show ov_R u d ov_m110 0 [(0, ov_r 82), (1, ov_r 58)] [] z h (P_Walk_firstWrong_82_58 F z h)
  refine ov_blk (ls2 := [(0, ov_r 82), (1, ov_r 58), (2, ov_i 0), (3, ov_i 0)]) (st2 := []) (pc2 := 4) b_110_0_4 rfl rfl ?_
  have L4 : ∀ (n1 : Nat) (x2 : Int) (x3 : Int) (q3 : ov_g x2 ∧ 0 ≤ x3 ∧ x3 ≤ 13), 13 - x3 < (n1 : Int) → ov_R u d ov_m110 4 [(0, ov_r 82), (1, ov_r 58), (2, ov_i x2), (3, ov_i x3)] [] z h (P_Walk_firstWrong_82_58 F z h) := by
    intro n1
    induction n1 with
    | zero =>
      intro x2 x3 q3 hn5
      exact absurd hn5 (by omega)
    | succ n1 ih2 =>
      intro x2 x3 q3 hn5
      refine ov_blk (ls2 := [(0, ov_r 82), (1, ov_r 58), (2, ov_i x2), (3, ov_i x3)]) (st2 := [ov_r 82, ov_i x3]) (pc2 := 6) b_110_4_2 rfl rfl ?_
      refine ov_getf (v := ov_i (h 82 0)) d_110_6 fl_Walk_21 (zb_82 I) (zs_82 I) rfl ?_
      have g6 := rg_82_0 I
      refine ov_icge (tgt := 57) d_110_9 (by decide) (by omega) (by omega) (fun c7 => ?_) (fun c7 => ?_)
      · skip
        refine ov_blk (ls2 := [(0, ov_r 82), (1, ov_r 58), (2, ov_i x2), (3, ov_i x3)]) (st2 := [ov_i (-1)]) (pc2 := 58) b_110_57_1 rfl rfl ?_
        exact ov_reti (st := []) d_110_58 rfl ⟨_, rfl, rfl, rfl, (by show -1 ≤ (-1) ∧ (-1) ≤ 13; omega)⟩
      · skip
        refine ov_blk (ls2 := [(0, ov_r 82), (1, ov_r 58), (2, ov_i x2), (3, ov_i x3)]) (st2 := [ov_r 82]) (pc2 := 13) b_110_12_1 rfl rfl ?_
        refine ov_getf (v := ov_r 85) d_110_13 fl_Walk_18 (zb_82 I) (zs_82 I) (congrArg ov_r (rg_82_4 I)) ?_
        refine ov_blk (ls2 := [(0, ov_r 82), (1, ov_r 58), (2, ov_i x2), (3, ov_i x3)]) (st2 := [ov_i x3, ov_r 85]) (pc2 := 17) b_110_16_1 rfl rfl ?_
        refine ov_iald d_110_17 (zb_85 I) (zs_85 I) (by omega) ?_
        have g8 := ra_85 I x3
        refine ov_blk (ls2 := [(0, ov_r 82), (1, ov_r 58), (2, ov_i x2), (3, ov_i x3), (4, ov_i (h 85 x3))]) (st2 := [ov_i x2, ov_i (h 85 x3)]) (pc2 := 23) b_110_18_3 rfl rfl ?_
        refine ov_iclt (tgt := 39) d_110_23 (by decide) (by omega) (by omega) (fun c9 => ?_) (fun c9 => ?_)
        · skip
          refine ov_blk (ls2 := [(0, ov_r 82), (1, ov_r 58), (2, ov_i x2), (3, ov_i x3), (4, ov_i (h 85 x3))]) (st2 := [ov_i x3]) (pc2 := 40) b_110_39_1 rfl rfl ?_
          exact ov_reti (st := []) d_110_40 rfl ⟨_, rfl, rfl, rfl, (by show -1 ≤ x3 ∧ x3 ≤ 13; omega)⟩
        · skip
          refine ov_blk (ls2 := [(0, ov_r 82), (1, ov_r 58), (2, ov_i x2), (3, ov_i x3), (4, ov_i (h 85 x3))]) (st2 := [ov_i ((h 85 x3) - x2), ov_i x3, ov_r 58, ov_r 82]) (pc2 := 33) b_110_26_6 rfl rfl ?_
          refine ov_havw (fun w10 gw10 qw10 => ?_)
          refine ov_cV (as := [ov_r 58, ov_i x3, ov_i w10]) (st := []) (d2 := d - 1) d_110_33 lk_Walk_28 rfl (Nat.le_of_ble_eq_true rfl) (c := 10) (zb_82 I) (zs_82 I) ⟨by decide, rfl⟩ (by omega) (c_Walk_isGreenFor_82_58 (d - 1) (by omega) U I x3 w10 (by omega) (by omega) (by omega)) ?_
          rintro _ _ _ ⟨v12, rfl, rfl, rfl, f11⟩
          show ov_R u d ov_m110 36 [(0, ov_r 82), (1, ov_r 58), (2, ov_i x2), (3, ov_i x3), (4, ov_i (h 85 x3))] [ov_i v12] z h (P_Walk_firstWrong_82_58 F z h)
          have f13 : (v12 = 0 ∨ v12 = 1) := f11
          clear f11
          refine ov_ifne (tgt := 41) d_110_36 (by decide) (by omega) (fun c14 => ?_) (fun c14 => ?_)
          · skip
            refine ov_blk (ls2 := [(0, ov_r 82), (1, ov_r 58), (2, ov_i x2), (3, ov_i x3), (4, ov_i (h 85 x3))]) (st2 := [ov_r 58, ov_i (h 85 x3)]) (pc2 := 44) b_110_41_2 rfl rfl ?_
            refine ov_getf (v := ov_r 64) d_110_44 fl_Walk_32 (zb_58 I) (zs_58 I) (congrArg ov_r (rg_58_7 I)) ?_
            refine ov_blk (ls2 := [(0, ov_r 82), (1, ov_r 58), (2, ov_i x2), (3, ov_i x3), (4, ov_i (h 85 x3))]) (st2 := [ov_i 0, ov_r 64, ov_i (h 85 x3)]) (pc2 := 48) b_110_47_1 rfl rfl ?_
            refine ov_iald d_110_48 (zb_64 I) (zs_64 I) (by omega) ?_
            have g15 := ra_64 I 0
            refine ov_blk (ls2 := [(0, ov_r 82), (1, ov_r 58), (2, ov_i x2), (3, ov_i x3), (4, ov_i (h 85 x3))]) (st2 := [ov_i ((h 85 x3) + (h 64 0))]) (pc2 := 50) b_110_49_1 rfl rfl ?_
            refine ov_havw (fun w16 gw16 qw16 => ?_)
            refine ov_blk (ls2 := [(0, ov_r 82), (1, ov_r 58), (2, ov_i w16), (3, ov_i (x3 + 1)), (4, ov_i (h 85 x3))]) (st2 := []) (pc2 := 54) b_110_50_2 rfl rfl ?_
            refine ov_goto (tgt := 4) d_110_54 (by decide) ?_
            refine ov_sub (ls2 := [(0, ov_r 82), (1, ov_r 58), (2, ov_i w16), (3, ov_i (x3 + 1))]) (List.Sublist.subset (by repeat (first | exact List.Sublist.refl _ | apply List.Sublist.cons_cons | apply List.Sublist.cons))) ?_
            exact ih2 w16 (x3 + 1) (by show ov_g w16 ∧ 0 ≤ (x3 + 1) ∧ (x3 + 1) ≤ 13; omega) (by omega)
          · skip
            refine ov_blk (ls2 := [(0, ov_r 82), (1, ov_r 58), (2, ov_i x2), (3, ov_i x3), (4, ov_i (h 85 x3))]) (st2 := [ov_i x3]) (pc2 := 40) b_110_39_1 rfl rfl ?_
            exact ov_reti (st := []) d_110_40 rfl ⟨_, rfl, rfl, rfl, (by show -1 ≤ x3 ∧ x3 ≤ 13; omega)⟩
  exact L4 14 0 0 (by show ov_g 0 ∧ 0 ≤ 0 ∧ 0 ≤ 13; omega) (by omega)
abbrev P_Walk_isGreenFor_82_70 (F : ov_H) (z : ov_Z) (h : ov_H) (l : Int) (s : Int) : Option ov_V → ov_Z → ov_H → Prop := fun r0 z' h' => ∃ r : Int, r0 = some (ov_i r) ∧ z = z' ∧ h = h' ∧ ((r = 0 ∨ r = 1))
set_option maxHeartbeats 4000000 in
theorem c_Walk_isGreenFor_82_70 {u : ov_U} {F : ov_H} {z : ov_Z} {h : ov_H} (d : Nat) (hd : 2 ≤ d) (U : ov_cap u) (I : ov_I F z h) (l : Int) (s : Int) (g_l : ov_g l) (g_s : ov_g s) (p0 : 0 ≤ l ∧ l ≤ 12) : ov_T u d ov_m111 [ov_r 82, ov_r 70, ov_i l, ov_i s] z h (P_Walk_isGreenFor_82_70 F z h l s) := by
  refine ov_en rfl (Nat.le_of_ble_eq_true rfl) ?_
  show ov_R u d ov_m111 0 [(0, ov_r 82), (1, ov_r 70), (2, ov_i l), (3, ov_i s)] [] z h (P_Walk_isGreenFor_82_70 F z h l s)
  refine ov_blk (ls2 := [(0, ov_r 82), (1, ov_r 70), (2, ov_i l), (3, ov_i s)]) (st2 := [ov_r 82, ov_r 70]) (pc2 := 2) b_111_0_2 rfl rfl ?_
  refine ov_getf (v := ov_r 83) d_111_2 fl_Walk_9 (zb_82 I) (zs_82 I) (congrArg ov_r (rg_82_2 I)) ?_
  refine ov_blk (ls2 := [(0, ov_r 82), (1, ov_r 70), (2, ov_i l), (3, ov_i s)]) (st2 := [ov_i l, ov_r 83, ov_r 70]) (pc2 := 6) b_111_5_1 rfl rfl ?_
  refine ov_iald d_111_6 (zb_83 I) (zs_83 I) (by omega) ?_
  have g1 := ra_83 I l
  refine ov_blk (ls2 := [(0, ov_r 82), (1, ov_r 70), (2, ov_i l), (3, ov_i s)]) (st2 := [ov_r 82, ov_i (h 83 l), ov_r 70]) (pc2 := 8) b_111_7_1 rfl rfl ?_
  refine ov_getf (v := ov_r 84) d_111_8 fl_Walk_15 (zb_82 I) (zs_82 I) (congrArg ov_r (rg_82_3 I)) ?_
  refine ov_blk (ls2 := [(0, ov_r 82), (1, ov_r 70), (2, ov_i l), (3, ov_i s)]) (st2 := [ov_i l, ov_r 84, ov_i (h 83 l), ov_r 70]) (pc2 := 12) b_111_11_1 rfl rfl ?_
  refine ov_iald d_111_12 (zb_84 I) (zs_84 I) (by omega) ?_
  have g2 := ra_84 I l
  refine ov_blk (ls2 := [(0, ov_r 82), (1, ov_r 70), (2, ov_i l), (3, ov_i s)]) (st2 := [ov_r 82, ov_i (h 84 l), ov_i (h 83 l), ov_r 70]) (pc2 := 14) b_111_13_1 rfl rfl ?_
  refine ov_getf (v := ov_r 85) d_111_14 fl_Walk_18 (zb_82 I) (zs_82 I) (congrArg ov_r (rg_82_4 I)) ?_
  refine ov_blk (ls2 := [(0, ov_r 82), (1, ov_r 70), (2, ov_i l), (3, ov_i s)]) (st2 := [ov_i l, ov_r 85, ov_i (h 84 l), ov_i (h 83 l), ov_r 70]) (pc2 := 18) b_111_17_1 rfl rfl ?_
  refine ov_iald d_111_18 (zb_85 I) (zs_85 I) (by omega) ?_
  have g3 := ra_85 I l
  refine ov_cV (as := [ov_i (h 83 l), ov_i (h 84 l), ov_i (h 85 l)]) (st := []) (d2 := d - 1) d_111_19 lk_Walk_37 rfl (Nat.le_of_ble_eq_true rfl) (c := 9) (zb_70 I) (zs_70 I) ⟨by decide, rfl⟩ (by omega) (c_Town_waitFor_70 (d - 1) (by omega) U I (h 83 l) (h 84 l) (h 85 l) (by omega) (by omega) (by omega) (by omega)) ?_
  rintro _ _ _ ⟨v5, rfl, rfl, rfl, f4⟩
  show ov_R u d ov_m111 22 [(0, ov_r 82), (1, ov_r 70), (2, ov_i l), (3, ov_i s)] [ov_i v5] z h (P_Walk_isGreenFor_82_70 F z h l s)
  have f6 : 0 ≤ v5 ∧ v5 ≤ 60 := f4
  clear f4
  refine ov_blk (ls2 := [(0, ov_r 82), (1, ov_r 70), (2, ov_i l), (3, ov_i s), (4, ov_i v5)]) (st2 := [ov_r 70]) (pc2 := 25) b_111_22_2 rfl rfl ?_
  refine ov_getf (v := ov_r 71) d_111_25 fl_Walk_41 (zb_70 I) (zs_70 I) (congrArg ov_r (rg_70_2 I)) ?_
  refine ov_blk (ls2 := [(0, ov_r 82), (1, ov_r 70), (2, ov_i l), (3, ov_i s), (4, ov_i v5)]) (st2 := [ov_r 82, ov_r 71]) (pc2 := 29) b_111_28_1 rfl rfl ?_
  refine ov_getf (v := ov_r 83) d_111_29 fl_Walk_9 (zb_82 I) (zs_82 I) (congrArg ov_r (rg_82_2 I)) ?_
  refine ov_blk (ls2 := [(0, ov_r 82), (1, ov_r 70), (2, ov_i l), (3, ov_i s), (4, ov_i v5)]) (st2 := [ov_i l, ov_r 83, ov_r 71]) (pc2 := 33) b_111_32_1 rfl rfl ?_
  refine ov_iald d_111_33 (zb_83 I) (zs_83 I) (by omega) ?_
  refine ov_iald d_111_34 (zb_71 I) (zs_71 I) (by omega) ?_
  have g8 := ra_71 I (h 83 l)
  refine ov_blk (ls2 := [(0, ov_r 82), (1, ov_r 70), (2, ov_i l), (3, ov_i s), (4, ov_i v5)]) (st2 := [ov_i 2, ov_i (h 71 (h 83 l))]) (pc2 := 36) b_111_35_1 rfl rfl ?_
  refine ov_icne (tgt := 53) d_111_36 (by decide) (by omega) (by omega) (fun c9 => ?_) (fun c9 => ?_)
  · skip
    refine ov_blk (ls2 := [(0, ov_r 82), (1, ov_r 70), (2, ov_i l), (3, ov_i s), (4, ov_i v5)]) (st2 := [ov_i v5]) (pc2 := 55) b_111_53_1 rfl rfl ?_
    refine ov_ifne (tgt := 62) d_111_55 (by decide) (by omega) (fun c10 => ?_) (fun c10 => ?_)
    · skip
      refine ov_blk (ls2 := [(0, ov_r 82), (1, ov_r 70), (2, ov_i l), (3, ov_i s), (4, ov_i v5)]) (st2 := [ov_i 0]) (pc2 := 63) b_111_62_1 rfl rfl ?_
      exact ov_retz (st := []) d_111_63 rfl (by omega) ⟨_, rfl, rfl, rfl, (by show (0 = 0 ∨ 0 = 1); omega)⟩
    · skip
      refine ov_blk (ls2 := [(0, ov_r 82), (1, ov_r 70), (2, ov_i l), (3, ov_i s), (4, ov_i v5)]) (st2 := [ov_i 1]) (pc2 := 59) b_111_58_1 rfl rfl ?_
      refine ov_goto (tgt := 63) d_111_59 (by decide) ?_
      exact ov_retz (st := []) d_111_63 rfl (by omega) ⟨_, rfl, rfl, rfl, (by show (1 = 0 ∨ 1 = 1); omega)⟩
  · skip
    refine ov_blk (ls2 := [(0, ov_r 82), (1, ov_r 70), (2, ov_i l), (3, ov_i s), (4, ov_i v5)]) (st2 := [ov_i v5, ov_i s]) (pc2 := 42) b_111_39_2 rfl rfl ?_
    refine ov_iclt (tgt := 49) d_111_42 (by decide) (by omega) (by omega) (fun c11 => ?_) (fun c11 => ?_)
    · skip
      refine ov_blk (ls2 := [(0, ov_r 82), (1, ov_r 70), (2, ov_i l), (3, ov_i s), (4, ov_i v5)]) (st2 := [ov_i 0]) (pc2 := 50) b_111_49_1 rfl rfl ?_
      refine ov_goto (tgt := 63) d_111_50 (by decide) ?_
      exact ov_retz (st := []) d_111_63 rfl (by omega) ⟨_, rfl, rfl, rfl, (by show (0 = 0 ∨ 0 = 1); omega)⟩
    · skip
      refine ov_blk (ls2 := [(0, ov_r 82), (1, ov_r 70), (2, ov_i l), (3, ov_i s), (4, ov_i v5)]) (st2 := [ov_i 1]) (pc2 := 46) b_111_45_1 rfl rfl ?_
      refine ov_goto (tgt := 63) d_111_46 (by decide) ?_
      exact ov_retz (st := []) d_111_63 rfl (by omega) ⟨_, rfl, rfl, rfl, (by show (1 = 0 ∨ 1 = 1); omega)⟩
abbrev P_Walk_firstWrong_82_70 (F : ov_H) (z : ov_Z) (h : ov_H)  : Option ov_V → ov_Z → ov_H → Prop := fun r0 z' h' => ∃ r : Int, r0 = some (ov_i r) ∧ z = z' ∧ h = h' ∧ (-1 ≤ r ∧ r ≤ 13)
set_option maxHeartbeats 4000000 in
theorem c_Walk_firstWrong_82_70 {u : ov_U} {F : ov_H} {z : ov_Z} {h : ov_H} (d : Nat) (hd : 3 ≤ d) (U : ov_cap u) (I : ov_I F z h) : ov_T u d ov_m110 [ov_r 82, ov_r 70] z h (P_Walk_firstWrong_82_70 F z h) := by
  refine ov_en rfl (Nat.le_of_ble_eq_true rfl) ?_
  show ov_R u d ov_m110 0 [(0, ov_r 82), (1, ov_r 70)] [] z h (P_Walk_firstWrong_82_70 F z h)
  refine ov_blk (ls2 := [(0, ov_r 82), (1, ov_r 70), (2, ov_i 0), (3, ov_i 0)]) (st2 := []) (pc2 := 4) b_110_0_4 rfl rfl ?_
  have L4 : ∀ (n1 : Nat) (x2 : Int) (x3 : Int) (q3 : ov_g x2 ∧ 0 ≤ x3 ∧ x3 ≤ 13), 13 - x3 < (n1 : Int) → ov_R u d ov_m110 4 [(0, ov_r 82), (1, ov_r 70), (2, ov_i x2), (3, ov_i x3)] [] z h (P_Walk_firstWrong_82_70 F z h) := by
    intro n1
    induction n1 with
    | zero =>
      intro x2 x3 q3 hn5
      exact absurd hn5 (by omega)
    | succ n1 ih2 =>
      intro x2 x3 q3 hn5
      refine ov_blk (ls2 := [(0, ov_r 82), (1, ov_r 70), (2, ov_i x2), (3, ov_i x3)]) (st2 := [ov_r 82, ov_i x3]) (pc2 := 6) b_110_4_2 rfl rfl ?_
      refine ov_getf (v := ov_i (h 82 0)) d_110_6 fl_Walk_21 (zb_82 I) (zs_82 I) rfl ?_
      have g6 := rg_82_0 I
      refine ov_icge (tgt := 57) d_110_9 (by decide) (by omega) (by omega) (fun c7 => ?_) (fun c7 => ?_)
      · skip
        refine ov_blk (ls2 := [(0, ov_r 82), (1, ov_r 70), (2, ov_i x2), (3, ov_i x3)]) (st2 := [ov_i (-1)]) (pc2 := 58) b_110_57_1 rfl rfl ?_
        exact ov_reti (st := []) d_110_58 rfl ⟨_, rfl, rfl, rfl, (by show -1 ≤ (-1) ∧ (-1) ≤ 13; omega)⟩
      · skip
        refine ov_blk (ls2 := [(0, ov_r 82), (1, ov_r 70), (2, ov_i x2), (3, ov_i x3)]) (st2 := [ov_r 82]) (pc2 := 13) b_110_12_1 rfl rfl ?_
        refine ov_getf (v := ov_r 85) d_110_13 fl_Walk_18 (zb_82 I) (zs_82 I) (congrArg ov_r (rg_82_4 I)) ?_
        refine ov_blk (ls2 := [(0, ov_r 82), (1, ov_r 70), (2, ov_i x2), (3, ov_i x3)]) (st2 := [ov_i x3, ov_r 85]) (pc2 := 17) b_110_16_1 rfl rfl ?_
        refine ov_iald d_110_17 (zb_85 I) (zs_85 I) (by omega) ?_
        have g8 := ra_85 I x3
        refine ov_blk (ls2 := [(0, ov_r 82), (1, ov_r 70), (2, ov_i x2), (3, ov_i x3), (4, ov_i (h 85 x3))]) (st2 := [ov_i x2, ov_i (h 85 x3)]) (pc2 := 23) b_110_18_3 rfl rfl ?_
        refine ov_iclt (tgt := 39) d_110_23 (by decide) (by omega) (by omega) (fun c9 => ?_) (fun c9 => ?_)
        · skip
          refine ov_blk (ls2 := [(0, ov_r 82), (1, ov_r 70), (2, ov_i x2), (3, ov_i x3), (4, ov_i (h 85 x3))]) (st2 := [ov_i x3]) (pc2 := 40) b_110_39_1 rfl rfl ?_
          exact ov_reti (st := []) d_110_40 rfl ⟨_, rfl, rfl, rfl, (by show -1 ≤ x3 ∧ x3 ≤ 13; omega)⟩
        · skip
          refine ov_blk (ls2 := [(0, ov_r 82), (1, ov_r 70), (2, ov_i x2), (3, ov_i x3), (4, ov_i (h 85 x3))]) (st2 := [ov_i ((h 85 x3) - x2), ov_i x3, ov_r 70, ov_r 82]) (pc2 := 33) b_110_26_6 rfl rfl ?_
          refine ov_havw (fun w10 gw10 qw10 => ?_)
          refine ov_cV (as := [ov_r 70, ov_i x3, ov_i w10]) (st := []) (d2 := d - 1) d_110_33 lk_Walk_28 rfl (Nat.le_of_ble_eq_true rfl) (c := 10) (zb_82 I) (zs_82 I) ⟨by decide, rfl⟩ (by omega) (c_Walk_isGreenFor_82_70 (d - 1) (by omega) U I x3 w10 (by omega) (by omega) (by omega)) ?_
          rintro _ _ _ ⟨v12, rfl, rfl, rfl, f11⟩
          show ov_R u d ov_m110 36 [(0, ov_r 82), (1, ov_r 70), (2, ov_i x2), (3, ov_i x3), (4, ov_i (h 85 x3))] [ov_i v12] z h (P_Walk_firstWrong_82_70 F z h)
          have f13 : (v12 = 0 ∨ v12 = 1) := f11
          clear f11
          refine ov_ifne (tgt := 41) d_110_36 (by decide) (by omega) (fun c14 => ?_) (fun c14 => ?_)
          · skip
            refine ov_blk (ls2 := [(0, ov_r 82), (1, ov_r 70), (2, ov_i x2), (3, ov_i x3), (4, ov_i (h 85 x3))]) (st2 := [ov_r 70, ov_i (h 85 x3)]) (pc2 := 44) b_110_41_2 rfl rfl ?_
            refine ov_getf (v := ov_r 76) d_110_44 fl_Walk_32 (zb_70 I) (zs_70 I) (congrArg ov_r (rg_70_7 I)) ?_
            refine ov_blk (ls2 := [(0, ov_r 82), (1, ov_r 70), (2, ov_i x2), (3, ov_i x3), (4, ov_i (h 85 x3))]) (st2 := [ov_i 0, ov_r 76, ov_i (h 85 x3)]) (pc2 := 48) b_110_47_1 rfl rfl ?_
            refine ov_iald d_110_48 (zb_76 I) (zs_76 I) (by omega) ?_
            have g15 := ra_76 I 0
            refine ov_blk (ls2 := [(0, ov_r 82), (1, ov_r 70), (2, ov_i x2), (3, ov_i x3), (4, ov_i (h 85 x3))]) (st2 := [ov_i ((h 85 x3) + (h 76 0))]) (pc2 := 50) b_110_49_1 rfl rfl ?_
            refine ov_havw (fun w16 gw16 qw16 => ?_)
            refine ov_blk (ls2 := [(0, ov_r 82), (1, ov_r 70), (2, ov_i w16), (3, ov_i (x3 + 1)), (4, ov_i (h 85 x3))]) (st2 := []) (pc2 := 54) b_110_50_2 rfl rfl ?_
            refine ov_goto (tgt := 4) d_110_54 (by decide) ?_
            refine ov_sub (ls2 := [(0, ov_r 82), (1, ov_r 70), (2, ov_i w16), (3, ov_i (x3 + 1))]) (List.Sublist.subset (by repeat (first | exact List.Sublist.refl _ | apply List.Sublist.cons_cons | apply List.Sublist.cons))) ?_
            exact ih2 w16 (x3 + 1) (by show ov_g w16 ∧ 0 ≤ (x3 + 1) ∧ (x3 + 1) ≤ 13; omega) (by omega)
          · skip
            refine ov_blk (ls2 := [(0, ov_r 82), (1, ov_r 70), (2, ov_i x2), (3, ov_i x3), (4, ov_i (h 85 x3))]) (st2 := [ov_i x3]) (pc2 := 40) b_110_39_1 rfl rfl ?_
            exact ov_reti (st := []) d_110_40 rfl ⟨_, rfl, rfl, rfl, (by show -1 ≤ x3 ∧ x3 ≤ 13; omega)⟩
  exact L4 14 0 0 (by show ov_g 0 ∧ 0 ≤ 0 ∧ 0 ≤ 13; omega) (by omega)
abbrev P_Walk_clear_86 (F : ov_H) (z : ov_Z) (h : ov_H)  : Option ov_V → ov_Z → ov_H → Prop := fun r0 z' h' => r0 = none ∧ ov_I F z' h' ∧ ((h' 36 7) = (h 36 7) ∧ (h' 1 1) = (h 1 1) ∧ (h' 90 2) = (h 90 2) ∧ (h' 0 10) = (h 0 10) ∧ (h' 0 11) = (h 0 11) ∧ (h' 0 12) = (h 0 12) ∧ (h' 0 13) = (h 0 13) ∧ (h' 3 1) = (h 3 1) ∧ (h' 36 8) = (h 36 8) ∧ (h' 46 3) = (h 46 3) ∧ (h' 46 4) = (h 46 4) ∧ (h' 49 4) = (h 49 4) ∧ (h' 49 5) = (h 49 5) ∧ (h' 64 0) = (h 64 0) ∧ (h' 76 0) = (h 76 0))
set_option maxHeartbeats 4000000 in
theorem c_Walk_clear_86 {u : ov_U} {F : ov_H} {z : ov_Z} {h : ov_H} (d : Nat) (hd : 0 ≤ d) (U : ov_cap u) (I : ov_I F z h) (hw : ov_kw 77371252455336267181195264 F) : ov_T u d ov_m80 [ov_r 86] z h (P_Walk_clear_86 F z h) := by
  refine ov_en rfl (Nat.le_of_ble_eq_true rfl) ?_
  show ov_R u d ov_m80 0 [(0, ov_r 86)] [] z h (P_Walk_clear_86 F z h)
  refine ov_blk (ls2 := [(0, ov_r 86)]) (st2 := [ov_i 0, ov_r 86]) (pc2 := 2) b_80_0_2 rfl rfl ?_
  refine ov_putf (x := 0) d_80_2 fl_Walk_21 (zb_86 I) (zs_86 I) rfl nk_0 rfl ?_
  have I1 := up_86_0 (x := 0) I (by omega) (hw 86 (by decide +kernel))
  refine ov_blk (ls2 := [(0, ov_r 86)]) (st2 := [ov_i 0, ov_r 86]) (pc2 := 7) b_80_5_2 rfl rfl ?_
  refine ov_putf (x := 0) d_80_7 fl_Walk_25 (zb_86 I1) (zs_86 I1) rfl nk_0 rfl ?_
  have I2 := up_86_1 (x := 0) I1 (by omega) (hw 86 (by decide +kernel))
  exact ov_retv (st := []) d_80_10 rfl ⟨rfl, I2, (by show (h 36 7) = (h 36 7) ∧ (h 1 1) = (h 1 1) ∧ (h 90 2) = (h 90 2) ∧ (h 0 10) = (h 0 10) ∧ (h 0 11) = (h 0 11) ∧ (h 0 12) = (h 0 12) ∧ (h 0 13) = (h 0 13) ∧ (h 3 1) = (h 3 1) ∧ (h 36 8) = (h 36 8) ∧ (h 46 3) = (h 46 3) ∧ (h 46 4) = (h 46 4) ∧ (h 49 4) = (h 49 4) ∧ (h 49 5) = (h 49 5) ∧ (h 64 0) = (h 64 0) ∧ (h 76 0) = (h 76 0); omega)⟩
abbrev P_Walk_add_86 (F : ov_H) (z : ov_Z) (h : ov_H) (c : Int) (way : Int) (s : Int) (n : Int) : Option ov_V → ov_Z → ov_H → Prop := fun r0 z' h' => r0 = none ∧ ov_I F z' h' ∧ ((h' 36 7) = (h 36 7) ∧ (h' 1 1) = (h 1 1) ∧ (h' 90 2) = (h 90 2) ∧ (h' 0 10) = (h 0 10) ∧ (h' 0 11) = (h 0 11) ∧ (h' 0 12) = (h 0 12) ∧ (h' 0 13) = (h 0 13) ∧ (h' 3 1) = (h 3 1) ∧ (h' 36 8) = (h 36 8) ∧ (h' 46 3) = (h 46 3) ∧ (h' 46 4) = (h 46 4) ∧ (h' 49 4) = (h 49 4) ∧ (h' 49 5) = (h 49 5) ∧ (h' 64 0) = (h 64 0) ∧ (h' 76 0) = (h 76 0))
set_option maxHeartbeats 4000000 in
theorem c_Walk_add_86 {u : ov_U} {F : ov_H} {z : ov_Z} {h : ov_H} (d : Nat) (hd : 0 ≤ d) (U : ov_cap u) (I : ov_I F z h) (hw : ov_kw 1160568786830044007717928960 F) (c : Int) (way : Int) (s : Int) (n : Int) (g_c : ov_g c) (g_way : ov_g way) (g_s : ov_g s) (g_n : ov_g n) (p0 : 0 ≤ c ∧ c ≤ 53) (p1 : way = 0 ∨ way = 1) (p2 : 0 ≤ n ∧ n ≤ 53) : ov_T u d ov_m92 [ov_r 86, ov_i c, ov_i way, ov_i s, ov_i n] z h (P_Walk_add_86 F z h c way s n) := by
  refine ov_en rfl (Nat.le_of_ble_eq_true rfl) ?_
  show ov_R u d ov_m92 0 [(0, ov_r 86), (1, ov_i c), (2, ov_i way), (3, ov_i s), (4, ov_i n)] [] z h (P_Walk_add_86 F z h c way s n)
  refine ov_blk (ls2 := [(0, ov_r 86), (1, ov_i c), (2, ov_i way), (3, ov_i s), (4, ov_i n)]) (st2 := [ov_r 86]) (pc2 := 1) b_92_0_1 rfl rfl ?_
  refine ov_getf (v := ov_i (h 86 0)) d_92_1 fl_Walk_21 (zb_86 I) (zs_86 I) rfl ?_
  have g1 := rg_86_0 I
  refine ov_blk (ls2 := [(0, ov_r 86), (1, ov_i c), (2, ov_i way), (3, ov_i s), (4, ov_i n)]) (st2 := [ov_i 13, ov_i (h 86 0)]) (pc2 := 6) b_92_4_1 rfl rfl ?_
  refine ov_icge (tgt := 55) d_92_6 (by decide) (by omega) (by omega) (fun c2 => ?_) (fun c2 => ?_)
  · skip
    exact ov_retv (st := []) d_92_55 rfl ⟨rfl, I, (by show (h 36 7) = (h 36 7) ∧ (h 1 1) = (h 1 1) ∧ (h 90 2) = (h 90 2) ∧ (h 0 10) = (h 0 10) ∧ (h 0 11) = (h 0 11) ∧ (h 0 12) = (h 0 12) ∧ (h 0 13) = (h 0 13) ∧ (h 3 1) = (h 3 1) ∧ (h 36 8) = (h 36 8) ∧ (h 46 3) = (h 46 3) ∧ (h 46 4) = (h 46 4) ∧ (h 49 4) = (h 49 4) ∧ (h 49 5) = (h 49 5) ∧ (h 64 0) = (h 64 0) ∧ (h 76 0) = (h 76 0); omega)⟩
  · skip
    refine ov_blk (ls2 := [(0, ov_r 86), (1, ov_i c), (2, ov_i way), (3, ov_i s), (4, ov_i n)]) (st2 := [ov_r 86]) (pc2 := 10) b_92_9_1 rfl rfl ?_
    refine ov_getf (v := ov_r 87) d_92_10 fl_Walk_9 (zb_86 I) (zs_86 I) (congrArg ov_r (rg_86_2 I)) ?_
    refine ov_blk (ls2 := [(0, ov_r 86), (1, ov_i c), (2, ov_i way), (3, ov_i s), (4, ov_i n)]) (st2 := [ov_r 86, ov_r 87]) (pc2 := 14) b_92_13_1 rfl rfl ?_
    refine ov_getf (v := ov_i (h 86 0)) d_92_14 fl_Walk_21 (zb_86 I) (zs_86 I) rfl ?_
    refine ov_blk (ls2 := [(0, ov_r 86), (1, ov_i c), (2, ov_i way), (3, ov_i s), (4, ov_i n)]) (st2 := [ov_i c, ov_i (h 86 0), ov_r 87]) (pc2 := 18) b_92_17_1 rfl rfl ?_
    refine ov_iast d_92_18 (zb_87 I) (zs_87 I) (by omega) ?_
    have I4 := ua_87 (k := (h 86 0)) (x := c) I (by omega) (hw 87 (by decide +kernel))
    refine ov_blk (ls2 := [(0, ov_r 86), (1, ov_i c), (2, ov_i way), (3, ov_i s), (4, ov_i n)]) (st2 := [ov_r 86]) (pc2 := 20) b_92_19_1 rfl rfl ?_
    refine ov_getf (v := ov_r 88) d_92_20 fl_Walk_15 (zb_86 I4) (zs_86 I4) (congrArg ov_r (rg_86_3 I4)) ?_
    refine ov_blk (ls2 := [(0, ov_r 86), (1, ov_i c), (2, ov_i way), (3, ov_i s), (4, ov_i n)]) (st2 := [ov_r 86, ov_r 88]) (pc2 := 24) b_92_23_1 rfl rfl ?_
    refine ov_getf (v := ov_i (h 86 0)) d_92_24 fl_Walk_21 (zb_86 I4) (zs_86 I4) rfl ?_
    refine ov_blk (ls2 := [(0, ov_r 86), (1, ov_i c), (2, ov_i way), (3, ov_i s), (4, ov_i n)]) (st2 := [ov_i way, ov_i (h 86 0), ov_r 88]) (pc2 := 28) b_92_27_1 rfl rfl ?_
    refine ov_iast d_92_28 (zb_88 I4) (zs_88 I4) (by omega) ?_
    have I6 := ua_88 (k := (h 86 0)) (x := way) I4 (by omega) (hw 88 (by decide +kernel))
    refine ov_blk (ls2 := [(0, ov_r 86), (1, ov_i c), (2, ov_i way), (3, ov_i s), (4, ov_i n)]) (st2 := [ov_r 86]) (pc2 := 30) b_92_29_1 rfl rfl ?_
    refine ov_getf (v := ov_r 89) d_92_30 fl_Walk_18 (zb_86 I6) (zs_86 I6) (congrArg ov_r (rg_86_4 I6)) ?_
    refine ov_blk (ls2 := [(0, ov_r 86), (1, ov_i c), (2, ov_i way), (3, ov_i s), (4, ov_i n)]) (st2 := [ov_r 86, ov_r 89]) (pc2 := 34) b_92_33_1 rfl rfl ?_
    refine ov_getf (v := ov_i (h 86 0)) d_92_34 fl_Walk_21 (zb_86 I6) (zs_86 I6) rfl ?_
    refine ov_blk (ls2 := [(0, ov_r 86), (1, ov_i c), (2, ov_i way), (3, ov_i s), (4, ov_i n)]) (st2 := [ov_i s, ov_i (h 86 0), ov_r 89]) (pc2 := 38) b_92_37_1 rfl rfl ?_
    refine ov_iast d_92_38 (zb_89 I6) (zs_89 I6) (by omega) ?_
    have I8 := ua_89 (k := (h 86 0)) (x := s) I6 (by omega) (hw 89 (by decide +kernel))
    refine ov_blk (ls2 := [(0, ov_r 86), (1, ov_i c), (2, ov_i way), (3, ov_i s), (4, ov_i n)]) (st2 := [ov_i n, ov_r 86]) (pc2 := 42) b_92_39_2 rfl rfl ?_
    refine ov_putf (x := n) d_92_42 fl_Walk_25 (zb_86 I8) (zs_86 I8) rfl nk_0 rfl ?_
    have I9 := up_86_1 (x := n) I8 (by omega) (hw 86 (by decide +kernel))
    refine ov_blk (ls2 := [(0, ov_r 86), (1, ov_i c), (2, ov_i way), (3, ov_i s), (4, ov_i n)]) (st2 := [ov_r 86, ov_r 86]) (pc2 := 47) b_92_45_2 rfl rfl ?_
    refine ov_getf (v := ov_i (h 86 0)) d_92_47 fl_Walk_21 (zb_86 I9) (zs_86 I9) rfl ?_
    refine ov_blk (ls2 := [(0, ov_r 86), (1, ov_i c), (2, ov_i way), (3, ov_i s), (4, ov_i n)]) (st2 := [ov_i ((h 86 0) + 1), ov_r 86]) (pc2 := 52) b_92_50_2 rfl rfl ?_
    refine ov_putf (x := ((h 86 0) + 1)) d_92_52 fl_Walk_21 (zb_86 I9) (zs_86 I9) rfl nk_0 rfl ?_
    have I11 := up_86_0 (x := ((h 86 0) + 1)) I9 (by omega) (hw 86 (by decide +kernel))
    exact ov_retv (st := []) d_92_55 rfl ⟨rfl, I11, (by show (h 36 7) = (h 36 7) ∧ (h 1 1) = (h 1 1) ∧ (h 90 2) = (h 90 2) ∧ (h 0 10) = (h 0 10) ∧ (h 0 11) = (h 0 11) ∧ (h 0 12) = (h 0 12) ∧ (h 0 13) = (h 0 13) ∧ (h 3 1) = (h 3 1) ∧ (h 36 8) = (h 36 8) ∧ (h 46 3) = (h 46 3) ∧ (h 46 4) = (h 46 4) ∧ (h 49 4) = (h 49 4) ∧ (h 49 5) = (h 49 5) ∧ (h 64 0) = (h 64 0) ∧ (h 76 0) = (h 76 0); omega)⟩
abbrev P_Walk_isGreenFor_86_58 (F : ov_H) (z : ov_Z) (h : ov_H) (l : Int) (s : Int) : Option ov_V → ov_Z → ov_H → Prop := fun r0 z' h' => ∃ r : Int, r0 = some (ov_i r) ∧ z = z' ∧ h = h' ∧ ((r = 0 ∨ r = 1))
set_option maxHeartbeats 4000000 in
theorem c_Walk_isGreenFor_86_58 {u : ov_U} {F : ov_H} {z : ov_Z} {h : ov_H} (d : Nat) (hd : 2 ≤ d) (U : ov_cap u) (I : ov_I F z h) (l : Int) (s : Int) (g_l : ov_g l) (g_s : ov_g s) (p0 : 0 ≤ l ∧ l ≤ 12) : ov_T u d ov_m111 [ov_r 86, ov_r 58, ov_i l, ov_i s] z h (P_Walk_isGreenFor_86_58 F z h l s) := by
  refine ov_en rfl (Nat.le_of_ble_eq_true rfl) ?_
  show ov_R u d ov_m111 0 [(0, ov_r 86), (1, ov_r 58), (2, ov_i l), (3, ov_i s)] [] z h (P_Walk_isGreenFor_86_58 F z h l s)
  refine ov_blk (ls2 := [(0, ov_r 86), (1, ov_r 58), (2, ov_i l), (3, ov_i s)]) (st2 := [ov_r 86, ov_r 58]) (pc2 := 2) b_111_0_2 rfl rfl ?_
  refine ov_getf (v := ov_r 87) d_111_2 fl_Walk_9 (zb_86 I) (zs_86 I) (congrArg ov_r (rg_86_2 I)) ?_
  refine ov_blk (ls2 := [(0, ov_r 86), (1, ov_r 58), (2, ov_i l), (3, ov_i s)]) (st2 := [ov_i l, ov_r 87, ov_r 58]) (pc2 := 6) b_111_5_1 rfl rfl ?_
  refine ov_iald d_111_6 (zb_87 I) (zs_87 I) (by omega) ?_
  have g1 := ra_87 I l
  refine ov_blk (ls2 := [(0, ov_r 86), (1, ov_r 58), (2, ov_i l), (3, ov_i s)]) (st2 := [ov_r 86, ov_i (h 87 l), ov_r 58]) (pc2 := 8) b_111_7_1 rfl rfl ?_
  refine ov_getf (v := ov_r 88) d_111_8 fl_Walk_15 (zb_86 I) (zs_86 I) (congrArg ov_r (rg_86_3 I)) ?_
  refine ov_blk (ls2 := [(0, ov_r 86), (1, ov_r 58), (2, ov_i l), (3, ov_i s)]) (st2 := [ov_i l, ov_r 88, ov_i (h 87 l), ov_r 58]) (pc2 := 12) b_111_11_1 rfl rfl ?_
  refine ov_iald d_111_12 (zb_88 I) (zs_88 I) (by omega) ?_
  have g2 := ra_88 I l
  refine ov_blk (ls2 := [(0, ov_r 86), (1, ov_r 58), (2, ov_i l), (3, ov_i s)]) (st2 := [ov_r 86, ov_i (h 88 l), ov_i (h 87 l), ov_r 58]) (pc2 := 14) b_111_13_1 rfl rfl ?_
  refine ov_getf (v := ov_r 89) d_111_14 fl_Walk_18 (zb_86 I) (zs_86 I) (congrArg ov_r (rg_86_4 I)) ?_
  refine ov_blk (ls2 := [(0, ov_r 86), (1, ov_r 58), (2, ov_i l), (3, ov_i s)]) (st2 := [ov_i l, ov_r 89, ov_i (h 88 l), ov_i (h 87 l), ov_r 58]) (pc2 := 18) b_111_17_1 rfl rfl ?_
  refine ov_iald d_111_18 (zb_89 I) (zs_89 I) (by omega) ?_
  have g3 := ra_89 I l
  refine ov_cV (as := [ov_i (h 87 l), ov_i (h 88 l), ov_i (h 89 l)]) (st := []) (d2 := d - 1) d_111_19 lk_Walk_37 rfl (Nat.le_of_ble_eq_true rfl) (c := 9) (zb_58 I) (zs_58 I) ⟨by decide, rfl⟩ (by omega) (c_Town_waitFor_58 (d - 1) (by omega) U I (h 87 l) (h 88 l) (h 89 l) (by omega) (by omega) (by omega) (by omega)) ?_
  rintro _ _ _ ⟨v5, rfl, rfl, rfl, f4⟩
  show ov_R u d ov_m111 22 [(0, ov_r 86), (1, ov_r 58), (2, ov_i l), (3, ov_i s)] [ov_i v5] z h (P_Walk_isGreenFor_86_58 F z h l s)
  have f6 : 0 ≤ v5 ∧ v5 ≤ 60 := f4
  clear f4
  refine ov_blk (ls2 := [(0, ov_r 86), (1, ov_r 58), (2, ov_i l), (3, ov_i s), (4, ov_i v5)]) (st2 := [ov_r 58]) (pc2 := 25) b_111_22_2 rfl rfl ?_
  refine ov_getf (v := ov_r 59) d_111_25 fl_Walk_41 (zb_58 I) (zs_58 I) (congrArg ov_r (rg_58_2 I)) ?_
  refine ov_blk (ls2 := [(0, ov_r 86), (1, ov_r 58), (2, ov_i l), (3, ov_i s), (4, ov_i v5)]) (st2 := [ov_r 86, ov_r 59]) (pc2 := 29) b_111_28_1 rfl rfl ?_
  refine ov_getf (v := ov_r 87) d_111_29 fl_Walk_9 (zb_86 I) (zs_86 I) (congrArg ov_r (rg_86_2 I)) ?_
  refine ov_blk (ls2 := [(0, ov_r 86), (1, ov_r 58), (2, ov_i l), (3, ov_i s), (4, ov_i v5)]) (st2 := [ov_i l, ov_r 87, ov_r 59]) (pc2 := 33) b_111_32_1 rfl rfl ?_
  refine ov_iald d_111_33 (zb_87 I) (zs_87 I) (by omega) ?_
  refine ov_iald d_111_34 (zb_59 I) (zs_59 I) (by omega) ?_
  have g8 := ra_59 I (h 87 l)
  refine ov_blk (ls2 := [(0, ov_r 86), (1, ov_r 58), (2, ov_i l), (3, ov_i s), (4, ov_i v5)]) (st2 := [ov_i 2, ov_i (h 59 (h 87 l))]) (pc2 := 36) b_111_35_1 rfl rfl ?_
  refine ov_icne (tgt := 53) d_111_36 (by decide) (by omega) (by omega) (fun c9 => ?_) (fun c9 => ?_)
  · skip
    refine ov_blk (ls2 := [(0, ov_r 86), (1, ov_r 58), (2, ov_i l), (3, ov_i s), (4, ov_i v5)]) (st2 := [ov_i v5]) (pc2 := 55) b_111_53_1 rfl rfl ?_
    refine ov_ifne (tgt := 62) d_111_55 (by decide) (by omega) (fun c10 => ?_) (fun c10 => ?_)
    · skip
      refine ov_blk (ls2 := [(0, ov_r 86), (1, ov_r 58), (2, ov_i l), (3, ov_i s), (4, ov_i v5)]) (st2 := [ov_i 0]) (pc2 := 63) b_111_62_1 rfl rfl ?_
      exact ov_retz (st := []) d_111_63 rfl (by omega) ⟨_, rfl, rfl, rfl, (by show (0 = 0 ∨ 0 = 1); omega)⟩
    · skip
      refine ov_blk (ls2 := [(0, ov_r 86), (1, ov_r 58), (2, ov_i l), (3, ov_i s), (4, ov_i v5)]) (st2 := [ov_i 1]) (pc2 := 59) b_111_58_1 rfl rfl ?_
      refine ov_goto (tgt := 63) d_111_59 (by decide) ?_
      exact ov_retz (st := []) d_111_63 rfl (by omega) ⟨_, rfl, rfl, rfl, (by show (1 = 0 ∨ 1 = 1); omega)⟩
  · skip
    refine ov_blk (ls2 := [(0, ov_r 86), (1, ov_r 58), (2, ov_i l), (3, ov_i s), (4, ov_i v5)]) (st2 := [ov_i v5, ov_i s]) (pc2 := 42) b_111_39_2 rfl rfl ?_
    refine ov_iclt (tgt := 49) d_111_42 (by decide) (by omega) (by omega) (fun c11 => ?_) (fun c11 => ?_)
    · skip
      refine ov_blk (ls2 := [(0, ov_r 86), (1, ov_r 58), (2, ov_i l), (3, ov_i s), (4, ov_i v5)]) (st2 := [ov_i 0]) (pc2 := 50) b_111_49_1 rfl rfl ?_
      refine ov_goto (tgt := 63) d_111_50 (by decide) ?_
      exact ov_retz (st := []) d_111_63 rfl (by omega) ⟨_, rfl, rfl, rfl, (by show (0 = 0 ∨ 0 = 1); omega)⟩
    · skip
      refine ov_blk (ls2 := [(0, ov_r 86), (1, ov_r 58), (2, ov_i l), (3, ov_i s), (4, ov_i v5)]) (st2 := [ov_i 1]) (pc2 := 46) b_111_45_1 rfl rfl ?_
      refine ov_goto (tgt := 63) d_111_46 (by decide) ?_
      exact ov_retz (st := []) d_111_63 rfl (by omega) ⟨_, rfl, rfl, rfl, (by show (1 = 0 ∨ 1 = 1); omega)⟩
abbrev P_Walk_firstWrong_86_58 (F : ov_H) (z : ov_Z) (h : ov_H)  : Option ov_V → ov_Z → ov_H → Prop := fun r0 z' h' => ∃ r : Int, r0 = some (ov_i r) ∧ z = z' ∧ h = h' ∧ (-1 ≤ r ∧ r ≤ 13)
set_option maxHeartbeats 4000000 in
theorem c_Walk_firstWrong_86_58 {u : ov_U} {F : ov_H} {z : ov_Z} {h : ov_H} (d : Nat) (hd : 3 ≤ d) (U : ov_cap u) (I : ov_I F z h) : ov_T u d ov_m110 [ov_r 86, ov_r 58] z h (P_Walk_firstWrong_86_58 F z h) := by
  refine ov_en rfl (Nat.le_of_ble_eq_true rfl) ?_
  show ov_R u d ov_m110 0 [(0, ov_r 86), (1, ov_r 58)] [] z h (P_Walk_firstWrong_86_58 F z h)
  refine ov_blk (ls2 := [(0, ov_r 86), (1, ov_r 58), (2, ov_i 0), (3, ov_i 0)]) (st2 := []) (pc2 := 4) b_110_0_4 rfl rfl ?_
  have L4 : ∀ (n1 : Nat) (x2 : Int) (x3 : Int) (q3 : ov_g x2 ∧ 0 ≤ x3 ∧ x3 ≤ 13), 13 - x3 < (n1 : Int) → ov_R u d ov_m110 4 [(0, ov_r 86), (1, ov_r 58), (2, ov_i x2), (3, ov_i x3)] [] z h (P_Walk_firstWrong_86_58 F z h) := by
    intro n1
    induction n1 with
    | zero =>
      intro x2 x3 q3 hn5
      exact absurd hn5 (by omega)
    | succ n1 ih2 =>
      intro x2 x3 q3 hn5
      refine ov_blk (ls2 := [(0, ov_r 86), (1, ov_r 58), (2, ov_i x2), (3, ov_i x3)]) (st2 := [ov_r 86, ov_i x3]) (pc2 := 6) b_110_4_2 rfl rfl ?_
      refine ov_getf (v := ov_i (h 86 0)) d_110_6 fl_Walk_21 (zb_86 I) (zs_86 I) rfl ?_
      have g6 := rg_86_0 I
      refine ov_icge (tgt := 57) d_110_9 (by decide) (by omega) (by omega) (fun c7 => ?_) (fun c7 => ?_)
      · skip
        refine ov_blk (ls2 := [(0, ov_r 86), (1, ov_r 58), (2, ov_i x2), (3, ov_i x3)]) (st2 := [ov_i (-1)]) (pc2 := 58) b_110_57_1 rfl rfl ?_
        exact ov_reti (st := []) d_110_58 rfl ⟨_, rfl, rfl, rfl, (by show -1 ≤ (-1) ∧ (-1) ≤ 13; omega)⟩
      · skip
        refine ov_blk (ls2 := [(0, ov_r 86), (1, ov_r 58), (2, ov_i x2), (3, ov_i x3)]) (st2 := [ov_r 86]) (pc2 := 13) b_110_12_1 rfl rfl ?_
        refine ov_getf (v := ov_r 89) d_110_13 fl_Walk_18 (zb_86 I) (zs_86 I) (congrArg ov_r (rg_86_4 I)) ?_
        refine ov_blk (ls2 := [(0, ov_r 86), (1, ov_r 58), (2, ov_i x2), (3, ov_i x3)]) (st2 := [ov_i x3, ov_r 89]) (pc2 := 17) b_110_16_1 rfl rfl ?_
        refine ov_iald d_110_17 (zb_89 I) (zs_89 I) (by omega) ?_
        have g8 := ra_89 I x3
        refine ov_blk (ls2 := [(0, ov_r 86), (1, ov_r 58), (2, ov_i x2), (3, ov_i x3), (4, ov_i (h 89 x3))]) (st2 := [ov_i x2, ov_i (h 89 x3)]) (pc2 := 23) b_110_18_3 rfl rfl ?_
        refine ov_iclt (tgt := 39) d_110_23 (by decide) (by omega) (by omega) (fun c9 => ?_) (fun c9 => ?_)
        · skip
          refine ov_blk (ls2 := [(0, ov_r 86), (1, ov_r 58), (2, ov_i x2), (3, ov_i x3), (4, ov_i (h 89 x3))]) (st2 := [ov_i x3]) (pc2 := 40) b_110_39_1 rfl rfl ?_
          exact ov_reti (st := []) d_110_40 rfl ⟨_, rfl, rfl, rfl, (by show -1 ≤ x3 ∧ x3 ≤ 13; omega)⟩
        · skip
          refine ov_blk (ls2 := [(0, ov_r 86), (1, ov_r 58), (2, ov_i x2), (3, ov_i x3), (4, ov_i (h 89 x3))]) (st2 := [ov_i ((h 89 x3) - x2), ov_i x3, ov_r 58, ov_r 86]) (pc2 := 33) b_110_26_6 rfl rfl ?_
          refine ov_havw (fun w10 gw10 qw10 => ?_)
          refine ov_cV (as := [ov_r 58, ov_i x3, ov_i w10]) (st := []) (d2 := d - 1) d_110_33 lk_Walk_28 rfl (Nat.le_of_ble_eq_true rfl) (c := 10) (zb_86 I) (zs_86 I) ⟨by decide, rfl⟩ (by omega) (c_Walk_isGreenFor_86_58 (d - 1) (by omega) U I x3 w10 (by omega) (by omega) (by omega)) ?_
          rintro _ _ _ ⟨v12, rfl, rfl, rfl, f11⟩
          show ov_R u d ov_m110 36 [(0, ov_r 86), (1, ov_r 58), (2, ov_i x2), (3, ov_i x3), (4, ov_i (h 89 x3))] [ov_i v12] z h (P_Walk_firstWrong_86_58 F z h)
          have f13 : (v12 = 0 ∨ v12 = 1) := f11
          clear f11
          refine ov_ifne (tgt := 41) d_110_36 (by decide) (by omega) (fun c14 => ?_) (fun c14 => ?_)
          · skip
            refine ov_blk (ls2 := [(0, ov_r 86), (1, ov_r 58), (2, ov_i x2), (3, ov_i x3), (4, ov_i (h 89 x3))]) (st2 := [ov_r 58, ov_i (h 89 x3)]) (pc2 := 44) b_110_41_2 rfl rfl ?_
            refine ov_getf (v := ov_r 64) d_110_44 fl_Walk_32 (zb_58 I) (zs_58 I) (congrArg ov_r (rg_58_7 I)) ?_
            refine ov_blk (ls2 := [(0, ov_r 86), (1, ov_r 58), (2, ov_i x2), (3, ov_i x3), (4, ov_i (h 89 x3))]) (st2 := [ov_i 0, ov_r 64, ov_i (h 89 x3)]) (pc2 := 48) b_110_47_1 rfl rfl ?_
            refine ov_iald d_110_48 (zb_64 I) (zs_64 I) (by omega) ?_
            have g15 := ra_64 I 0
            refine ov_blk (ls2 := [(0, ov_r 86), (1, ov_r 58), (2, ov_i x2), (3, ov_i x3), (4, ov_i (h 89 x3))]) (st2 := [ov_i ((h 89 x3) + (h 64 0))]) (pc2 := 50) b_110_49_1 rfl rfl ?_
            refine ov_havw (fun w16 gw16 qw16 => ?_)
            refine ov_blk (ls2 := [(0, ov_r 86), (1, ov_r 58), (2, ov_i w16), (3, ov_i (x3 + 1)), (4, ov_i (h 89 x3))]) (st2 := []) (pc2 := 54) b_110_50_2 rfl rfl ?_
            refine ov_goto (tgt := 4) d_110_54 (by decide) ?_
            refine ov_sub (ls2 := [(0, ov_r 86), (1, ov_r 58), (2, ov_i w16), (3, ov_i (x3 + 1))]) (List.Sublist.subset (by repeat (first | exact List.Sublist.refl _ | apply List.Sublist.cons_cons | apply List.Sublist.cons))) ?_
            exact ih2 w16 (x3 + 1) (by show ov_g w16 ∧ 0 ≤ (x3 + 1) ∧ (x3 + 1) ≤ 13; omega) (by omega)
          · skip
            refine ov_blk (ls2 := [(0, ov_r 86), (1, ov_r 58), (2, ov_i x2), (3, ov_i x3), (4, ov_i (h 89 x3))]) (st2 := [ov_i x3]) (pc2 := 40) b_110_39_1 rfl rfl ?_
            exact ov_reti (st := []) d_110_40 rfl ⟨_, rfl, rfl, rfl, (by show -1 ≤ x3 ∧ x3 ≤ 13; omega)⟩
  exact L4 14 0 0 (by show ov_g 0 ∧ 0 ≤ 0 ∧ 0 ≤ 13; omega) (by omega)
abbrev P_Walk_isGreenFor_86_70 (F : ov_H) (z : ov_Z) (h : ov_H) (l : Int) (s : Int) : Option ov_V → ov_Z → ov_H → Prop := fun r0 z' h' => ∃ r : Int, r0 = some (ov_i r) ∧ z = z' ∧ h = h' ∧ ((r = 0 ∨ r = 1))
set_option maxHeartbeats 4000000 in
theorem c_Walk_isGreenFor_86_70 {u : ov_U} {F : ov_H} {z : ov_Z} {h : ov_H} (d : Nat) (hd : 2 ≤ d) (U : ov_cap u) (I : ov_I F z h) (l : Int) (s : Int) (g_l : ov_g l) (g_s : ov_g s) (p0 : 0 ≤ l ∧ l ≤ 12) : ov_T u d ov_m111 [ov_r 86, ov_r 70, ov_i l, ov_i s] z h (P_Walk_isGreenFor_86_70 F z h l s) := by
  refine ov_en rfl (Nat.le_of_ble_eq_true rfl) ?_
  show ov_R u d ov_m111 0 [(0, ov_r 86), (1, ov_r 70), (2, ov_i l), (3, ov_i s)] [] z h (P_Walk_isGreenFor_86_70 F z h l s)
  refine ov_blk (ls2 := [(0, ov_r 86), (1, ov_r 70), (2, ov_i l), (3, ov_i s)]) (st2 := [ov_r 86, ov_r 70]) (pc2 := 2) b_111_0_2 rfl rfl ?_
  refine ov_getf (v := ov_r 87) d_111_2 fl_Walk_9 (zb_86 I) (zs_86 I) (congrArg ov_r (rg_86_2 I)) ?_
  refine ov_blk (ls2 := [(0, ov_r 86), (1, ov_r 70), (2, ov_i l), (3, ov_i s)]) (st2 := [ov_i l, ov_r 87, ov_r 70]) (pc2 := 6) b_111_5_1 rfl rfl ?_
  refine ov_iald d_111_6 (zb_87 I) (zs_87 I) (by omega) ?_
  have g1 := ra_87 I l
  refine ov_blk (ls2 := [(0, ov_r 86), (1, ov_r 70), (2, ov_i l), (3, ov_i s)]) (st2 := [ov_r 86, ov_i (h 87 l), ov_r 70]) (pc2 := 8) b_111_7_1 rfl rfl ?_
  refine ov_getf (v := ov_r 88) d_111_8 fl_Walk_15 (zb_86 I) (zs_86 I) (congrArg ov_r (rg_86_3 I)) ?_
  refine ov_blk (ls2 := [(0, ov_r 86), (1, ov_r 70), (2, ov_i l), (3, ov_i s)]) (st2 := [ov_i l, ov_r 88, ov_i (h 87 l), ov_r 70]) (pc2 := 12) b_111_11_1 rfl rfl ?_
  refine ov_iald d_111_12 (zb_88 I) (zs_88 I) (by omega) ?_
  have g2 := ra_88 I l
  refine ov_blk (ls2 := [(0, ov_r 86), (1, ov_r 70), (2, ov_i l), (3, ov_i s)]) (st2 := [ov_r 86, ov_i (h 88 l), ov_i (h 87 l), ov_r 70]) (pc2 := 14) b_111_13_1 rfl rfl ?_
  refine ov_getf (v := ov_r 89) d_111_14 fl_Walk_18 (zb_86 I) (zs_86 I) (congrArg ov_r (rg_86_4 I)) ?_
  refine ov_blk (ls2 := [(0, ov_r 86), (1, ov_r 70), (2, ov_i l), (3, ov_i s)]) (st2 := [ov_i l, ov_r 89, ov_i (h 88 l), ov_i (h 87 l), ov_r 70]) (pc2 := 18) b_111_17_1 rfl rfl ?_
  refine ov_iald d_111_18 (zb_89 I) (zs_89 I) (by omega) ?_
  have g3 := ra_89 I l
  refine ov_cV (as := [ov_i (h 87 l), ov_i (h 88 l), ov_i (h 89 l)]) (st := []) (d2 := d - 1) d_111_19 lk_Walk_37 rfl (Nat.le_of_ble_eq_true rfl) (c := 9) (zb_70 I) (zs_70 I) ⟨by decide, rfl⟩ (by omega) (c_Town_waitFor_70 (d - 1) (by omega) U I (h 87 l) (h 88 l) (h 89 l) (by omega) (by omega) (by omega) (by omega)) ?_
  rintro _ _ _ ⟨v5, rfl, rfl, rfl, f4⟩
  show ov_R u d ov_m111 22 [(0, ov_r 86), (1, ov_r 70), (2, ov_i l), (3, ov_i s)] [ov_i v5] z h (P_Walk_isGreenFor_86_70 F z h l s)
  have f6 : 0 ≤ v5 ∧ v5 ≤ 60 := f4
  clear f4
  refine ov_blk (ls2 := [(0, ov_r 86), (1, ov_r 70), (2, ov_i l), (3, ov_i s), (4, ov_i v5)]) (st2 := [ov_r 70]) (pc2 := 25) b_111_22_2 rfl rfl ?_
  refine ov_getf (v := ov_r 71) d_111_25 fl_Walk_41 (zb_70 I) (zs_70 I) (congrArg ov_r (rg_70_2 I)) ?_
  refine ov_blk (ls2 := [(0, ov_r 86), (1, ov_r 70), (2, ov_i l), (3, ov_i s), (4, ov_i v5)]) (st2 := [ov_r 86, ov_r 71]) (pc2 := 29) b_111_28_1 rfl rfl ?_
  refine ov_getf (v := ov_r 87) d_111_29 fl_Walk_9 (zb_86 I) (zs_86 I) (congrArg ov_r (rg_86_2 I)) ?_
  refine ov_blk (ls2 := [(0, ov_r 86), (1, ov_r 70), (2, ov_i l), (3, ov_i s), (4, ov_i v5)]) (st2 := [ov_i l, ov_r 87, ov_r 71]) (pc2 := 33) b_111_32_1 rfl rfl ?_
  refine ov_iald d_111_33 (zb_87 I) (zs_87 I) (by omega) ?_
  refine ov_iald d_111_34 (zb_71 I) (zs_71 I) (by omega) ?_
  have g8 := ra_71 I (h 87 l)
  refine ov_blk (ls2 := [(0, ov_r 86), (1, ov_r 70), (2, ov_i l), (3, ov_i s), (4, ov_i v5)]) (st2 := [ov_i 2, ov_i (h 71 (h 87 l))]) (pc2 := 36) b_111_35_1 rfl rfl ?_
  refine ov_icne (tgt := 53) d_111_36 (by decide) (by omega) (by omega) (fun c9 => ?_) (fun c9 => ?_)
  · skip
    refine ov_blk (ls2 := [(0, ov_r 86), (1, ov_r 70), (2, ov_i l), (3, ov_i s), (4, ov_i v5)]) (st2 := [ov_i v5]) (pc2 := 55) b_111_53_1 rfl rfl ?_
    refine ov_ifne (tgt := 62) d_111_55 (by decide) (by omega) (fun c10 => ?_) (fun c10 => ?_)
    · skip
      refine ov_blk (ls2 := [(0, ov_r 86), (1, ov_r 70), (2, ov_i l), (3, ov_i s), (4, ov_i v5)]) (st2 := [ov_i 0]) (pc2 := 63) b_111_62_1 rfl rfl ?_
      exact ov_retz (st := []) d_111_63 rfl (by omega) ⟨_, rfl, rfl, rfl, (by show (0 = 0 ∨ 0 = 1); omega)⟩
    · skip
      refine ov_blk (ls2 := [(0, ov_r 86), (1, ov_r 70), (2, ov_i l), (3, ov_i s), (4, ov_i v5)]) (st2 := [ov_i 1]) (pc2 := 59) b_111_58_1 rfl rfl ?_
      refine ov_goto (tgt := 63) d_111_59 (by decide) ?_
      exact ov_retz (st := []) d_111_63 rfl (by omega) ⟨_, rfl, rfl, rfl, (by show (1 = 0 ∨ 1 = 1); omega)⟩
  · skip
    refine ov_blk (ls2 := [(0, ov_r 86), (1, ov_r 70), (2, ov_i l), (3, ov_i s), (4, ov_i v5)]) (st2 := [ov_i v5, ov_i s]) (pc2 := 42) b_111_39_2 rfl rfl ?_
    refine ov_iclt (tgt := 49) d_111_42 (by decide) (by omega) (by omega) (fun c11 => ?_) (fun c11 => ?_)
    · skip
      refine ov_blk (ls2 := [(0, ov_r 86), (1, ov_r 70), (2, ov_i l), (3, ov_i s), (4, ov_i v5)]) (st2 := [ov_i 0]) (pc2 := 50) b_111_49_1 rfl rfl ?_
      refine ov_goto (tgt := 63) d_111_50 (by decide) ?_
      exact ov_retz (st := []) d_111_63 rfl (by omega) ⟨_, rfl, rfl, rfl, (by show (0 = 0 ∨ 0 = 1); omega)⟩
    · skip
      refine ov_blk (ls2 := [(0, ov_r 86), (1, ov_r 70), (2, ov_i l), (3, ov_i s), (4, ov_i v5)]) (st2 := [ov_i 1]) (pc2 := 46) b_111_45_1 rfl rfl ?_
      refine ov_goto (tgt := 63) d_111_46 (by decide) ?_
      exact ov_retz (st := []) d_111_63 rfl (by omega) ⟨_, rfl, rfl, rfl, (by show (1 = 0 ∨ 1 = 1); omega)⟩
abbrev P_Walk_firstWrong_86_70 (F : ov_H) (z : ov_Z) (h : ov_H)  : Option ov_V → ov_Z → ov_H → Prop := fun r0 z' h' => ∃ r : Int, r0 = some (ov_i r) ∧ z = z' ∧ h = h' ∧ (-1 ≤ r ∧ r ≤ 13)
set_option maxHeartbeats 4000000 in
theorem c_Walk_firstWrong_86_70 {u : ov_U} {F : ov_H} {z : ov_Z} {h : ov_H} (d : Nat) (hd : 3 ≤ d) (U : ov_cap u) (I : ov_I F z h) : ov_T u d ov_m110 [ov_r 86, ov_r 70] z h (P_Walk_firstWrong_86_70 F z h) := by
  refine ov_en rfl (Nat.le_of_ble_eq_true rfl) ?_
  show ov_R u d ov_m110 0 [(0, ov_r 86), (1, ov_r 70)] [] z h (P_Walk_firstWrong_86_70 F z h)
  refine ov_blk (ls2 := [(0, ov_r 86), (1, ov_r 70), (2, ov_i 0), (3, ov_i 0)]) (st2 := []) (pc2 := 4) b_110_0_4 rfl rfl ?_
  have L4 : ∀ (n1 : Nat) (x2 : Int) (x3 : Int) (q3 : ov_g x2 ∧ 0 ≤ x3 ∧ x3 ≤ 13), 13 - x3 < (n1 : Int) → ov_R u d ov_m110 4 [(0, ov_r 86), (1, ov_r 70), (2, ov_i x2), (3, ov_i x3)] [] z h (P_Walk_firstWrong_86_70 F z h) := by
    intro n1
    induction n1 with
    | zero =>
      intro x2 x3 q3 hn5
      exact absurd hn5 (by omega)
    | succ n1 ih2 =>
      intro x2 x3 q3 hn5
      refine ov_blk (ls2 := [(0, ov_r 86), (1, ov_r 70), (2, ov_i x2), (3, ov_i x3)]) (st2 := [ov_r 86, ov_i x3]) (pc2 := 6) b_110_4_2 rfl rfl ?_
      refine ov_getf (v := ov_i (h 86 0)) d_110_6 fl_Walk_21 (zb_86 I) (zs_86 I) rfl ?_
      have g6 := rg_86_0 I
      refine ov_icge (tgt := 57) d_110_9 (by decide) (by omega) (by omega) (fun c7 => ?_) (fun c7 => ?_)
      · skip
        refine ov_blk (ls2 := [(0, ov_r 86), (1, ov_r 70), (2, ov_i x2), (3, ov_i x3)]) (st2 := [ov_i (-1)]) (pc2 := 58) b_110_57_1 rfl rfl ?_
        exact ov_reti (st := []) d_110_58 rfl ⟨_, rfl, rfl, rfl, (by show -1 ≤ (-1) ∧ (-1) ≤ 13; omega)⟩
      · skip
        refine ov_blk (ls2 := [(0, ov_r 86), (1, ov_r 70), (2, ov_i x2), (3, ov_i x3)]) (st2 := [ov_r 86]) (pc2 := 13) b_110_12_1 rfl rfl ?_
        refine ov_getf (v := ov_r 89) d_110_13 fl_Walk_18 (zb_86 I) (zs_86 I) (congrArg ov_r (rg_86_4 I)) ?_
        refine ov_blk (ls2 := [(0, ov_r 86), (1, ov_r 70), (2, ov_i x2), (3, ov_i x3)]) (st2 := [ov_i x3, ov_r 89]) (pc2 := 17) b_110_16_1 rfl rfl ?_
        refine ov_iald d_110_17 (zb_89 I) (zs_89 I) (by omega) ?_
        have g8 := ra_89 I x3
        refine ov_blk (ls2 := [(0, ov_r 86), (1, ov_r 70), (2, ov_i x2), (3, ov_i x3), (4, ov_i (h 89 x3))]) (st2 := [ov_i x2, ov_i (h 89 x3)]) (pc2 := 23) b_110_18_3 rfl rfl ?_
        refine ov_iclt (tgt := 39) d_110_23 (by decide) (by omega) (by omega) (fun c9 => ?_) (fun c9 => ?_)
        · skip
          refine ov_blk (ls2 := [(0, ov_r 86), (1, ov_r 70), (2, ov_i x2), (3, ov_i x3), (4, ov_i (h 89 x3))]) (st2 := [ov_i x3]) (pc2 := 40) b_110_39_1 rfl rfl ?_
          exact ov_reti (st := []) d_110_40 rfl ⟨_, rfl, rfl, rfl, (by show -1 ≤ x3 ∧ x3 ≤ 13; omega)⟩
        · skip
          refine ov_blk (ls2 := [(0, ov_r 86), (1, ov_r 70), (2, ov_i x2), (3, ov_i x3), (4, ov_i (h 89 x3))]) (st2 := [ov_i ((h 89 x3) - x2), ov_i x3, ov_r 70, ov_r 86]) (pc2 := 33) b_110_26_6 rfl rfl ?_
          refine ov_havw (fun w10 gw10 qw10 => ?_)
          refine ov_cV (as := [ov_r 70, ov_i x3, ov_i w10]) (st := []) (d2 := d - 1) d_110_33 lk_Walk_28 rfl (Nat.le_of_ble_eq_true rfl) (c := 10) (zb_86 I) (zs_86 I) ⟨by decide, rfl⟩ (by omega) (c_Walk_isGreenFor_86_70 (d - 1) (by omega) U I x3 w10 (by omega) (by omega) (by omega)) ?_
          rintro _ _ _ ⟨v12, rfl, rfl, rfl, f11⟩
          show ov_R u d ov_m110 36 [(0, ov_r 86), (1, ov_r 70), (2, ov_i x2), (3, ov_i x3), (4, ov_i (h 89 x3))] [ov_i v12] z h (P_Walk_firstWrong_86_70 F z h)
          have f13 : (v12 = 0 ∨ v12 = 1) := f11
          clear f11
          refine ov_ifne (tgt := 41) d_110_36 (by decide) (by omega) (fun c14 => ?_) (fun c14 => ?_)
          · skip
            refine ov_blk (ls2 := [(0, ov_r 86), (1, ov_r 70), (2, ov_i x2), (3, ov_i x3), (4, ov_i (h 89 x3))]) (st2 := [ov_r 70, ov_i (h 89 x3)]) (pc2 := 44) b_110_41_2 rfl rfl ?_
            refine ov_getf (v := ov_r 76) d_110_44 fl_Walk_32 (zb_70 I) (zs_70 I) (congrArg ov_r (rg_70_7 I)) ?_
            refine ov_blk (ls2 := [(0, ov_r 86), (1, ov_r 70), (2, ov_i x2), (3, ov_i x3), (4, ov_i (h 89 x3))]) (st2 := [ov_i 0, ov_r 76, ov_i (h 89 x3)]) (pc2 := 48) b_110_47_1 rfl rfl ?_
            refine ov_iald d_110_48 (zb_76 I) (zs_76 I) (by omega) ?_
            have g15 := ra_76 I 0
            refine ov_blk (ls2 := [(0, ov_r 86), (1, ov_r 70), (2, ov_i x2), (3, ov_i x3), (4, ov_i (h 89 x3))]) (st2 := [ov_i ((h 89 x3) + (h 76 0))]) (pc2 := 50) b_110_49_1 rfl rfl ?_
            refine ov_havw (fun w16 gw16 qw16 => ?_)
            refine ov_blk (ls2 := [(0, ov_r 86), (1, ov_r 70), (2, ov_i w16), (3, ov_i (x3 + 1)), (4, ov_i (h 89 x3))]) (st2 := []) (pc2 := 54) b_110_50_2 rfl rfl ?_
            refine ov_goto (tgt := 4) d_110_54 (by decide) ?_
            refine ov_sub (ls2 := [(0, ov_r 86), (1, ov_r 70), (2, ov_i w16), (3, ov_i (x3 + 1))]) (List.Sublist.subset (by repeat (first | exact List.Sublist.refl _ | apply List.Sublist.cons_cons | apply List.Sublist.cons))) ?_
            exact ih2 w16 (x3 + 1) (by show ov_g w16 ∧ 0 ≤ (x3 + 1) ∧ (x3 + 1) ≤ 13; omega) (by omega)
          · skip
            refine ov_blk (ls2 := [(0, ov_r 86), (1, ov_r 70), (2, ov_i x2), (3, ov_i x3), (4, ov_i (h 89 x3))]) (st2 := [ov_i x3]) (pc2 := 40) b_110_39_1 rfl rfl ?_
            exact ov_reti (st := []) d_110_40 rfl ⟨_, rfl, rfl, rfl, (by show -1 ≤ x3 ∧ x3 ≤ 13; omega)⟩
  exact L4 14 0 0 (by show ov_g 0 ∧ 0 ≤ 0 ∧ 0 ≤ 13; omega) (by omega)

theorem b_85_0_2 : ov_ds ov_m85.2.1 0 [.aload_n 0, .iconst 0] = true := by decide +kernel
theorem d_85_2 : decode ov_m85.2.1 2 = .ok (.putfield 31, 3) := by decide +kernel
theorem d_85_5 : decode ov_m85.2.1 5 = .ok (.return_, 1) := by decide +kernel
theorem b_126_0_1 : ov_ds ov_m126.2.1 0 [.aload_n 0] = true := by decide +kernel
theorem d_126_1 : decode ov_m126.2.1 1 = .ok (.getfield 46, 3) := by decide +kernel
theorem d_126_4 : decode ov_m126.2.1 4 = .ok (.getfield 98, 3) := by decide +kernel
theorem b_126_7_1 : ov_ds ov_m126.2.1 7 [.iload_n 1] = true := by decide +kernel
theorem d_126_8 : decode ov_m126.2.1 8 = .ok (.iaload, 1) := by decide +kernel
theorem b_126_9_1 : ov_ds ov_m126.2.1 9 [.iconst 1] = true := by decide +kernel
theorem d_126_10 : decode ov_m126.2.1 10 = .ok (.if_icmp .ne 20, 3) := by decide +kernel
theorem b_126_30_1 : ov_ds ov_m126.2.1 30 [.iconst 0] = true := by decide +kernel
theorem d_126_31 : decode ov_m126.2.1 31 = .ok (.ireturn, 1) := by decide +kernel
theorem b_126_13_1 : ov_ds ov_m126.2.1 13 [.aload_n 0] = true := by decide +kernel
theorem d_126_14 : decode ov_m126.2.1 14 = .ok (.getfield 35, 3) := by decide +kernel
theorem b_126_17_6 : ov_ds ov_m126.2.1 17 [.iload_n 1, .lshr, .lconst 1, .land, .lconst 0, .lcmp] = true := by decide +kernel
theorem d_126_23 : decode ov_m126.2.1 23 = .ok (.ifCond .ne 7, 3) := by decide +kernel
theorem b_126_26_1 : ov_ds ov_m126.2.1 26 [.iconst 1] = true := by decide +kernel
theorem d_126_27 : decode ov_m126.2.1 27 = .ok (.goto 4, 3) := by decide +kernel
theorem b_125_0_1 : ov_ds ov_m125.2.1 0 [.aload_n 0] = true := by decide +kernel
theorem d_125_1 : decode ov_m125.2.1 1 = .ok (.getfield 28, 3) := by decide +kernel
theorem b_125_4_1 : ov_ds ov_m125.2.1 4 [.aload_n 0] = true := by decide +kernel
theorem d_125_5 : decode ov_m125.2.1 5 = .ok (.getfield 59, 3) := by decide +kernel
theorem b_125_8_1 : ov_ds ov_m125.2.1 8 [.iconst 1] = true := by decide +kernel
theorem d_125_9 : decode ov_m125.2.1 9 = .ok (.iastore, 1) := by decide +kernel
theorem b_125_10_1 : ov_ds ov_m125.2.1 10 [.aload_n 0] = true := by decide +kernel
theorem d_125_11 : decode ov_m125.2.1 11 = .ok (.getfield 59, 3) := by decide +kernel
theorem b_125_14_3 : ov_ds ov_m125.2.1 14 [.iconst 1, .isub, .istore_n 1] = true := by decide +kernel
theorem b_125_17_1 : ov_ds ov_m125.2.1 17 [.iload_n 1] = true := by decide +kernel
theorem d_125_18 : decode ov_m125.2.1 18 = .ok (.ifCond .lt 93, 3) := by decide +kernel
theorem d_125_111 : decode ov_m125.2.1 111 = .ok (.return_, 1) := by decide +kernel
theorem b_125_21_1 : ov_ds ov_m125.2.1 21 [.aload_n 0] = true := by decide +kernel
theorem d_125_22 : decode ov_m125.2.1 22 = .ok (.getfield 46, 3) := by decide +kernel
theorem b_125_25_1 : ov_ds ov_m125.2.1 25 [.iload_n 1] = true := by decide +kernel
theorem d_125_26 : decode ov_m125.2.1 26 = .ok (.invokevirtual 77, 3) := by decide +kernel
theorem d_125_29 : decode ov_m125.2.1 29 = .ok (.ifCond .eq 23, 3) := by decide +kernel
theorem b_125_52_4 : ov_ds ov_m125.2.1 52 [.iconst 1, .istore_n 2, .iconst 0, .istore_n 3] = true := by decide +kernel
theorem b_125_56_2 : ov_ds ov_m125.2.1 56 [.iload_n 3, .iconst 1] = true := by decide +kernel
theorem d_125_58 : decode ov_m125.2.1 58 = .ok (.if_icmp .gt 40, 3) := by decide +kernel
theorem b_125_98_1 : ov_ds ov_m125.2.1 98 [.aload_n 0] = true := by decide +kernel
theorem d_125_99 : decode ov_m125.2.1 99 = .ok (.getfield 28, 3) := by decide +kernel
theorem b_125_102_2 : ov_ds ov_m125.2.1 102 [.iload_n 1, .iload_n 2] = true := by decide +kernel
theorem d_125_104 : decode ov_m125.2.1 104 = .ok (.iastore, 1) := by decide +kernel
theorem b_125_105_1 : ov_ds ov_m125.2.1 105 [.iinc 1 (-1)] = true := by decide +kernel
theorem d_125_108 : decode ov_m125.2.1 108 = .ok (.goto (-91), 3) := by decide +kernel
theorem b_125_61_1 : ov_ds ov_m125.2.1 61 [.aload_n 0] = true := by decide +kernel
theorem d_125_62 : decode ov_m125.2.1 62 = .ok (.getfield 46, 3) := by decide +kernel
theorem b_125_65_2 : ov_ds ov_m125.2.1 65 [.iload_n 1, .iload_n 3] = true := by decide +kernel
theorem d_125_67 : decode ov_m125.2.1 67 = .ok (.invokevirtual 87, 3) := by decide +kernel
theorem d_125_70 : decode ov_m125.2.1 70 = .ok (.ifCond .eq 22, 3) := by decide +kernel
theorem b_125_92_1 : ov_ds ov_m125.2.1 92 [.iinc 3 1] = true := by decide +kernel
theorem d_125_95 : decode ov_m125.2.1 95 = .ok (.goto (-39), 3) := by decide +kernel
theorem b_125_73_2 : ov_ds ov_m125.2.1 73 [.iload_n 2, .aload_n 0] = true := by decide +kernel
theorem d_125_75 : decode ov_m125.2.1 75 = .ok (.getfield 28, 3) := by decide +kernel
theorem b_125_78_1 : ov_ds ov_m125.2.1 78 [.aload_n 0] = true := by decide +kernel
theorem d_125_79 : decode ov_m125.2.1 79 = .ok (.getfield 46, 3) := by decide +kernel
theorem b_125_82_2 : ov_ds ov_m125.2.1 82 [.iload_n 1, .iload_n 3] = true := by decide +kernel
theorem d_125_84 : decode ov_m125.2.1 84 = .ok (.invokevirtual 91, 3) := by decide +kernel
theorem d_125_87 : decode ov_m125.2.1 87 = .ok (.iaload, 1) := by decide +kernel
theorem d_125_88 : decode ov_m125.2.1 88 = .ok (.invokestatic 95, 3) := by decide +kernel
theorem b_125_91_2 : ov_ds ov_m125.2.1 91 [.istore_n 2, .iinc 3 1] = true := by decide +kernel
theorem b_125_32_2 : ov_ds ov_m125.2.1 32 [.aload_n 0, .iload_n 1] = true := by decide +kernel
theorem d_125_34 : decode ov_m125.2.1 34 = .ok (.invokevirtual 81, 3) := by decide +kernel
theorem d_125_37 : decode ov_m125.2.1 37 = .ok (.ifCond .ne 15, 3) := by decide +kernel
theorem b_125_40_1 : ov_ds ov_m125.2.1 40 [.aload_n 0] = true := by decide +kernel
theorem d_125_41 : decode ov_m125.2.1 41 = .ok (.getfield 46, 3) := by decide +kernel
theorem d_125_44 : decode ov_m125.2.1 44 = .ok (.getfield 84, 3) := by decide +kernel
theorem b_125_47_1 : ov_ds ov_m125.2.1 47 [.iload_n 1] = true := by decide +kernel
theorem d_125_48 : decode ov_m125.2.1 48 = .ok (.iaload, 1) := by decide +kernel
theorem d_125_49 : decode ov_m125.2.1 49 = .ok (.goto 4, 3) := by decide +kernel
theorem b_125_53_3 : ov_ds ov_m125.2.1 53 [.istore_n 2, .iconst 0, .istore_n 3] = true := by decide +kernel
theorem b_123_0_1 : ov_ds ov_m123.2.1 0 [.aload_n 0] = true := by decide +kernel
theorem d_123_1 : decode ov_m123.2.1 1 = .ok (.getfield 31, 3) := by decide +kernel
theorem d_123_4 : decode ov_m123.2.1 4 = .ok (.ifCond .eq 31, 3) := by decide +kernel
theorem b_123_35_2 : ov_ds ov_m123.2.1 35 [.aload_n 0, .iconst 1] = true := by decide +kernel
theorem d_123_37 : decode ov_m123.2.1 37 = .ok (.putfield 31, 3) := by decide +kernel
theorem b_123_40_2 : ov_ds ov_m123.2.1 40 [.aload_n 0, .aload_n 1] = true := by decide +kernel
theorem d_123_42 : decode ov_m123.2.1 42 = .ok (.putfield 46, 3) := by decide +kernel
theorem b_123_45_2 : ov_ds ov_m123.2.1 45 [.aload_n 0, .lload_n 2] = true := by decide +kernel
theorem d_123_47 : decode ov_m123.2.1 47 = .ok (.putfield 35, 3) := by decide +kernel
theorem b_123_50_2 : ov_ds ov_m123.2.1 50 [.aload_n 0, .iload 4] = true := by decide +kernel
theorem d_123_53 : decode ov_m123.2.1 53 = .ok (.putfield 39, 3) := by decide +kernel
theorem b_123_56_2 : ov_ds ov_m123.2.1 56 [.aload_n 0, .iload 5] = true := by decide +kernel
theorem d_123_59 : decode ov_m123.2.1 59 = .ok (.putfield 43, 3) := by decide +kernel
theorem b_123_62_2 : ov_ds ov_m123.2.1 62 [.aload_n 0, .iload 5] = true := by decide +kernel
theorem d_123_65 : decode ov_m123.2.1 65 = .ok (.ifCond .eq 7, 3) := by decide +kernel
theorem b_123_72_1 : ov_ds ov_m123.2.1 72 [.sipush 1000] = true := by decide +kernel
theorem d_123_75 : decode ov_m123.2.1 75 = .ok (.putfield 50, 3) := by decide +kernel
theorem b_123_78_2 : ov_ds ov_m123.2.1 78 [.aload_n 0, .aload_n 0] = true := by decide +kernel
theorem d_123_80 : decode ov_m123.2.1 80 = .ok (.getfield 46, 3) := by decide +kernel
theorem d_123_83 : decode ov_m123.2.1 83 = .ok (.invokevirtual 53, 3) := by decide +kernel
theorem d_123_86 : decode ov_m123.2.1 86 = .ok (.putfield 59, 3) := by decide +kernel
theorem b_123_89_2 : ov_ds ov_m123.2.1 89 [.aload_n 0, .aload_n 0] = true := by decide +kernel
theorem d_123_91 : decode ov_m123.2.1 91 = .ok (.getfield 46, 3) := by decide +kernel
theorem d_123_94 : decode ov_m123.2.1 94 = .ok (.getfield 61, 3) := by decide +kernel
theorem b_123_97_1 : ov_ds ov_m123.2.1 97 [.iconst 0] = true := by decide +kernel
theorem d_123_98 : decode ov_m123.2.1 98 = .ok (.iaload, 1) := by decide +kernel
theorem d_123_99 : decode ov_m123.2.1 99 = .ok (.putfield 64, 3) := by decide +kernel
theorem b_123_102_1 : ov_ds ov_m123.2.1 102 [.aload_n 0] = true := by decide +kernel
theorem d_123_103 : decode ov_m123.2.1 103 = .ok (.getfield 12, 3) := by decide +kernel
theorem b_123_106_1 : ov_ds ov_m123.2.1 106 [.aload_n 0] = true := by decide +kernel
theorem d_123_107 : decode ov_m123.2.1 107 = .ok (.getfield 59, 3) := by decide +kernel
theorem b_123_110_3 : ov_ds ov_m123.2.1 110 [.iconst 1, .iadd, .aload_n 0] = true := by decide +kernel
theorem d_123_113 : decode ov_m123.2.1 113 = .ok (.getfield 46, 3) := by decide +kernel
theorem d_123_116 : decode ov_m123.2.1 116 = .ok (.getfield 67, 3) := by decide +kernel
theorem b_123_119_1 : ov_ds ov_m123.2.1 119 [.imul] = true := by decide +kernel
theorem d_123_120 : decode ov_m123.2.1 120 = .ok (.invokevirtual 70, 3) := by decide +kernel
theorem b_123_123_1 : ov_ds ov_m123.2.1 123 [.aload_n 0] = true := by decide +kernel
theorem d_123_124 : decode ov_m123.2.1 124 = .ok (.invokevirtual 74, 3) := by decide +kernel
theorem d_123_127 : decode ov_m123.2.1 127 = .ok (.return_, 1) := by decide +kernel
theorem b_123_68_1 : ov_ds ov_m123.2.1 68 [.iconst 1] = true := by decide +kernel
theorem d_123_69 : decode ov_m123.2.1 69 = .ok (.goto 6, 3) := by decide +kernel
theorem b_123_7_2 : ov_ds ov_m123.2.1 7 [.lload_n 2, .aload_n 0] = true := by decide +kernel
theorem d_123_9 : decode ov_m123.2.1 9 = .ok (.getfield 35, 3) := by decide +kernel
theorem b_123_12_1 : ov_ds ov_m123.2.1 12 [.lcmp] = true := by decide +kernel
theorem d_123_13 : decode ov_m123.2.1 13 = .ok (.ifCond .ne 22, 3) := by decide +kernel
theorem b_123_16_2 : ov_ds ov_m123.2.1 16 [.iload 4, .aload_n 0] = true := by decide +kernel
theorem d_123_19 : decode ov_m123.2.1 19 = .ok (.getfield 39, 3) := by decide +kernel
theorem d_123_22 : decode ov_m123.2.1 22 = .ok (.if_icmp .ne 13, 3) := by decide +kernel
theorem b_123_25_2 : ov_ds ov_m123.2.1 25 [.iload 5, .aload_n 0] = true := by decide +kernel
theorem d_123_28 : decode ov_m123.2.1 28 = .ok (.getfield 43, 3) := by decide +kernel
theorem d_123_31 : decode ov_m123.2.1 31 = .ok (.if_icmp .ne 4, 3) := by decide +kernel
theorem d_123_34 : decode ov_m123.2.1 34 = .ok (.return_, 1) := by decide +kernel
theorem b_133_0_1 : ov_ds ov_m133.2.1 0 [.aload_n 0] = true := by decide +kernel
theorem d_133_1 : decode ov_m133.2.1 1 = .ok (.getfield 46, 3) := by decide +kernel
theorem b_133_4_1 : ov_ds ov_m133.2.1 4 [.iload_n 1] = true := by decide +kernel
theorem d_133_5 : decode ov_m133.2.1 5 = .ok (.invokevirtual 147, 3) := by decide +kernel
theorem b_133_8_1 : ov_ds ov_m133.2.1 8 [.aload_n 0] = true := by decide +kernel
theorem d_133_9 : decode ov_m133.2.1 9 = .ok (.getfield 64, 3) := by decide +kernel
theorem b_133_12_1 : ov_ds ov_m133.2.1 12 [.imul] = true := by decide +kernel
theorem b_133_13_1 : ov_ds ov_m133.2.1 13 [.aload_n 0] = true := by decide +kernel
theorem d_133_14 : decode ov_m133.2.1 14 = .ok (.getfield 50, 3) := by decide +kernel
theorem b_133_17_1 : ov_ds ov_m133.2.1 17 [.imul] = true := by decide +kernel
theorem d_133_18 : decode ov_m133.2.1 18 = .ok (.ireturn, 1) := by decide +kernel
theorem b_137_0_1 : ov_ds ov_m137.2.1 0 [.aload_n 0] = true := by decide +kernel
theorem d_137_1 : decode ov_m137.2.1 1 = .ok (.getfield 46, 3) := by decide +kernel
theorem b_137_4_2 : ov_ds ov_m137.2.1 4 [.iload_n 1, .iconst 0] = true := by decide +kernel
theorem d_137_6 : decode ov_m137.2.1 6 = .ok (.invokevirtual 87, 3) := by decide +kernel
theorem b_137_9_2 : ov_ds ov_m137.2.1 9 [.istore 4, .aload_n 0] = true := by decide +kernel
theorem d_137_12 : decode ov_m137.2.1 12 = .ok (.getfield 46, 3) := by decide +kernel
theorem b_137_15_2 : ov_ds ov_m137.2.1 15 [.iload_n 1, .iconst 1] = true := by decide +kernel
theorem d_137_17 : decode ov_m137.2.1 17 = .ok (.invokevirtual 87, 3) := by decide +kernel
theorem b_137_20_2 : ov_ds ov_m137.2.1 20 [.istore 5, .iload 4] = true := by decide +kernel
theorem d_137_24 : decode ov_m137.2.1 24 = .ok (.ifCond .eq 8, 3) := by decide +kernel
theorem b_137_32_1 : ov_ds ov_m137.2.1 32 [.iload 4] = true := by decide +kernel
theorem d_137_34 : decode ov_m137.2.1 34 = .ok (.ifCond .eq 7, 3) := by decide +kernel
theorem b_137_41_1 : ov_ds ov_m137.2.1 41 [.iload 5] = true := by decide +kernel
theorem d_137_43 : decode ov_m137.2.1 43 = .ok (.ifCond .eq 7, 3) := by decide +kernel
theorem b_137_50_1 : ov_ds ov_m137.2.1 50 [.iconst (-1)] = true := by decide +kernel
theorem d_137_51 : decode ov_m137.2.1 51 = .ok (.ireturn, 1) := by decide +kernel
theorem b_137_46_1 : ov_ds ov_m137.2.1 46 [.iconst 1] = true := by decide +kernel
theorem d_137_47 : decode ov_m137.2.1 47 = .ok (.goto 4, 3) := by decide +kernel
theorem b_137_37_1 : ov_ds ov_m137.2.1 37 [.iconst 0] = true := by decide +kernel
theorem d_137_38 : decode ov_m137.2.1 38 = .ok (.goto 13, 3) := by decide +kernel
theorem b_137_27_1 : ov_ds ov_m137.2.1 27 [.iload 5] = true := by decide +kernel
theorem d_137_29 : decode ov_m137.2.1 29 = .ok (.ifCond .ne 23, 3) := by decide +kernel
theorem b_137_52_1 : ov_ds ov_m137.2.1 52 [.aload_n 0] = true := by decide +kernel
theorem d_137_53 : decode ov_m137.2.1 53 = .ok (.getfield 39, 3) := by decide +kernel
theorem d_137_56 : decode ov_m137.2.1 56 = .ok (.tableswitch 43 0 2 #[28, 30, 32], 28) := by decide +kernel
theorem b_137_84_1 : ov_ds ov_m137.2.1 84 [.iconst 0] = true := by decide +kernel
theorem d_137_85 : decode ov_m137.2.1 85 = .ok (.ireturn, 1) := by decide +kernel
theorem b_137_86_1 : ov_ds ov_m137.2.1 86 [.iconst 1] = true := by decide +kernel
theorem d_137_87 : decode ov_m137.2.1 87 = .ok (.ireturn, 1) := by decide +kernel
theorem b_137_88_2 : ov_ds ov_m137.2.1 88 [.iload_n 2, .iload_n 3] = true := by decide +kernel
theorem d_137_90 : decode ov_m137.2.1 90 = .ok (.if_icmp .gt 7, 3) := by decide +kernel
theorem b_137_97_1 : ov_ds ov_m137.2.1 97 [.iconst 1] = true := by decide +kernel
theorem d_137_98 : decode ov_m137.2.1 98 = .ok (.ireturn, 1) := by decide +kernel
theorem b_137_93_1 : ov_ds ov_m137.2.1 93 [.iconst 0] = true := by decide +kernel
theorem d_137_94 : decode ov_m137.2.1 94 = .ok (.goto 4, 3) := by decide +kernel
theorem b_137_99_1 : ov_ds ov_m137.2.1 99 [.aload_n 0] = true := by decide +kernel
theorem d_137_100 : decode ov_m137.2.1 100 = .ok (.getfield 46, 3) := by decide +kernel
theorem b_137_103_1 : ov_ds ov_m137.2.1 103 [.aload_n 0] = true := by decide +kernel
theorem d_137_104 : decode ov_m137.2.1 104 = .ok (.getfield 39, 3) := by decide +kernel
theorem b_137_107_2 : ov_ds ov_m137.2.1 107 [.iconst 4, .isub] = true := by decide +kernel
theorem b_137_109_3 : ov_ds ov_m137.2.1 109 [.iload_n 1, .iload_n 2, .iload_n 3] = true := by decide +kernel
theorem d_137_112 : decode ov_m137.2.1 112 = .ok (.invokevirtual 156, 3) := by decide +kernel
theorem d_137_115 : decode ov_m137.2.1 115 = .ok (.ifCond .eq 7, 3) := by decide +kernel
theorem b_137_122_1 : ov_ds ov_m137.2.1 122 [.iconst 1] = true := by decide +kernel
theorem d_137_123 : decode ov_m137.2.1 123 = .ok (.ireturn, 1) := by decide +kernel
theorem b_137_118_1 : ov_ds ov_m137.2.1 118 [.iconst 0] = true := by decide +kernel
theorem d_137_119 : decode ov_m137.2.1 119 = .ok (.goto 4, 3) := by decide +kernel
theorem b_131_0_1 : ov_ds ov_m131.2.1 0 [.aload_n 0] = true := by decide +kernel
theorem d_131_1 : decode ov_m131.2.1 1 = .ok (.getfield 46, 3) := by decide +kernel
theorem b_131_4_2 : ov_ds ov_m131.2.1 4 [.iload_n 1, .iload_n 2] = true := by decide +kernel
theorem d_131_6 : decode ov_m131.2.1 6 = .ok (.invokevirtual 87, 3) := by decide +kernel
theorem d_131_9 : decode ov_m131.2.1 9 = .ok (.ifCond .ne 5, 3) := by decide +kernel
theorem b_131_14_2 : ov_ds ov_m131.2.1 14 [.iload 4, .aload_n 0] = true := by decide +kernel
theorem d_131_17 : decode ov_m131.2.1 17 = .ok (.getfield 64, 3) := by decide +kernel
theorem b_131_20_1 : ov_ds ov_m131.2.1 20 [.iadd] = true := by decide +kernel
theorem b_131_21_3 : ov_ds ov_m131.2.1 21 [.istore 5, .aload_n 0, .aload_n 0] = true := by decide +kernel
theorem d_131_25 : decode ov_m131.2.1 25 = .ok (.getfield 46, 3) := by decide +kernel
theorem b_131_28_2 : ov_ds ov_m131.2.1 28 [.iload_n 1, .iload_n 2] = true := by decide +kernel
theorem d_131_30 : decode ov_m131.2.1 30 = .ok (.invokevirtual 91, 3) := by decide +kernel
theorem b_131_33_3 : ov_ds ov_m131.2.1 33 [.iload_n 3, .iload 5, .iadd] = true := by decide +kernel
theorem d_131_37 : decode ov_m131.2.1 37 = .ok (.invokevirtual 153, 3) := by decide +kernel
theorem b_131_40_3 : ov_ds ov_m131.2.1 40 [.istore 6, .iload 6, .iconst (-1)] = true := by decide +kernel
theorem d_131_45 : decode ov_m131.2.1 45 = .ok (.if_icmp .ne 7, 3) := by decide +kernel
theorem b_131_52_3 : ov_ds ov_m131.2.1 52 [.iload 6, .iload 5, .aload_n 0] = true := by decide +kernel
theorem d_131_57 : decode ov_m131.2.1 57 = .ok (.getfield 50, 3) := by decide +kernel
theorem b_131_60_1 : ov_ds ov_m131.2.1 60 [.imul] = true := by decide +kernel
theorem b_131_61_1 : ov_ds ov_m131.2.1 61 [.iadd] = true := by decide +kernel
theorem d_131_62 : decode ov_m131.2.1 62 = .ok (.ireturn, 1) := by decide +kernel
theorem b_131_48_1 : ov_ds ov_m131.2.1 48 [.iconst (-1)] = true := by decide +kernel
theorem d_131_49 : decode ov_m131.2.1 49 = .ok (.goto 13, 3) := by decide +kernel
theorem b_131_12_1 : ov_ds ov_m131.2.1 12 [.iconst (-1)] = true := by decide +kernel
theorem d_131_13 : decode ov_m131.2.1 13 = .ok (.ireturn, 1) := by decide +kernel
theorem b_132_0_4 : ov_ds ov_m132.2.1 0 [.iconst 0, .istore 6, .aload_n 0, .iload_n 2] = true := by decide +kernel
theorem d_132_5 : decode ov_m132.2.1 5 = .ok (.invokevirtual 141, 3) := by decide +kernel
theorem b_132_8_3 : ov_ds ov_m132.2.1 8 [.istore 7, .iconst 1, .istore 8] = true := by decide +kernel
theorem b_132_13_2 : ov_ds ov_m132.2.1 13 [.iload 8, .iload 5] = true := by decide +kernel
theorem d_132_17 : decode ov_m132.2.1 17 = .ok (.if_icmp .gt 105, 3) := by decide +kernel
theorem b_132_122_1 : ov_ds ov_m132.2.1 122 [.iload 6] = true := by decide +kernel
theorem d_132_124 : decode ov_m132.2.1 124 = .ok (.ireturn, 1) := by decide +kernel
theorem b_132_20_2 : ov_ds ov_m132.2.1 20 [.iload_n 1, .iconst (-1)] = true := by decide +kernel
theorem d_132_22 : decode ov_m132.2.1 22 = .ok (.if_icmp .eq 46, 3) := by decide +kernel
theorem b_132_68_6 : ov_ds ov_m132.2.1 68 [.iload_n 1, .aload_n 0, .iload_n 2, .iload_n 3, .iload 4, .iload 8] = true := by decide +kernel
theorem d_132_76 : decode ov_m132.2.1 76 = .ok (.invokevirtual 134, 3) := by decide +kernel
theorem d_132_79 : decode ov_m132.2.1 79 = .ok (.invokestatic 144, 3) := by decide +kernel
theorem b_132_82_3 : ov_ds ov_m132.2.1 82 [.istore 9, .iload 9, .iconst (-1)] = true := by decide +kernel
theorem d_132_87 : decode ov_m132.2.1 87 = .ok (.if_icmp .ne 5, 3) := by decide +kernel
theorem b_132_92_1 : ov_ds ov_m132.2.1 92 [.aload_n 0] = true := by decide +kernel
theorem d_132_93 : decode ov_m132.2.1 93 = .ok (.getfield 43, 3) := by decide +kernel
theorem d_132_96 : decode ov_m132.2.1 96 = .ok (.ifCond .eq 13, 3) := by decide +kernel
theorem b_132_109_3 : ov_ds ov_m132.2.1 109 [.iload 6, .iload 9, .iadd] = true := by decide +kernel
theorem b_132_114_2 : ov_ds ov_m132.2.1 114 [.istore 6, .iinc 8 1] = true := by decide +kernel
theorem d_132_119 : decode ov_m132.2.1 119 = .ok (.goto (-106), 3) := by decide +kernel
theorem b_132_99_2 : ov_ds ov_m132.2.1 99 [.iload 6, .iload 9] = true := by decide +kernel
theorem d_132_103 : decode ov_m132.2.1 103 = .ok (.invokestatic 129, 3) := by decide +kernel
theorem d_132_106 : decode ov_m132.2.1 106 = .ok (.goto 8, 3) := by decide +kernel
theorem b_132_90_1 : ov_ds ov_m132.2.1 90 [.iconst (-1)] = true := by decide +kernel
theorem d_132_91 : decode ov_m132.2.1 91 = .ok (.ireturn, 1) := by decide +kernel
theorem b_132_25_4 : ov_ds ov_m132.2.1 25 [.iload_n 1, .iload 7, .iload 8, .aload_n 0] = true := by decide +kernel
theorem d_132_31 : decode ov_m132.2.1 31 = .ok (.getfield 50, 3) := by decide +kernel
theorem b_132_34_1 : ov_ds ov_m132.2.1 34 [.imul] = true := by decide +kernel
theorem b_132_35_1 : ov_ds ov_m132.2.1 35 [.iadd] = true := by decide +kernel
theorem d_132_36 : decode ov_m132.2.1 36 = .ok (.if_icmp .gt 32, 3) := by decide +kernel
theorem b_132_39_1 : ov_ds ov_m132.2.1 39 [.aload_n 0] = true := by decide +kernel
theorem d_132_40 : decode ov_m132.2.1 40 = .ok (.getfield 43, 3) := by decide +kernel
theorem d_132_43 : decode ov_m132.2.1 43 = .ok (.ifCond .eq 12, 3) := by decide +kernel
theorem b_132_55_4 : ov_ds ov_m132.2.1 55 [.iload 6, .iload 5, .iload 8, .isub] = true := by decide +kernel
theorem b_132_62_2 : ov_ds ov_m132.2.1 62 [.iconst 1, .iadd] = true := by decide +kernel
theorem b_132_64_2 : ov_ds ov_m132.2.1 64 [.iload_n 1, .imul] = true := by decide +kernel
theorem b_132_66_1 : ov_ds ov_m132.2.1 66 [.iadd] = true := by decide +kernel
theorem d_132_67 : decode ov_m132.2.1 67 = .ok (.ireturn, 1) := by decide +kernel
theorem b_132_46_2 : ov_ds ov_m132.2.1 46 [.iload 6, .iload_n 1] = true := by decide +kernel
theorem d_132_49 : decode ov_m132.2.1 49 = .ok (.invokestatic 129, 3) := by decide +kernel
theorem d_132_52 : decode ov_m132.2.1 52 = .ok (.goto 15, 3) := by decide +kernel
theorem b_136_0_1 : ov_ds ov_m136.2.1 0 [.aload_n 0] = true := by decide +kernel
theorem d_136_1 : decode ov_m136.2.1 1 = .ok (.getfield 39, 3) := by decide +kernel
theorem b_136_4_1 : ov_ds ov_m136.2.1 4 [.iconst 3] = true := by decide +kernel
theorem d_136_5 : decode ov_m136.2.1 5 = .ok (.if_icmp .ne 69, 3) := by decide +kernel
theorem b_136_74_4 : ov_ds ov_m136.2.1 74 [.aload_n 0, .iload_n 1, .iload_n 3, .iload 4] = true := by decide +kernel
theorem d_136_79 : decode ov_m136.2.1 79 = .ok (.invokevirtual 150, 3) := by decide +kernel
theorem b_136_82_6 : ov_ds ov_m136.2.1 82 [.istore 5, .aload_n 0, .iload_n 1, .iload 5, .iload_n 2, .iload 5] = true := by decide +kernel
theorem d_136_91 : decode ov_m136.2.1 91 = .ok (.ifCond .ne 7, 3) := by decide +kernel
theorem b_136_98_1 : ov_ds ov_m136.2.1 98 [.iload 4] = true := by decide +kernel
theorem d_136_100 : decode ov_m136.2.1 100 = .ok (.invokevirtual 134, 3) := by decide +kernel
theorem d_136_103 : decode ov_m136.2.1 103 = .ok (.ireturn, 1) := by decide +kernel
theorem b_136_94_1 : ov_ds ov_m136.2.1 94 [.iload_n 3] = true := by decide +kernel
theorem d_136_95 : decode ov_m136.2.1 95 = .ok (.goto 5, 3) := by decide +kernel
theorem b_136_8_5 : ov_ds ov_m136.2.1 8 [.aload_n 0, .iload_n 1, .iconst 0, .iload_n 2, .iload_n 3] = true := by decide +kernel
theorem d_136_13 : decode ov_m136.2.1 13 = .ok (.invokevirtual 134, 3) := by decide +kernel
theorem b_136_16_3 : ov_ds ov_m136.2.1 16 [.istore 5, .iload 5, .iconst (-1)] = true := by decide +kernel
theorem d_136_21 : decode ov_m136.2.1 21 = .ok (.if_icmp .eq 25, 3) := by decide +kernel
theorem b_136_46_3 : ov_ds ov_m136.2.1 46 [.iconst 0, .istore 6, .iload 6] = true := by decide +kernel
theorem d_136_51 : decode ov_m136.2.1 51 = .ok (.ifCond .eq 8, 3) := by decide +kernel
theorem b_136_59_6 : ov_ds ov_m136.2.1 59 [.iload 5, .aload_n 0, .iload_n 1, .iconst 1, .iload_n 2, .iload 4] = true := by decide +kernel
theorem d_136_67 : decode ov_m136.2.1 67 = .ok (.invokevirtual 134, 3) := by decide +kernel
theorem d_136_70 : decode ov_m136.2.1 70 = .ok (.invokestatic 144, 3) := by decide +kernel
theorem d_136_73 : decode ov_m136.2.1 73 = .ok (.ireturn, 1) := by decide +kernel
theorem b_136_24_3 : ov_ds ov_m136.2.1 24 [.iload 5, .aload_n 0, .iload_n 1] = true := by decide +kernel
theorem d_136_28 : decode ov_m136.2.1 28 = .ok (.invokevirtual 141, 3) := by decide +kernel
theorem b_136_31_2 : ov_ds ov_m136.2.1 31 [.iload 4, .aload_n 0] = true := by decide +kernel
theorem d_136_34 : decode ov_m136.2.1 34 = .ok (.getfield 50, 3) := by decide +kernel
theorem b_136_37_1 : ov_ds ov_m136.2.1 37 [.imul] = true := by decide +kernel
theorem b_136_38_1 : ov_ds ov_m136.2.1 38 [.iadd] = true := by decide +kernel
theorem d_136_39 : decode ov_m136.2.1 39 = .ok (.if_icmp .gt 7, 3) := by decide +kernel
theorem b_136_42_1 : ov_ds ov_m136.2.1 42 [.iconst 1] = true := by decide +kernel
theorem d_136_43 : decode ov_m136.2.1 43 = .ok (.goto 4, 3) := by decide +kernel
theorem b_136_47_2 : ov_ds ov_m136.2.1 47 [.istore 6, .iload 6] = true := by decide +kernel
theorem b_136_54_1 : ov_ds ov_m136.2.1 54 [.iload 5] = true := by decide +kernel
theorem d_136_56 : decode ov_m136.2.1 56 = .ok (.goto 17, 3) := by decide +kernel
theorem b_144_0_1 : ov_ds ov_m144.2.1 0 [.aload_n 0] = true := by decide +kernel
theorem d_144_1 : decode ov_m144.2.1 1 = .ok (.getfield 46, 3) := by decide +kernel
theorem b_144_4_3 : ov_ds ov_m144.2.1 4 [.iload_n 1, .iconst 0, .iload_n 3] = true := by decide +kernel
theorem d_144_7 : decode ov_m144.2.1 7 = .ok (.invokevirtual 114, 3) := by decide +kernel
theorem b_144_10_2 : ov_ds ov_m144.2.1 10 [.istore 4, .aload_n 0] = true := by decide +kernel
theorem d_144_13 : decode ov_m144.2.1 13 = .ok (.getfield 46, 3) := by decide +kernel
theorem b_144_16_3 : ov_ds ov_m144.2.1 16 [.iload_n 1, .iconst 1, .iload_n 3] = true := by decide +kernel
theorem d_144_19 : decode ov_m144.2.1 19 = .ok (.invokevirtual 114, 3) := by decide +kernel
theorem b_144_22_2 : ov_ds ov_m144.2.1 22 [.istore 5, .aload_n 0] = true := by decide +kernel
theorem d_144_25 : decode ov_m144.2.1 25 = .ok (.getfield 39, 3) := by decide +kernel
theorem b_144_28_1 : ov_ds ov_m144.2.1 28 [.iconst 3] = true := by decide +kernel
theorem d_144_29 : decode ov_m144.2.1 29 = .ok (.if_icmp .eq 13, 3) := by decide +kernel
theorem b_144_42_5 : ov_ds ov_m144.2.1 42 [.aload_n 0, .iload_n 1, .iconst 0, .iload_n 2, .iload 4] = true := by decide +kernel
theorem d_144_48 : decode ov_m144.2.1 48 = .ok (.invokevirtual 134, 3) := by decide +kernel
theorem b_144_51_6 : ov_ds ov_m144.2.1 51 [.istore 6, .aload_n 0, .iload_n 1, .iconst 1, .iload_n 2, .iload 5] = true := by decide +kernel
theorem d_144_59 : decode ov_m144.2.1 59 = .ok (.invokevirtual 134, 3) := by decide +kernel
theorem b_144_62_3 : ov_ds ov_m144.2.1 62 [.istore 7, .iload 6, .iconst (-1)] = true := by decide +kernel
theorem d_144_67 : decode ov_m144.2.1 67 = .ok (.if_icmp .ne 11, 3) := by decide +kernel
theorem b_144_78_2 : ov_ds ov_m144.2.1 78 [.iload 7, .iconst (-1)] = true := by decide +kernel
theorem d_144_81 : decode ov_m144.2.1 81 = .ok (.if_icmp .eq 16, 3) := by decide +kernel
theorem b_144_97_1 : ov_ds ov_m144.2.1 97 [.iconst 0] = true := by decide +kernel
theorem d_144_98 : decode ov_m144.2.1 98 = .ok (.goto 4, 3) := by decide +kernel
theorem d_144_102 : decode ov_m144.2.1 102 = .ok (.ireturn, 1) := by decide +kernel
theorem b_144_84_2 : ov_ds ov_m144.2.1 84 [.iload 6, .iconst (-1)] = true := by decide +kernel
theorem d_144_87 : decode ov_m144.2.1 87 = .ok (.if_icmp .eq 14, 3) := by decide +kernel
theorem b_144_101_1 : ov_ds ov_m144.2.1 101 [.iconst 1] = true := by decide +kernel
theorem b_144_90_2 : ov_ds ov_m144.2.1 90 [.iload 6, .iload 7] = true := by decide +kernel
theorem d_144_94 : decode ov_m144.2.1 94 = .ok (.if_icmp .gt 7, 3) := by decide +kernel
theorem b_144_70_2 : ov_ds ov_m144.2.1 70 [.iload 7, .iconst (-1)] = true := by decide +kernel
theorem d_144_73 : decode ov_m144.2.1 73 = .ok (.if_icmp .ne 5, 3) := by decide +kernel
theorem b_144_76_1 : ov_ds ov_m144.2.1 76 [.iconst (-1)] = true := by decide +kernel
theorem d_144_77 : decode ov_m144.2.1 77 = .ok (.ireturn, 1) := by decide +kernel
theorem b_144_32_4 : ov_ds ov_m144.2.1 32 [.aload_n 0, .iload_n 1, .iload 4, .iload 5] = true := by decide +kernel
theorem d_144_38 : decode ov_m144.2.1 38 = .ok (.invokevirtual 150, 3) := by decide +kernel
theorem d_144_41 : decode ov_m144.2.1 41 = .ok (.ireturn, 1) := by decide +kernel
theorem b_130_0_1 : ov_ds ov_m130.2.1 0 [.aload_n 0] = true := by decide +kernel
theorem d_130_1 : decode ov_m130.2.1 1 = .ok (.getfield 46, 3) := by decide +kernel
theorem d_130_4 : decode ov_m130.2.1 4 = .ok (.getfield 84, 3) := by decide +kernel
theorem b_130_7_1 : ov_ds ov_m130.2.1 7 [.iload_n 1] = true := by decide +kernel
theorem d_130_8 : decode ov_m130.2.1 8 = .ok (.iaload, 1) := by decide +kernel
theorem b_130_9_2 : ov_ds ov_m130.2.1 9 [.istore_n 3, .aload_n 0] = true := by decide +kernel
theorem d_130_11 : decode ov_m130.2.1 11 = .ok (.getfield 46, 3) := by decide +kernel
theorem d_130_14 : decode ov_m130.2.1 14 = .ok (.getfield 126, 3) := by decide +kernel
theorem b_130_17_1 : ov_ds ov_m130.2.1 17 [.iload_n 1] = true := by decide +kernel
theorem d_130_18 : decode ov_m130.2.1 18 = .ok (.iaload, 1) := by decide +kernel
theorem b_130_19_7 : ov_ds ov_m130.2.1 19 [.istore 4, .aload_n 0, .aload_n 0, .iload_n 1, .iconst 0, .iload_n 2, .iconst 0] = true := by decide +kernel
theorem d_130_27 : decode ov_m130.2.1 27 = .ok (.invokevirtual 134, 3) := by decide +kernel
theorem b_130_30_4 : ov_ds ov_m130.2.1 30 [.iload_n 1, .iconst 1, .iload_n 2, .iload 4] = true := by decide +kernel
theorem d_130_35 : decode ov_m130.2.1 35 = .ok (.invokevirtual 137, 3) := by decide +kernel
theorem b_130_38_7 : ov_ds ov_m130.2.1 38 [.istore 5, .aload_n 0, .aload_n 0, .iload_n 1, .iconst 1, .iload_n 2, .iconst 0] = true := by decide +kernel
theorem d_130_46 : decode ov_m130.2.1 46 = .ok (.invokevirtual 134, 3) := by decide +kernel
theorem b_130_49_6 : ov_ds ov_m130.2.1 49 [.iload_n 1, .iconst 0, .iload_n 2, .iload_n 3, .iload 4, .isub] = true := by decide +kernel
theorem d_130_56 : decode ov_m130.2.1 56 = .ok (.invokevirtual 137, 3) := by decide +kernel
theorem b_130_59_3 : ov_ds ov_m130.2.1 59 [.istore 6, .iload 5, .iconst (-1)] = true := by decide +kernel
theorem d_130_64 : decode ov_m130.2.1 64 = .ok (.if_icmp .eq 9, 3) := by decide +kernel
theorem b_130_73_1 : ov_ds ov_m130.2.1 73 [.iconst (-1)] = true := by decide +kernel
theorem d_130_74 : decode ov_m130.2.1 74 = .ok (.ireturn, 1) := by decide +kernel
theorem b_130_67_2 : ov_ds ov_m130.2.1 67 [.iload 6, .iconst (-1)] = true := by decide +kernel
theorem d_130_70 : decode ov_m130.2.1 70 = .ok (.if_icmp .ne 5, 3) := by decide +kernel
theorem b_130_75_1 : ov_ds ov_m130.2.1 75 [.aload_n 0] = true := by decide +kernel
theorem d_130_76 : decode ov_m130.2.1 76 = .ok (.getfield 43, 3) := by decide +kernel
theorem d_130_79 : decode ov_m130.2.1 79 = .ok (.ifCond .ne 8, 3) := by decide +kernel
theorem b_130_87_2 : ov_ds ov_m130.2.1 87 [.iload 5, .iload 6] = true := by decide +kernel
theorem d_130_91 : decode ov_m130.2.1 91 = .ok (.invokestatic 129, 3) := by decide +kernel
theorem d_130_94 : decode ov_m130.2.1 94 = .ok (.goto 10, 3) := by decide +kernel
theorem d_130_104 : decode ov_m130.2.1 104 = .ok (.ireturn, 1) := by decide +kernel
theorem b_130_82_2 : ov_ds ov_m130.2.1 82 [.iload_n 3, .iconst 1] = true := by decide +kernel
theorem d_130_84 : decode ov_m130.2.1 84 = .ok (.if_icmp .ge 13, 3) := by decide +kernel
theorem b_130_97_3 : ov_ds ov_m130.2.1 97 [.iload 5, .iload 6, .iadd] = true := by decide +kernel
theorem b_130_102_1 : ov_ds ov_m130.2.1 102 [.iload_n 3] = true := by decide +kernel
theorem d_130_103 : decode ov_m130.2.1 103 = .ok (.idiv, 1) := by decide +kernel
theorem b_135_0_1 : ov_ds ov_m135.2.1 0 [.aload_n 0] = true := by decide +kernel
theorem d_135_1 : decode ov_m135.2.1 1 = .ok (.getfield 46, 3) := by decide +kernel
theorem d_135_4 : decode ov_m135.2.1 4 = .ok (.getfield 84, 3) := by decide +kernel
theorem b_135_7_1 : ov_ds ov_m135.2.1 7 [.iload_n 1] = true := by decide +kernel
theorem d_135_8 : decode ov_m135.2.1 8 = .ok (.iaload, 1) := by decide +kernel
theorem b_135_9_2 : ov_ds ov_m135.2.1 9 [.istore_n 3, .aload_n 0] = true := by decide +kernel
theorem d_135_11 : decode ov_m135.2.1 11 = .ok (.getfield 46, 3) := by decide +kernel
theorem d_135_14 : decode ov_m135.2.1 14 = .ok (.getfield 126, 3) := by decide +kernel
theorem b_135_17_1 : ov_ds ov_m135.2.1 17 [.iload_n 1] = true := by decide +kernel
theorem d_135_18 : decode ov_m135.2.1 18 = .ok (.iaload, 1) := by decide +kernel
theorem b_135_19_7 : ov_ds ov_m135.2.1 19 [.istore 4, .iconst 0, .istore 5, .iconst 0, .istore 6, .iconst 0, .istore 7] = true := by decide +kernel
theorem b_135_30_2 : ov_ds ov_m135.2.1 30 [.iload 7, .iload_n 3] = true := by decide +kernel
theorem d_135_33 : decode ov_m135.2.1 33 = .ok (.if_icmp .ge 80, 3) := by decide +kernel
theorem b_135_113_1 : ov_ds ov_m135.2.1 113 [.aload_n 0] = true := by decide +kernel
theorem d_135_114 : decode ov_m135.2.1 114 = .ok (.getfield 43, 3) := by decide +kernel
theorem d_135_117 : decode ov_m135.2.1 117 = .ok (.ifCond .ne 8, 3) := by decide +kernel
theorem b_135_125_1 : ov_ds ov_m135.2.1 125 [.iload 6] = true := by decide +kernel
theorem d_135_127 : decode ov_m135.2.1 127 = .ok (.goto 7, 3) := by decide +kernel
theorem d_135_134 : decode ov_m135.2.1 134 = .ok (.ireturn, 1) := by decide +kernel
theorem b_135_120_2 : ov_ds ov_m135.2.1 120 [.iload_n 3, .iconst 1] = true := by decide +kernel
theorem d_135_122 : decode ov_m135.2.1 122 = .ok (.if_icmp .ge 8, 3) := by decide +kernel
theorem b_135_130_2 : ov_ds ov_m135.2.1 130 [.iload 5, .iload_n 3] = true := by decide +kernel
theorem d_135_133 : decode ov_m135.2.1 133 = .ok (.idiv, 1) := by decide +kernel
theorem b_135_36_2 : ov_ds ov_m135.2.1 36 [.iload 7, .iload 4] = true := by decide +kernel
theorem d_135_40 : decode ov_m135.2.1 40 = .ok (.if_icmp .ge 7, 3) := by decide +kernel
theorem b_135_47_3 : ov_ds ov_m135.2.1 47 [.iload_n 3, .iload 7, .isub] = true := by decide +kernel
theorem b_135_51_3 : ov_ds ov_m135.2.1 51 [.istore 8, .iload 7, .iload 4] = true := by decide +kernel
theorem d_135_57 : decode ov_m135.2.1 57 = .ok (.if_icmp .ge 11, 3) := by decide +kernel
theorem b_135_68_7 : ov_ds ov_m135.2.1 68 [.iconst 0, .istore 9, .aload_n 0, .iload_n 1, .iload_n 2, .iload 8, .iload 9] = true := by decide +kernel
theorem d_135_78 : decode ov_m135.2.1 78 = .ok (.invokevirtual 118, 3) := by decide +kernel
theorem b_135_81_3 : ov_ds ov_m135.2.1 81 [.istore 10, .iload 10, .iconst (-1)] = true := by decide +kernel
theorem d_135_86 : decode ov_m135.2.1 86 = .ok (.if_icmp .ne 5, 3) := by decide +kernel
theorem b_135_91_3 : ov_ds ov_m135.2.1 91 [.iload 5, .iload 10, .iadd] = true := by decide +kernel
theorem b_135_96_3 : ov_ds ov_m135.2.1 96 [.istore 5, .iload 6, .iload 10] = true := by decide +kernel
theorem d_135_102 : decode ov_m135.2.1 102 = .ok (.invokestatic 129, 3) := by decide +kernel
theorem b_135_105_2 : ov_ds ov_m135.2.1 105 [.istore 6, .iinc 7 1] = true := by decide +kernel
theorem d_135_110 : decode ov_m135.2.1 110 = .ok (.goto (-80), 3) := by decide +kernel
theorem b_135_89_1 : ov_ds ov_m135.2.1 89 [.iconst (-1)] = true := by decide +kernel
theorem d_135_90 : decode ov_m135.2.1 90 = .ok (.ireturn, 1) := by decide +kernel
theorem b_135_60_3 : ov_ds ov_m135.2.1 60 [.iload 4, .iload 7, .isub] = true := by decide +kernel
theorem d_135_65 : decode ov_m135.2.1 65 = .ok (.goto 4, 3) := by decide +kernel
theorem b_135_69_6 : ov_ds ov_m135.2.1 69 [.istore 9, .aload_n 0, .iload_n 1, .iload_n 2, .iload 8, .iload 9] = true := by decide +kernel
theorem b_135_43_1 : ov_ds ov_m135.2.1 43 [.iconst 0] = true := by decide +kernel
theorem d_135_44 : decode ov_m135.2.1 44 = .ok (.goto 7, 3) := by decide +kernel
theorem b_127_0_2 : ov_ds ov_m127.2.1 0 [.iload_n 1, .aload_n 0] = true := by decide +kernel
theorem d_127_2 : decode ov_m127.2.1 2 = .ok (.getfield 59, 3) := by decide +kernel
theorem d_127_5 : decode ov_m127.2.1 5 = .ok (.if_icmp .ne 5, 3) := by decide +kernel
theorem b_127_10_1 : ov_ds ov_m127.2.1 10 [.aload_n 0] = true := by decide +kernel
theorem d_127_11 : decode ov_m127.2.1 11 = .ok (.getfield 28, 3) := by decide +kernel
theorem b_127_14_1 : ov_ds ov_m127.2.1 14 [.iload_n 1] = true := by decide +kernel
theorem d_127_15 : decode ov_m127.2.1 15 = .ok (.iaload, 1) := by decide +kernel
theorem b_127_16_2 : ov_ds ov_m127.2.1 16 [.istore_n 3, .iload_n 3] = true := by decide +kernel
theorem d_127_18 : decode ov_m127.2.1 18 = .ok (.ifCond .le 9, 3) := by decide +kernel
theorem b_127_27_4 : ov_ds ov_m127.2.1 27 [.iconst 0, .istore 4, .iload_n 1, .aload_n 0] = true := by decide +kernel
theorem d_127_32 : decode ov_m127.2.1 32 = .ok (.getfield 46, 3) := by decide +kernel
theorem d_127_35 : decode ov_m127.2.1 35 = .ok (.getfield 67, 3) := by decide +kernel
theorem b_127_38_1 : ov_ds ov_m127.2.1 38 [.imul] = true := by decide +kernel
theorem b_127_39_2 : ov_ds ov_m127.2.1 39 [.iload 4, .iadd] = true := by decide +kernel
theorem b_127_42_2 : ov_ds ov_m127.2.1 42 [.istore 5, .aload_n 0] = true := by decide +kernel
theorem d_127_45 : decode ov_m127.2.1 45 = .ok (.getfield 12, 3) := by decide +kernel
theorem b_127_48_2 : ov_ds ov_m127.2.1 48 [.iload_n 1, .iload 5] = true := by decide +kernel
theorem d_127_51 : decode ov_m127.2.1 51 = .ok (.invokevirtual 101, 3) := by decide +kernel
theorem d_127_54 : decode ov_m127.2.1 54 = .ok (.ifCond .eq 13, 3) := by decide +kernel
theorem b_127_67_2 : ov_ds ov_m127.2.1 67 [.aload_n 0, .iload_n 1] = true := by decide +kernel
theorem d_127_69 : decode ov_m127.2.1 69 = .ok (.invokevirtual 81, 3) := by decide +kernel
theorem d_127_72 : decode ov_m127.2.1 72 = .ok (.ifCond .eq 33, 3) := by decide +kernel
theorem b_127_105_2 : ov_ds ov_m127.2.1 105 [.iload 4, .aload_n 0] = true := by decide +kernel
theorem d_127_108 : decode ov_m127.2.1 108 = .ok (.getfield 21, 3) := by decide +kernel
theorem b_127_111_1 : ov_ds ov_m127.2.1 111 [.iload_n 1] = true := by decide +kernel
theorem d_127_112 : decode ov_m127.2.1 112 = .ok (.iaload, 1) := by decide +kernel
theorem b_127_113_1 : ov_ds ov_m127.2.1 113 [.iadd] = true := by decide +kernel
theorem b_127_114_5 : ov_ds ov_m127.2.1 114 [.istore 7, .aload_n 0, .iload_n 1, .iload 4, .aload_n 0] = true := by decide +kernel
theorem d_127_121 : decode ov_m127.2.1 121 = .ok (.getfield 46, 3) := by decide +kernel
theorem b_127_124_3 : ov_ds ov_m127.2.1 124 [.iload_n 1, .iconst 0, .iload 7] = true := by decide +kernel
theorem d_127_128 : decode ov_m127.2.1 128 = .ok (.invokevirtual 114, 3) := by decide +kernel
theorem b_127_131_1 : ov_ds ov_m127.2.1 131 [.aload_n 0] = true := by decide +kernel
theorem d_127_132 : decode ov_m127.2.1 132 = .ok (.getfield 46, 3) := by decide +kernel
theorem b_127_135_3 : ov_ds ov_m127.2.1 135 [.iload_n 1, .iconst 1, .iload 7] = true := by decide +kernel
theorem d_127_139 : decode ov_m127.2.1 139 = .ok (.invokevirtual 114, 3) := by decide +kernel
theorem d_127_142 : decode ov_m127.2.1 142 = .ok (.invokevirtual 118, 3) := by decide +kernel
theorem b_127_145_2 : ov_ds ov_m127.2.1 145 [.istore 6, .aload_n 0] = true := by decide +kernel
theorem d_127_148 : decode ov_m127.2.1 148 = .ok (.getfield 12, 3) := by decide +kernel
theorem b_127_151_3 : ov_ds ov_m127.2.1 151 [.iload_n 1, .iload 5, .iload 6] = true := by decide +kernel
theorem d_127_156 : decode ov_m127.2.1 156 = .ok (.invokevirtual 122, 3) := by decide +kernel
theorem b_127_159_1 : ov_ds ov_m127.2.1 159 [.iload 6] = true := by decide +kernel
theorem d_127_161 : decode ov_m127.2.1 161 = .ok (.ireturn, 1) := by decide +kernel
theorem b_127_75_1 : ov_ds ov_m127.2.1 75 [.aload_n 0] = true := by decide +kernel
theorem d_127_76 : decode ov_m127.2.1 76 = .ok (.getfield 39, 3) := by decide +kernel
theorem b_127_79_1 : ov_ds ov_m127.2.1 79 [.iconst 3] = true := by decide +kernel
theorem d_127_80 : decode ov_m127.2.1 80 = .ok (.if_icmp .ne 13, 3) := by decide +kernel
theorem b_127_93_3 : ov_ds ov_m127.2.1 93 [.aload_n 0, .iload_n 1, .iload 4] = true := by decide +kernel
theorem d_127_97 : decode ov_m127.2.1 97 = .ok (.invokevirtual 111, 3) := by decide +kernel
theorem b_127_100_1 : ov_ds ov_m127.2.1 100 [.istore 6] = true := by decide +kernel
theorem d_127_102 : decode ov_m127.2.1 102 = .ok (.goto 45, 3) := by decide +kernel
theorem b_127_147_1 : ov_ds ov_m127.2.1 147 [.aload_n 0] = true := by decide +kernel
theorem b_127_83_3 : ov_ds ov_m127.2.1 83 [.aload_n 0, .iload_n 1, .iload 4] = true := by decide +kernel
theorem d_127_87 : decode ov_m127.2.1 87 = .ok (.invokevirtual 108, 3) := by decide +kernel
theorem d_127_90 : decode ov_m127.2.1 90 = .ok (.goto 10, 3) := by decide +kernel
theorem b_127_57_1 : ov_ds ov_m127.2.1 57 [.aload_n 0] = true := by decide +kernel
theorem d_127_58 : decode ov_m127.2.1 58 = .ok (.getfield 12, 3) := by decide +kernel
theorem b_127_61_1 : ov_ds ov_m127.2.1 61 [.iload 5] = true := by decide +kernel
theorem d_127_63 : decode ov_m127.2.1 63 = .ok (.invokevirtual 104, 3) := by decide +kernel
theorem d_127_66 : decode ov_m127.2.1 66 = .ok (.ireturn, 1) := by decide +kernel
theorem b_127_21_2 : ov_ds ov_m127.2.1 21 [.iload_n 2, .iload_n 3] = true := by decide +kernel
theorem d_127_23 : decode ov_m127.2.1 23 = .ok (.irem, 1) := by decide +kernel
theorem d_127_24 : decode ov_m127.2.1 24 = .ok (.goto 4, 3) := by decide +kernel
theorem b_127_28_3 : ov_ds ov_m127.2.1 28 [.istore 4, .iload_n 1, .aload_n 0] = true := by decide +kernel
theorem b_127_8_1 : ov_ds ov_m127.2.1 8 [.iconst 0] = true := by decide +kernel
theorem d_127_9 : decode ov_m127.2.1 9 = .ok (.ireturn, 1) := by decide +kernel
abbrev P_Goers_forget_36 (F : ov_H) (z : ov_Z) (h : ov_H)  : Option ov_V → ov_Z → ov_H → Prop := fun r0 z' h' => r0 = none ∧ ov_I F z' h' ∧ ((h' 36 7) = 0 ∧ (h' 1 1) = (h 1 1) ∧ (h' 90 2) = (h 90 2) ∧ (h' 0 10) = (h 0 10) ∧ (h' 0 11) = (h 0 11) ∧ (h' 0 12) = (h 0 12) ∧ (h' 0 13) = (h 0 13) ∧ (h' 3 1) = (h 3 1) ∧ (h' 36 8) = (h 36 8) ∧ (h' 46 3) = (h 46 3) ∧ (h' 46 4) = (h 46 4) ∧ (h' 49 4) = (h 49 4) ∧ (h' 49 5) = (h 49 5) ∧ (h' 64 0) = (h 64 0) ∧ (h' 76 0) = (h 76 0))
set_option maxHeartbeats 4000000 in
theorem c_Goers_forget_36 {u : ov_U} {F : ov_H} {z : ov_Z} {h : ov_H} (d : Nat) (hd : 0 ≤ d) (U : ov_cap u) (I : ov_I F z h) : ov_T u d ov_m85 [ov_r 36] z h (P_Goers_forget_36 F z h) := by
  refine ov_en rfl (Nat.le_of_ble_eq_true rfl) ?_
  show ov_R u d ov_m85 0 [(0, ov_r 36)] [] z h (P_Goers_forget_36 F z h)
  refine ov_blk (ls2 := [(0, ov_r 36)]) (st2 := [ov_i 0, ov_r 36]) (pc2 := 2) b_85_0_2 rfl rfl ?_
  refine ov_putf (x := 0) d_85_2 fl_Goers_31 (zb_36 I) (zs_36 I) rfl (nk_3 (by omega)) rfl ?_
  have I1 := up_36_7 (x := 0) I (by omega)
  exact ov_retv (st := []) d_85_5 rfl ⟨rfl, I1, (by show 0 = 0 ∧ (h 1 1) = (h 1 1) ∧ (h 90 2) = (h 90 2) ∧ (h 0 10) = (h 0 10) ∧ (h 0 11) = (h 0 11) ∧ (h 0 12) = (h 0 12) ∧ (h 0 13) = (h 0 13) ∧ (h 3 1) = (h 3 1) ∧ (h 36 8) = (h 36 8) ∧ (h 46 3) = (h 46 3) ∧ (h 46 4) = (h 46 4) ∧ (h 49 4) = (h 49 4) ∧ (h 49 5) = (h 49 5) ∧ (h 64 0) = (h 64 0) ∧ (h 76 0) = (h 76 0); omega)⟩
abbrev P_Goers_hides_36_k36_8_58 (F : ov_H) (z : ov_Z) (h : ov_H) (c : Int) : Option ov_V → ov_Z → ov_H → Prop := fun r0 z' h' => ∃ r : Int, r0 = some (ov_i r) ∧ z = z' ∧ h = h' ∧ ((r = 0 ∨ r = 1))
set_option maxHeartbeats 4000000 in
theorem c_Goers_hides_36_k36_8_58 {u : ov_U} {F : ov_H} {z : ov_Z} {h : ov_H} (d : Nat) (hd : 0 ≤ d) (U : ov_cap u) (I : ov_I F z h) (c : Int) (k0 : h 36 8 = 58) (g_c : ov_g c) (p0 : 0 ≤ c ∧ c ≤ 53) : ov_T u d ov_m126 [ov_r 36, ov_i c] z h (P_Goers_hides_36_k36_8_58 F z h c) := by
  refine ov_en rfl (Nat.le_of_ble_eq_true rfl) ?_
  show ov_R u d ov_m126 0 [(0, ov_r 36), (1, ov_i c)] [] z h (P_Goers_hides_36_k36_8_58 F z h c)
  refine ov_blk (ls2 := [(0, ov_r 36), (1, ov_i c)]) (st2 := [ov_r 36]) (pc2 := 1) b_126_0_1 rfl rfl ?_
  refine ov_getf (v := ov_r 58) d_126_1 fl_Goers_46 (zb_36 I) (zs_36 I) (congrArg ov_r k0) ?_
  refine ov_getf (v := ov_r 59) d_126_4 fl_Goers_98 (zb_58 I) (zs_58 I) (congrArg ov_r (rg_58_2 I)) ?_
  refine ov_blk (ls2 := [(0, ov_r 36), (1, ov_i c)]) (st2 := [ov_i c, ov_r 59]) (pc2 := 8) b_126_7_1 rfl rfl ?_
  refine ov_iald d_126_8 (zb_59 I) (zs_59 I) (by omega) ?_
  have g1 := ra_59 I c
  refine ov_blk (ls2 := [(0, ov_r 36), (1, ov_i c)]) (st2 := [ov_i 1, ov_i (h 59 c)]) (pc2 := 10) b_126_9_1 rfl rfl ?_
  refine ov_icne (tgt := 30) d_126_10 (by decide) (by omega) (by omega) (fun c2 => ?_) (fun c2 => ?_)
  · skip
    refine ov_blk (ls2 := [(0, ov_r 36), (1, ov_i c)]) (st2 := [ov_i 0]) (pc2 := 31) b_126_30_1 rfl rfl ?_
    exact ov_retz (st := []) d_126_31 rfl (by omega) ⟨_, rfl, rfl, rfl, (by show (0 = 0 ∨ 0 = 1); omega)⟩
  · skip
    refine ov_blk (ls2 := [(0, ov_r 36), (1, ov_i c)]) (st2 := [ov_r 36]) (pc2 := 14) b_126_13_1 rfl rfl ?_
    refine ov_getf (v := ov_l (h 36 9)) d_126_14 fl_Goers_35 (zb_36 I) (zs_36 I) rfl ?_
    refine ov_blk (ls2 := [(0, ov_r 36), (1, ov_i c)]) (st2 := [ov_i (ov_lcmp (ov_land (ov_lshr (h 36 9) c) 1) 0)]) (pc2 := 23) b_126_17_6 rfl rfl ?_
    have g3 := ov_lcg (ov_land (ov_lshr (h 36 9) c) 1) 0
    refine ov_ifne (tgt := 30) d_126_23 (by decide) (by omega) (fun c4 => ?_) (fun c4 => ?_)
    · skip
      refine ov_blk (ls2 := [(0, ov_r 36), (1, ov_i c)]) (st2 := [ov_i 0]) (pc2 := 31) b_126_30_1 rfl rfl ?_
      exact ov_retz (st := []) d_126_31 rfl (by omega) ⟨_, rfl, rfl, rfl, (by show (0 = 0 ∨ 0 = 1); omega)⟩
    · skip
      refine ov_blk (ls2 := [(0, ov_r 36), (1, ov_i c)]) (st2 := [ov_i 1]) (pc2 := 27) b_126_26_1 rfl rfl ?_
      refine ov_goto (tgt := 31) d_126_27 (by decide) ?_
      exact ov_retz (st := []) d_126_31 rfl (by omega) ⟨_, rfl, rfl, rfl, (by show (1 = 0 ∨ 1 = 1); omega)⟩
abbrev P_Goers_findPeriods_36_k36_8_58 (F : ov_H) (z : ov_Z) (h : ov_H)  : Option ov_V → ov_Z → ov_H → Prop := fun r0 z' h' => r0 = none ∧ ov_I F z' h' ∧ ((h' 36 7) = (h 36 7) ∧ (h' 1 1) = (h 1 1) ∧ (h' 90 2) = (h 90 2) ∧ (h' 0 10) = (h 0 10) ∧ (h' 0 11) = (h 0 11) ∧ (h' 0 12) = (h 0 12) ∧ (h' 0 13) = (h 0 13) ∧ (h' 3 1) = (h 3 1) ∧ (h' 36 8) = (h 36 8) ∧ (h' 46 3) = (h 46 3) ∧ (h' 46 4) = (h 46 4) ∧ (h' 49 4) = (h 49 4) ∧ (h' 49 5) = (h 49 5) ∧ (h' 64 0) = (h 64 0) ∧ (h' 76 0) = (h 76 0))
set_option maxHeartbeats 4000000 in
theorem c_Goers_findPeriods_36_k36_8_58 {u : ov_U} {F : ov_H} {z : ov_Z} {h : ov_H} (d : Nat) (hd : 2 ≤ d) (U : ov_cap u) (I : ov_I F z h) (k0 : h 36 8 = 58) : ov_T u d ov_m125 [ov_r 36] z h (P_Goers_findPeriods_36_k36_8_58 F z h) := by
  refine ov_en rfl (Nat.le_of_ble_eq_true rfl) ?_
  show ov_R u d ov_m125 0 [(0, ov_r 36)] [] z h (P_Goers_findPeriods_36_k36_8_58 F z h)
  refine ov_blk (ls2 := [(0, ov_r 36)]) (st2 := [ov_r 36]) (pc2 := 1) b_125_0_1 rfl rfl ?_
  refine ov_getf (v := ov_r 45) d_125_1 fl_Goers_28 (zb_36 I) (zs_36 I) (congrArg ov_r (rg_36_6 I)) ?_
  refine ov_blk (ls2 := [(0, ov_r 36)]) (st2 := [ov_r 36, ov_r 45]) (pc2 := 5) b_125_4_1 rfl rfl ?_
  refine ov_getf (v := ov_i (h 36 13)) d_125_5 fl_Goers_59 (zb_36 I) (zs_36 I) rfl ?_
  have g1 := rg_36_13 I
  refine ov_blk (ls2 := [(0, ov_r 36)]) (st2 := [ov_i 1, ov_i (h 36 13), ov_r 45]) (pc2 := 9) b_125_8_1 rfl rfl ?_
  refine ov_iast d_125_9 (zb_45 I) (zs_45 I) (by omega) ?_
  have I2 := ua_45 (k := (h 36 13)) (x := 1) I (by omega)
  refine ov_blk (ls2 := [(0, ov_r 36)]) (st2 := [ov_r 36]) (pc2 := 11) b_125_10_1 rfl rfl ?_
  refine ov_getf (v := ov_i (h 36 13)) d_125_11 fl_Goers_59 (zb_36 I2) (zs_36 I2) rfl ?_
  refine ov_blk (ls2 := [(0, ov_r 36), (1, ov_i ((h 36 13) - 1))]) (st2 := []) (pc2 := 17) b_125_14_3 rfl rfl ?_
  have L7 : ∀ (n4 : Nat) (x1 : Int) (z8 : ov_Z) (h9 : ov_H) (I10 : ov_I F z8 h9) (q6 : -1 ≤ x1 ∧ x1 ≤ 52 ∧ (h9 36 7) = (h 36 7) ∧ (h9 1 1) = (h 1 1) ∧ (h9 90 2) = (h 90 2) ∧ (h9 0 10) = (h 0 10) ∧ (h9 0 11) = (h 0 11) ∧ (h9 0 12) = (h 0 12) ∧ (h9 0 13) = (h 0 13) ∧ (h9 3 1) = (h 3 1) ∧ (h9 36 8) = (h 36 8) ∧ (h9 46 3) = (h 46 3) ∧ (h9 46 4) = (h 46 4) ∧ (h9 49 4) = (h 49 4) ∧ (h9 49 5) = (h 49 5) ∧ (h9 64 0) = (h 64 0) ∧ (h9 76 0) = (h 76 0) ∧ h9 36 8 = 58), x1 + 1 < (n4 : Int) → ov_R u d ov_m125 17 [(0, ov_r 36), (1, ov_i x1)] [] z8 h9 (P_Goers_findPeriods_36_k36_8_58 F z h) := by
    intro n4
    induction n4 with
    | zero =>
      intro x1 z8 h9 I10 q6 hn11
      exact absurd hn11 (by omega)
    | succ n4 ih5 =>
      intro x1 z8 h9 I10 q6 hn11
      have e12 : h9 36 8 = 58 := by omega
      refine ov_blk (ls2 := [(0, ov_r 36), (1, ov_i x1)]) (st2 := [ov_i x1]) (pc2 := 18) b_125_17_1 rfl rfl ?_
      refine ov_iflt (tgt := 111) d_125_18 (by decide) (by omega) (fun c13 => ?_) (fun c13 => ?_)
      · skip
        exact ov_retv (st := []) d_125_111 rfl ⟨rfl, I10, (by show (h9 36 7) = (h 36 7) ∧ (h9 1 1) = (h 1 1) ∧ (h9 90 2) = (h 90 2) ∧ (h9 0 10) = (h 0 10) ∧ (h9 0 11) = (h 0 11) ∧ (h9 0 12) = (h 0 12) ∧ (h9 0 13) = (h 0 13) ∧ (h9 3 1) = (h 3 1) ∧ (h9 36 8) = (h 36 8) ∧ (h9 46 3) = (h 46 3) ∧ (h9 46 4) = (h 46 4) ∧ (h9 49 4) = (h 49 4) ∧ (h9 49 5) = (h 49 5) ∧ (h9 64 0) = (h 64 0) ∧ (h9 76 0) = (h 76 0); omega)⟩
      · skip
        refine ov_blk (ls2 := [(0, ov_r 36), (1, ov_i x1)]) (st2 := [ov_r 36]) (pc2 := 22) b_125_21_1 rfl rfl ?_
        refine ov_getf (v := ov_r 58) d_125_22 fl_Goers_46 (zb_36 I10) (zs_36 I10) (congrArg ov_r e12) ?_
        refine ov_blk (ls2 := [(0, ov_r 36), (1, ov_i x1)]) (st2 := [ov_i x1, ov_r 58]) (pc2 := 26) b_125_25_1 rfl rfl ?_
        refine ov_cV (as := [ov_i x1]) (st := []) (d2 := d - 1) d_125_26 lk_Goers_77 rfl (Nat.le_of_ble_eq_true rfl) (c := 9) (zb_58 I10) (zs_58 I10) ⟨by decide, rfl⟩ (by omega) (c_Town_isTimed_58 (d - 1) (by omega) U I10 x1 (by omega) (by omega)) ?_
        rintro _ _ _ ⟨v15, rfl, rfl, rfl, f14⟩
        show ov_R u d ov_m125 29 [(0, ov_r 36), (1, ov_i x1)] [ov_i v15] z8 h9 (P_Goers_findPeriods_36_k36_8_58 F z h)
        have f16 : (v15 = 0 ∨ v15 = 1) := f14
        clear f14
        refine ov_ifeq (tgt := 52) d_125_29 (by decide) (by omega) (fun c17 => ?_) (fun c17 => ?_)
        · skip
          refine ov_blk (ls2 := [(0, ov_r 36), (1, ov_i x1), (2, ov_i 1), (3, ov_i 0)]) (st2 := []) (pc2 := 56) b_125_52_4 rfl rfl ?_
          have L21 : ∀ (n18 : Nat) (x2 : Int) (x3 : Int) (q20 : ov_g x2 ∧ 0 ≤ x3 ∧ x3 ≤ 2), 2 - x3 < (n18 : Int) → ov_R u d ov_m125 56 [(0, ov_r 36), (1, ov_i x1), (2, ov_i x2), (3, ov_i x3)] [] z8 h9 (P_Goers_findPeriods_36_k36_8_58 F z h) := by
            intro n18
            induction n18 with
            | zero =>
              intro x2 x3 q20 hn22
              exact absurd hn22 (by omega)
            | succ n18 ih19 =>
              intro x2 x3 q20 hn22
              refine ov_blk (ls2 := [(0, ov_r 36), (1, ov_i x1), (2, ov_i x2), (3, ov_i x3)]) (st2 := [ov_i 1, ov_i x3]) (pc2 := 58) b_125_56_2 rfl rfl ?_
              refine ov_icgt (tgt := 98) d_125_58 (by decide) (by omega) (by omega) (fun c23 => ?_) (fun c23 => ?_)
              · skip
                refine ov_blk (ls2 := [(0, ov_r 36), (1, ov_i x1), (2, ov_i x2), (3, ov_i x3)]) (st2 := [ov_r 36]) (pc2 := 99) b_125_98_1 rfl rfl ?_
                refine ov_getf (v := ov_r 45) d_125_99 fl_Goers_28 (zb_36 I10) (zs_36 I10) (congrArg ov_r (rg_36_6 I10)) ?_
                refine ov_blk (ls2 := [(0, ov_r 36), (1, ov_i x1), (2, ov_i x2), (3, ov_i x3)]) (st2 := [ov_i x2, ov_i x1, ov_r 45]) (pc2 := 104) b_125_102_2 rfl rfl ?_
                refine ov_iast d_125_104 (zb_45 I10) (zs_45 I10) (by omega) ?_
                have I24 := ua_45 (k := x1) (x := x2) I10 (by omega)
                refine ov_blk (ls2 := [(0, ov_r 36), (1, ov_i (x1 + (-1))), (2, ov_i x2), (3, ov_i x3)]) (st2 := []) (pc2 := 108) b_125_105_1 rfl rfl ?_
                refine ov_goto (tgt := 17) d_125_108 (by decide) ?_
                refine ov_sub (ls2 := [(0, ov_r 36), (1, ov_i (x1 + (-1)))]) (List.Sublist.subset (by repeat (first | exact List.Sublist.refl _ | apply List.Sublist.cons_cons | apply List.Sublist.cons))) ?_
                exact ih5 (x1 + (-1)) _ _ I24 (by show -1 ≤ (x1 + (-1)) ∧ (x1 + (-1)) ≤ 52 ∧ (h9 36 7) = (h 36 7) ∧ (h9 1 1) = (h 1 1) ∧ (h9 90 2) = (h 90 2) ∧ (h9 0 10) = (h 0 10) ∧ (h9 0 11) = (h 0 11) ∧ (h9 0 12) = (h 0 12) ∧ (h9 0 13) = (h 0 13) ∧ (h9 3 1) = (h 3 1) ∧ (h9 36 8) = (h 36 8) ∧ (h9 46 3) = (h 46 3) ∧ (h9 46 4) = (h 46 4) ∧ (h9 49 4) = (h 49 4) ∧ (h9 49 5) = (h 49 5) ∧ (h9 64 0) = (h 64 0) ∧ (h9 76 0) = (h 76 0) ∧ (h9 36 8) = 58; omega) (by omega)
              · skip
                refine ov_blk (ls2 := [(0, ov_r 36), (1, ov_i x1), (2, ov_i x2), (3, ov_i x3)]) (st2 := [ov_r 36]) (pc2 := 62) b_125_61_1 rfl rfl ?_
                refine ov_getf (v := ov_r 58) d_125_62 fl_Goers_46 (zb_36 I10) (zs_36 I10) (congrArg ov_r e12) ?_
                refine ov_blk (ls2 := [(0, ov_r 36), (1, ov_i x1), (2, ov_i x2), (3, ov_i x3)]) (st2 := [ov_i x3, ov_i x1, ov_r 58]) (pc2 := 67) b_125_65_2 rfl rfl ?_
                refine ov_cV (as := [ov_i x1, ov_i x3]) (st := []) (d2 := d - 1) d_125_67 lk_Goers_87 rfl (Nat.le_of_ble_eq_true rfl) (c := 9) (zb_58 I10) (zs_58 I10) ⟨by decide, rfl⟩ (by omega) (c_Town_isOpen_58 (d - 1) (by omega) U I10 x1 x3 (by omega) (by omega) (by omega)) ?_
                rintro _ _ _ ⟨v26, rfl, rfl, rfl, f25⟩
                show ov_R u d ov_m125 70 [(0, ov_r 36), (1, ov_i x1), (2, ov_i x2), (3, ov_i x3)] [ov_i v26] z8 h9 (P_Goers_findPeriods_36_k36_8_58 F z h)
                have f27 : (v26 = 0 ∨ v26 = 1) ∧ (v26 = 1 → (x3 = 0 ∧ x1 ≤ 52) ∨ (x3 = 1 ∧ x1 ≤ 47)) := f25
                clear f25
                refine ov_ifeq (tgt := 92) d_125_70 (by decide) (by omega) (fun c28 => ?_) (fun c28 => ?_)
                · skip
                  refine ov_blk (ls2 := [(0, ov_r 36), (1, ov_i x1), (2, ov_i x2), (3, ov_i (x3 + 1))]) (st2 := []) (pc2 := 95) b_125_92_1 rfl rfl ?_
                  refine ov_goto (tgt := 56) d_125_95 (by decide) ?_
                  exact ih19 x2 (x3 + 1) (by show ov_g x2 ∧ 0 ≤ (x3 + 1) ∧ (x3 + 1) ≤ 2; omega) (by omega)
                · skip
                  refine ov_blk (ls2 := [(0, ov_r 36), (1, ov_i x1), (2, ov_i x2), (3, ov_i x3)]) (st2 := [ov_r 36, ov_i x2]) (pc2 := 75) b_125_73_2 rfl rfl ?_
                  refine ov_getf (v := ov_r 45) d_125_75 fl_Goers_28 (zb_36 I10) (zs_36 I10) (congrArg ov_r (rg_36_6 I10)) ?_
                  refine ov_blk (ls2 := [(0, ov_r 36), (1, ov_i x1), (2, ov_i x2), (3, ov_i x3)]) (st2 := [ov_r 36, ov_r 45, ov_i x2]) (pc2 := 79) b_125_78_1 rfl rfl ?_
                  refine ov_getf (v := ov_r 58) d_125_79 fl_Goers_46 (zb_36 I10) (zs_36 I10) (congrArg ov_r e12) ?_
                  refine ov_blk (ls2 := [(0, ov_r 36), (1, ov_i x1), (2, ov_i x2), (3, ov_i x3)]) (st2 := [ov_i x3, ov_i x1, ov_r 58, ov_r 45, ov_i x2]) (pc2 := 84) b_125_82_2 rfl rfl ?_
                  refine ov_cV (as := [ov_i x1, ov_i x3]) (st := [ov_r 45, ov_i x2]) (d2 := d - 1) d_125_84 lk_Goers_91 rfl (Nat.le_of_ble_eq_true rfl) (c := 9) (zb_58 I10) (zs_58 I10) ⟨by decide, rfl⟩ (by omega) (c_Town_after_58 (d - 1) (by omega) U I10 x1 x3 (by omega) (by omega) (by omega)) ?_
                  rintro _ _ _ ⟨v30, rfl, rfl, rfl, f29⟩
                  show ov_R u d ov_m125 87 [(0, ov_r 36), (1, ov_i x1), (2, ov_i x2), (3, ov_i x3)] [ov_i v30, ov_r 45, ov_i x2] z8 h9 (P_Goers_findPeriods_36_k36_8_58 F z h)
                  have f31 : (x3 = 0 → v30 = x1 + 1) ∧ (¬ x3 = 0 → v30 = x1 + 6) := f29
                  clear f29
                  refine ov_iald d_125_87 (zb_45 I10) (zs_45 I10) (by omega) ?_
                  have g32 := ra_45 I10 v30
                  refine ov_cSN (as := [ov_i x2, ov_i (h9 45 v30)]) (st := []) (d2 := d - 1) d_125_88 lk_Goers_95 rfl (Nat.le_of_ble_eq_true rfl) (by omega) (c_OF_commonMultiple (d - 1) (by omega) U I10 x2 (h9 45 v30) (by omega) (by omega)) ?_
                  rintro _ _ _ ⟨v34, rfl, rfl, rfl, f33⟩
                  show ov_R u d ov_m125 91 [(0, ov_r 36), (1, ov_i x1), (2, ov_i x2), (3, ov_i x3)] [ov_i v34] z8 h9 (P_Goers_findPeriods_36_k36_8_58 F z h)
                  have f35 : -2147483648 ≤ v34 ∧ v34 ≤ 2147483647 ∧ (0 ≤ x2 → x2 ≤ 1200 → 0 ≤ (h9 45 v30) → (h9 45 v30) ≤ 60 → 0 ≤ v34 ∧ v34 ≤ 72000) := f33
                  clear f33
                  refine ov_blk (ls2 := [(0, ov_r 36), (1, ov_i x1), (2, ov_i v34), (3, ov_i (x3 + 1))]) (st2 := []) (pc2 := 95) b_125_91_2 rfl rfl ?_
                  refine ov_goto (tgt := 56) d_125_95 (by decide) ?_
                  exact ih19 v34 (x3 + 1) (by show ov_g v34 ∧ 0 ≤ (x3 + 1) ∧ (x3 + 1) ≤ 2; omega) (by omega)
          exact L21 3 1 0 (by show ov_g 1 ∧ 0 ≤ 0 ∧ 0 ≤ 2; omega) (by omega)
        · skip
          refine ov_blk (ls2 := [(0, ov_r 36), (1, ov_i x1)]) (st2 := [ov_i x1, ov_r 36]) (pc2 := 34) b_125_32_2 rfl rfl ?_
          refine ov_cV (as := [ov_i x1]) (st := []) (d2 := d - 1) d_125_34 lk_Goers_81 rfl (Nat.le_of_ble_eq_true rfl) (c := 2) (zb_36 I10) (zs_36 I10) ⟨by decide, rfl⟩ (by omega) (c_Goers_hides_36_k36_8_58 (d - 1) (by omega) U I10 x1 e12 (by omega) (by omega)) ?_
          rintro _ _ _ ⟨v37, rfl, rfl, rfl, f36⟩
          show ov_R u d ov_m125 37 [(0, ov_r 36), (1, ov_i x1)] [ov_i v37] z8 h9 (P_Goers_findPeriods_36_k36_8_58 F z h)
          have f38 : (v37 = 0 ∨ v37 = 1) := f36
          clear f36
          refine ov_ifne (tgt := 52) d_125_37 (by decide) (by omega) (fun c39 => ?_) (fun c39 => ?_)
          · skip
            refine ov_blk (ls2 := [(0, ov_r 36), (1, ov_i x1), (2, ov_i 1), (3, ov_i 0)]) (st2 := []) (pc2 := 56) b_125_52_4 rfl rfl ?_
            have L43 : ∀ (n40 : Nat) (x2_ : Int) (x3_ : Int) (q42 : ov_g x2_ ∧ 0 ≤ x3_ ∧ x3_ ≤ 2), 2 - x3_ < (n40 : Int) → ov_R u d ov_m125 56 [(0, ov_r 36), (1, ov_i x1), (2, ov_i x2_), (3, ov_i x3_)] [] z8 h9 (P_Goers_findPeriods_36_k36_8_58 F z h) := by
              intro n40
              induction n40 with
              | zero =>
                intro x2_ x3_ q42 hn44
                exact absurd hn44 (by omega)
              | succ n40 ih41 =>
                intro x2_ x3_ q42 hn44
                refine ov_blk (ls2 := [(0, ov_r 36), (1, ov_i x1), (2, ov_i x2_), (3, ov_i x3_)]) (st2 := [ov_i 1, ov_i x3_]) (pc2 := 58) b_125_56_2 rfl rfl ?_
                refine ov_icgt (tgt := 98) d_125_58 (by decide) (by omega) (by omega) (fun c45 => ?_) (fun c45 => ?_)
                · skip
                  refine ov_blk (ls2 := [(0, ov_r 36), (1, ov_i x1), (2, ov_i x2_), (3, ov_i x3_)]) (st2 := [ov_r 36]) (pc2 := 99) b_125_98_1 rfl rfl ?_
                  refine ov_getf (v := ov_r 45) d_125_99 fl_Goers_28 (zb_36 I10) (zs_36 I10) (congrArg ov_r (rg_36_6 I10)) ?_
                  refine ov_blk (ls2 := [(0, ov_r 36), (1, ov_i x1), (2, ov_i x2_), (3, ov_i x3_)]) (st2 := [ov_i x2_, ov_i x1, ov_r 45]) (pc2 := 104) b_125_102_2 rfl rfl ?_
                  refine ov_iast d_125_104 (zb_45 I10) (zs_45 I10) (by omega) ?_
                  have I46 := ua_45 (k := x1) (x := x2_) I10 (by omega)
                  refine ov_blk (ls2 := [(0, ov_r 36), (1, ov_i (x1 + (-1))), (2, ov_i x2_), (3, ov_i x3_)]) (st2 := []) (pc2 := 108) b_125_105_1 rfl rfl ?_
                  refine ov_goto (tgt := 17) d_125_108 (by decide) ?_
                  refine ov_sub (ls2 := [(0, ov_r 36), (1, ov_i (x1 + (-1)))]) (List.Sublist.subset (by repeat (first | exact List.Sublist.refl _ | apply List.Sublist.cons_cons | apply List.Sublist.cons))) ?_
                  exact ih5 (x1 + (-1)) _ _ I46 (by show -1 ≤ (x1 + (-1)) ∧ (x1 + (-1)) ≤ 52 ∧ (h9 36 7) = (h 36 7) ∧ (h9 1 1) = (h 1 1) ∧ (h9 90 2) = (h 90 2) ∧ (h9 0 10) = (h 0 10) ∧ (h9 0 11) = (h 0 11) ∧ (h9 0 12) = (h 0 12) ∧ (h9 0 13) = (h 0 13) ∧ (h9 3 1) = (h 3 1) ∧ (h9 36 8) = (h 36 8) ∧ (h9 46 3) = (h 46 3) ∧ (h9 46 4) = (h 46 4) ∧ (h9 49 4) = (h 49 4) ∧ (h9 49 5) = (h 49 5) ∧ (h9 64 0) = (h 64 0) ∧ (h9 76 0) = (h 76 0) ∧ (h9 36 8) = 58; omega) (by omega)
                · skip
                  refine ov_blk (ls2 := [(0, ov_r 36), (1, ov_i x1), (2, ov_i x2_), (3, ov_i x3_)]) (st2 := [ov_r 36]) (pc2 := 62) b_125_61_1 rfl rfl ?_
                  refine ov_getf (v := ov_r 58) d_125_62 fl_Goers_46 (zb_36 I10) (zs_36 I10) (congrArg ov_r e12) ?_
                  refine ov_blk (ls2 := [(0, ov_r 36), (1, ov_i x1), (2, ov_i x2_), (3, ov_i x3_)]) (st2 := [ov_i x3_, ov_i x1, ov_r 58]) (pc2 := 67) b_125_65_2 rfl rfl ?_
                  refine ov_cV (as := [ov_i x1, ov_i x3_]) (st := []) (d2 := d - 1) d_125_67 lk_Goers_87 rfl (Nat.le_of_ble_eq_true rfl) (c := 9) (zb_58 I10) (zs_58 I10) ⟨by decide, rfl⟩ (by omega) (c_Town_isOpen_58 (d - 1) (by omega) U I10 x1 x3_ (by omega) (by omega) (by omega)) ?_
                  rintro _ _ _ ⟨v48, rfl, rfl, rfl, f47⟩
                  show ov_R u d ov_m125 70 [(0, ov_r 36), (1, ov_i x1), (2, ov_i x2_), (3, ov_i x3_)] [ov_i v48] z8 h9 (P_Goers_findPeriods_36_k36_8_58 F z h)
                  have f49 : (v48 = 0 ∨ v48 = 1) ∧ (v48 = 1 → (x3_ = 0 ∧ x1 ≤ 52) ∨ (x3_ = 1 ∧ x1 ≤ 47)) := f47
                  clear f47
                  refine ov_ifeq (tgt := 92) d_125_70 (by decide) (by omega) (fun c50 => ?_) (fun c50 => ?_)
                  · skip
                    refine ov_blk (ls2 := [(0, ov_r 36), (1, ov_i x1), (2, ov_i x2_), (3, ov_i (x3_ + 1))]) (st2 := []) (pc2 := 95) b_125_92_1 rfl rfl ?_
                    refine ov_goto (tgt := 56) d_125_95 (by decide) ?_
                    exact ih41 x2_ (x3_ + 1) (by show ov_g x2_ ∧ 0 ≤ (x3_ + 1) ∧ (x3_ + 1) ≤ 2; omega) (by omega)
                  · skip
                    refine ov_blk (ls2 := [(0, ov_r 36), (1, ov_i x1), (2, ov_i x2_), (3, ov_i x3_)]) (st2 := [ov_r 36, ov_i x2_]) (pc2 := 75) b_125_73_2 rfl rfl ?_
                    refine ov_getf (v := ov_r 45) d_125_75 fl_Goers_28 (zb_36 I10) (zs_36 I10) (congrArg ov_r (rg_36_6 I10)) ?_
                    refine ov_blk (ls2 := [(0, ov_r 36), (1, ov_i x1), (2, ov_i x2_), (3, ov_i x3_)]) (st2 := [ov_r 36, ov_r 45, ov_i x2_]) (pc2 := 79) b_125_78_1 rfl rfl ?_
                    refine ov_getf (v := ov_r 58) d_125_79 fl_Goers_46 (zb_36 I10) (zs_36 I10) (congrArg ov_r e12) ?_
                    refine ov_blk (ls2 := [(0, ov_r 36), (1, ov_i x1), (2, ov_i x2_), (3, ov_i x3_)]) (st2 := [ov_i x3_, ov_i x1, ov_r 58, ov_r 45, ov_i x2_]) (pc2 := 84) b_125_82_2 rfl rfl ?_
                    refine ov_cV (as := [ov_i x1, ov_i x3_]) (st := [ov_r 45, ov_i x2_]) (d2 := d - 1) d_125_84 lk_Goers_91 rfl (Nat.le_of_ble_eq_true rfl) (c := 9) (zb_58 I10) (zs_58 I10) ⟨by decide, rfl⟩ (by omega) (c_Town_after_58 (d - 1) (by omega) U I10 x1 x3_ (by omega) (by omega) (by omega)) ?_
                    rintro _ _ _ ⟨v52, rfl, rfl, rfl, f51⟩
                    show ov_R u d ov_m125 87 [(0, ov_r 36), (1, ov_i x1), (2, ov_i x2_), (3, ov_i x3_)] [ov_i v52, ov_r 45, ov_i x2_] z8 h9 (P_Goers_findPeriods_36_k36_8_58 F z h)
                    have f53 : (x3_ = 0 → v52 = x1 + 1) ∧ (¬ x3_ = 0 → v52 = x1 + 6) := f51
                    clear f51
                    refine ov_iald d_125_87 (zb_45 I10) (zs_45 I10) (by omega) ?_
                    have g54 := ra_45 I10 v52
                    refine ov_cSN (as := [ov_i x2_, ov_i (h9 45 v52)]) (st := []) (d2 := d - 1) d_125_88 lk_Goers_95 rfl (Nat.le_of_ble_eq_true rfl) (by omega) (c_OF_commonMultiple (d - 1) (by omega) U I10 x2_ (h9 45 v52) (by omega) (by omega)) ?_
                    rintro _ _ _ ⟨v56, rfl, rfl, rfl, f55⟩
                    show ov_R u d ov_m125 91 [(0, ov_r 36), (1, ov_i x1), (2, ov_i x2_), (3, ov_i x3_)] [ov_i v56] z8 h9 (P_Goers_findPeriods_36_k36_8_58 F z h)
                    have f57 : -2147483648 ≤ v56 ∧ v56 ≤ 2147483647 ∧ (0 ≤ x2_ → x2_ ≤ 1200 → 0 ≤ (h9 45 v52) → (h9 45 v52) ≤ 60 → 0 ≤ v56 ∧ v56 ≤ 72000) := f55
                    clear f55
                    refine ov_blk (ls2 := [(0, ov_r 36), (1, ov_i x1), (2, ov_i v56), (3, ov_i (x3_ + 1))]) (st2 := []) (pc2 := 95) b_125_91_2 rfl rfl ?_
                    refine ov_goto (tgt := 56) d_125_95 (by decide) ?_
                    exact ih41 v56 (x3_ + 1) (by show ov_g v56 ∧ 0 ≤ (x3_ + 1) ∧ (x3_ + 1) ≤ 2; omega) (by omega)
            exact L43 3 1 0 (by show ov_g 1 ∧ 0 ≤ 0 ∧ 0 ≤ 2; omega) (by omega)
          · skip
            refine ov_blk (ls2 := [(0, ov_r 36), (1, ov_i x1)]) (st2 := [ov_r 36]) (pc2 := 41) b_125_40_1 rfl rfl ?_
            refine ov_getf (v := ov_r 58) d_125_41 fl_Goers_46 (zb_36 I10) (zs_36 I10) (congrArg ov_r e12) ?_
            refine ov_getf (v := ov_r 60) d_125_44 fl_Goers_84 (zb_58 I10) (zs_58 I10) (congrArg ov_r (rg_58_3 I10)) ?_
            refine ov_blk (ls2 := [(0, ov_r 36), (1, ov_i x1)]) (st2 := [ov_i x1, ov_r 60]) (pc2 := 48) b_125_47_1 rfl rfl ?_
            refine ov_iald d_125_48 (zb_60 I10) (zs_60 I10) (by omega) ?_
            have g58 := ra_60 I10 x1
            refine ov_goto (tgt := 53) d_125_49 (by decide) ?_
            refine ov_blk (ls2 := [(0, ov_r 36), (1, ov_i x1), (2, ov_i (h9 60 x1)), (3, ov_i 0)]) (st2 := []) (pc2 := 56) b_125_53_3 rfl rfl ?_
            have L62 : ∀ (n59 : Nat) (x2__ : Int) (x3__ : Int) (q61 : ov_g x2__ ∧ 0 ≤ x3__ ∧ x3__ ≤ 2), 2 - x3__ < (n59 : Int) → ov_R u d ov_m125 56 [(0, ov_r 36), (1, ov_i x1), (2, ov_i x2__), (3, ov_i x3__)] [] z8 h9 (P_Goers_findPeriods_36_k36_8_58 F z h) := by
              intro n59
              induction n59 with
              | zero =>
                intro x2__ x3__ q61 hn63
                exact absurd hn63 (by omega)
              | succ n59 ih60 =>
                intro x2__ x3__ q61 hn63
                refine ov_blk (ls2 := [(0, ov_r 36), (1, ov_i x1), (2, ov_i x2__), (3, ov_i x3__)]) (st2 := [ov_i 1, ov_i x3__]) (pc2 := 58) b_125_56_2 rfl rfl ?_
                refine ov_icgt (tgt := 98) d_125_58 (by decide) (by omega) (by omega) (fun c64 => ?_) (fun c64 => ?_)
                · skip
                  refine ov_blk (ls2 := [(0, ov_r 36), (1, ov_i x1), (2, ov_i x2__), (3, ov_i x3__)]) (st2 := [ov_r 36]) (pc2 := 99) b_125_98_1 rfl rfl ?_
                  refine ov_getf (v := ov_r 45) d_125_99 fl_Goers_28 (zb_36 I10) (zs_36 I10) (congrArg ov_r (rg_36_6 I10)) ?_
                  refine ov_blk (ls2 := [(0, ov_r 36), (1, ov_i x1), (2, ov_i x2__), (3, ov_i x3__)]) (st2 := [ov_i x2__, ov_i x1, ov_r 45]) (pc2 := 104) b_125_102_2 rfl rfl ?_
                  refine ov_iast d_125_104 (zb_45 I10) (zs_45 I10) (by omega) ?_
                  have I65 := ua_45 (k := x1) (x := x2__) I10 (by omega)
                  refine ov_blk (ls2 := [(0, ov_r 36), (1, ov_i (x1 + (-1))), (2, ov_i x2__), (3, ov_i x3__)]) (st2 := []) (pc2 := 108) b_125_105_1 rfl rfl ?_
                  refine ov_goto (tgt := 17) d_125_108 (by decide) ?_
                  refine ov_sub (ls2 := [(0, ov_r 36), (1, ov_i (x1 + (-1)))]) (List.Sublist.subset (by repeat (first | exact List.Sublist.refl _ | apply List.Sublist.cons_cons | apply List.Sublist.cons))) ?_
                  exact ih5 (x1 + (-1)) _ _ I65 (by show -1 ≤ (x1 + (-1)) ∧ (x1 + (-1)) ≤ 52 ∧ (h9 36 7) = (h 36 7) ∧ (h9 1 1) = (h 1 1) ∧ (h9 90 2) = (h 90 2) ∧ (h9 0 10) = (h 0 10) ∧ (h9 0 11) = (h 0 11) ∧ (h9 0 12) = (h 0 12) ∧ (h9 0 13) = (h 0 13) ∧ (h9 3 1) = (h 3 1) ∧ (h9 36 8) = (h 36 8) ∧ (h9 46 3) = (h 46 3) ∧ (h9 46 4) = (h 46 4) ∧ (h9 49 4) = (h 49 4) ∧ (h9 49 5) = (h 49 5) ∧ (h9 64 0) = (h 64 0) ∧ (h9 76 0) = (h 76 0) ∧ (h9 36 8) = 58; omega) (by omega)
                · skip
                  refine ov_blk (ls2 := [(0, ov_r 36), (1, ov_i x1), (2, ov_i x2__), (3, ov_i x3__)]) (st2 := [ov_r 36]) (pc2 := 62) b_125_61_1 rfl rfl ?_
                  refine ov_getf (v := ov_r 58) d_125_62 fl_Goers_46 (zb_36 I10) (zs_36 I10) (congrArg ov_r e12) ?_
                  refine ov_blk (ls2 := [(0, ov_r 36), (1, ov_i x1), (2, ov_i x2__), (3, ov_i x3__)]) (st2 := [ov_i x3__, ov_i x1, ov_r 58]) (pc2 := 67) b_125_65_2 rfl rfl ?_
                  refine ov_cV (as := [ov_i x1, ov_i x3__]) (st := []) (d2 := d - 1) d_125_67 lk_Goers_87 rfl (Nat.le_of_ble_eq_true rfl) (c := 9) (zb_58 I10) (zs_58 I10) ⟨by decide, rfl⟩ (by omega) (c_Town_isOpen_58 (d - 1) (by omega) U I10 x1 x3__ (by omega) (by omega) (by omega)) ?_
                  rintro _ _ _ ⟨v67, rfl, rfl, rfl, f66⟩
                  show ov_R u d ov_m125 70 [(0, ov_r 36), (1, ov_i x1), (2, ov_i x2__), (3, ov_i x3__)] [ov_i v67] z8 h9 (P_Goers_findPeriods_36_k36_8_58 F z h)
                  have f68 : (v67 = 0 ∨ v67 = 1) ∧ (v67 = 1 → (x3__ = 0 ∧ x1 ≤ 52) ∨ (x3__ = 1 ∧ x1 ≤ 47)) := f66
                  clear f66
                  refine ov_ifeq (tgt := 92) d_125_70 (by decide) (by omega) (fun c69 => ?_) (fun c69 => ?_)
                  · skip
                    refine ov_blk (ls2 := [(0, ov_r 36), (1, ov_i x1), (2, ov_i x2__), (3, ov_i (x3__ + 1))]) (st2 := []) (pc2 := 95) b_125_92_1 rfl rfl ?_
                    refine ov_goto (tgt := 56) d_125_95 (by decide) ?_
                    exact ih60 x2__ (x3__ + 1) (by show ov_g x2__ ∧ 0 ≤ (x3__ + 1) ∧ (x3__ + 1) ≤ 2; omega) (by omega)
                  · skip
                    refine ov_blk (ls2 := [(0, ov_r 36), (1, ov_i x1), (2, ov_i x2__), (3, ov_i x3__)]) (st2 := [ov_r 36, ov_i x2__]) (pc2 := 75) b_125_73_2 rfl rfl ?_
                    refine ov_getf (v := ov_r 45) d_125_75 fl_Goers_28 (zb_36 I10) (zs_36 I10) (congrArg ov_r (rg_36_6 I10)) ?_
                    refine ov_blk (ls2 := [(0, ov_r 36), (1, ov_i x1), (2, ov_i x2__), (3, ov_i x3__)]) (st2 := [ov_r 36, ov_r 45, ov_i x2__]) (pc2 := 79) b_125_78_1 rfl rfl ?_
                    refine ov_getf (v := ov_r 58) d_125_79 fl_Goers_46 (zb_36 I10) (zs_36 I10) (congrArg ov_r e12) ?_
                    refine ov_blk (ls2 := [(0, ov_r 36), (1, ov_i x1), (2, ov_i x2__), (3, ov_i x3__)]) (st2 := [ov_i x3__, ov_i x1, ov_r 58, ov_r 45, ov_i x2__]) (pc2 := 84) b_125_82_2 rfl rfl ?_
                    refine ov_cV (as := [ov_i x1, ov_i x3__]) (st := [ov_r 45, ov_i x2__]) (d2 := d - 1) d_125_84 lk_Goers_91 rfl (Nat.le_of_ble_eq_true rfl) (c := 9) (zb_58 I10) (zs_58 I10) ⟨by decide, rfl⟩ (by omega) (c_Town_after_58 (d - 1) (by omega) U I10 x1 x3__ (by omega) (by omega) (by omega)) ?_
                    rintro _ _ _ ⟨v71, rfl, rfl, rfl, f70⟩
                    show ov_R u d ov_m125 87 [(0, ov_r 36), (1, ov_i x1), (2, ov_i x2__), (3, ov_i x3__)] [ov_i v71, ov_r 45, ov_i x2__] z8 h9 (P_Goers_findPeriods_36_k36_8_58 F z h)
                    have f72 : (x3__ = 0 → v71 = x1 + 1) ∧ (¬ x3__ = 0 → v71 = x1 + 6) := f70
                    clear f70
                    refine ov_iald d_125_87 (zb_45 I10) (zs_45 I10) (by omega) ?_
                    have g73 := ra_45 I10 v71
                    refine ov_cSN (as := [ov_i x2__, ov_i (h9 45 v71)]) (st := []) (d2 := d - 1) d_125_88 lk_Goers_95 rfl (Nat.le_of_ble_eq_true rfl) (by omega) (c_OF_commonMultiple (d - 1) (by omega) U I10 x2__ (h9 45 v71) (by omega) (by omega)) ?_
                    rintro _ _ _ ⟨v75, rfl, rfl, rfl, f74⟩
                    show ov_R u d ov_m125 91 [(0, ov_r 36), (1, ov_i x1), (2, ov_i x2__), (3, ov_i x3__)] [ov_i v75] z8 h9 (P_Goers_findPeriods_36_k36_8_58 F z h)
                    have f76 : -2147483648 ≤ v75 ∧ v75 ≤ 2147483647 ∧ (0 ≤ x2__ → x2__ ≤ 1200 → 0 ≤ (h9 45 v71) → (h9 45 v71) ≤ 60 → 0 ≤ v75 ∧ v75 ≤ 72000) := f74
                    clear f74
                    refine ov_blk (ls2 := [(0, ov_r 36), (1, ov_i x1), (2, ov_i v75), (3, ov_i (x3__ + 1))]) (st2 := []) (pc2 := 95) b_125_91_2 rfl rfl ?_
                    refine ov_goto (tgt := 56) d_125_95 (by decide) ?_
                    exact ih60 v75 (x3__ + 1) (by show ov_g v75 ∧ 0 ≤ (x3__ + 1) ∧ (x3__ + 1) ≤ 2; omega) (by omega)
            exact L62 3 (h9 60 x1) 0 (by show ov_g (h9 60 x1) ∧ 0 ≤ 0 ∧ 0 ≤ 2; omega) (by omega)
  exact L7 60 ((h 36 13) - 1) _ _ I2 (by show -1 ≤ ((h 36 13) - 1) ∧ ((h 36 13) - 1) ≤ 52 ∧ (h 36 7) = (h 36 7) ∧ (h 1 1) = (h 1 1) ∧ (h 90 2) = (h 90 2) ∧ (h 0 10) = (h 0 10) ∧ (h 0 11) = (h 0 11) ∧ (h 0 12) = (h 0 12) ∧ (h 0 13) = (h 0 13) ∧ (h 3 1) = (h 3 1) ∧ (h 36 8) = (h 36 8) ∧ (h 46 3) = (h 46 3) ∧ (h 46 4) = (h 46 4) ∧ (h 49 4) = (h 49 4) ∧ (h 49 5) = (h 49 5) ∧ (h 64 0) = (h 64 0) ∧ (h 76 0) = (h 76 0) ∧ (h 36 8) = 58; omega) (by omega)
abbrev P_Goers_ask_36_58 (F : ov_H) (z : ov_Z) (h : ov_H) (kl : Int) (who : Int) (worst : Int) : Option ov_V → ov_Z → ov_H → Prop := fun r0 z' h' => r0 = none ∧ ov_I F z' h' ∧ ((h' 36 8) = 58 ∧ (h' 36 7) = 1 ∧ (h' 1 1) = (h 1 1) ∧ (h' 90 2) = (h 90 2) ∧ (h' 0 10) = (h 0 10) ∧ (h' 0 11) = (h 0 11) ∧ (h' 0 12) = (h 0 12) ∧ (h' 0 13) = (h 0 13) ∧ (h' 3 1) = (h 3 1) ∧ (h' 46 3) = (h 46 3) ∧ (h' 46 4) = (h 46 4) ∧ (h' 49 4) = (h 49 4) ∧ (h' 49 5) = (h 49 5) ∧ (h' 64 0) = (h 64 0) ∧ (h' 76 0) = (h 76 0))
set_option maxHeartbeats 4000000 in
theorem c_Goers_ask_36_58 {u : ov_U} {F : ov_H} {z : ov_Z} {h : ov_H} (d : Nat) (hd : 3 ≤ d) (U : ov_cap u) (I : ov_I F z h) (kl : Int) (who : Int) (worst : Int) (g_who : ov_g who) (g_worst : worst = 0 ∨ worst = 1) (p0 : h 36 7 = 1 → h 36 8 = 58) (p1 : F (-5) 58 = 1) : ov_T u d ov_m123 [ov_r 36, ov_r 58, ov_l kl, ov_i who, ov_i worst] z h (P_Goers_ask_36_58 F z h kl who worst) := by
  refine ov_en rfl (Nat.le_of_ble_eq_true rfl) ?_
  show ov_R u d ov_m123 0 [(0, ov_r 36), (1, ov_r 58), (2, ov_l kl), (4, ov_i who), (5, ov_i worst)] [] z h (P_Goers_ask_36_58 F z h kl who worst)
  have gt := rg_36_8 I
  refine ov_blk (ls2 := [(0, ov_r 36), (1, ov_r 58), (2, ov_l kl), (4, ov_i who), (5, ov_i worst)]) (st2 := [ov_r 36]) (pc2 := 1) b_123_0_1 rfl rfl ?_
  refine ov_getf (v := ov_i (h 36 7)) d_123_1 fl_Goers_31 (zb_36 I) (zs_36 I) rfl ?_
  have g1 := rg_36_7 I
  refine ov_ifeq (tgt := 35) d_123_4 (by decide) (by omega) (fun c2 => ?_) (fun c2 => ?_)
  · skip
    refine ov_blk (ls2 := [(0, ov_r 36), (1, ov_r 58), (2, ov_l kl), (4, ov_i who), (5, ov_i worst)]) (st2 := [ov_i 1, ov_r 36]) (pc2 := 37) b_123_35_2 rfl rfl ?_
    refine ov_putf (x := 1) d_123_37 fl_Goers_31 (zb_36 I) (zs_36 I) rfl (nk_3 (by omega)) rfl ?_
    have I3 := up_36_7 (x := 1) I (by omega)
    refine ov_blk (ls2 := [(0, ov_r 36), (1, ov_r 58), (2, ov_l kl), (4, ov_i who), (5, ov_i worst)]) (st2 := [ov_r 58, ov_r 36]) (pc2 := 42) b_123_40_2 rfl rfl ?_
    refine ov_putf (x := 58) d_123_42 fl_Goers_46 (zb_36 I3) (zs_36 I3) rfl nk_2 rfl ?_
    have I4 := up_36_8 (x := 58) I3 (by omega)
    refine ov_blk (ls2 := [(0, ov_r 36), (1, ov_r 58), (2, ov_l kl), (4, ov_i who), (5, ov_i worst)]) (st2 := [ov_l kl, ov_r 36]) (pc2 := 47) b_123_45_2 rfl rfl ?_
    refine ov_putf (x := kl) d_123_47 fl_Goers_35 (zb_36 I4) (zs_36 I4) rfl nk_1 rfl ?_
    have I5 := up_36_9 (x := kl) I4
    refine ov_blk (ls2 := [(0, ov_r 36), (1, ov_r 58), (2, ov_l kl), (4, ov_i who), (5, ov_i worst)]) (st2 := [ov_i who, ov_r 36]) (pc2 := 53) b_123_50_2 rfl rfl ?_
    refine ov_putf (x := who) d_123_53 fl_Goers_39 (zb_36 I5) (zs_36 I5) rfl nk_0 rfl ?_
    have I6 := up_36_10 (x := who) I5 (by omega)
    refine ov_blk (ls2 := [(0, ov_r 36), (1, ov_r 58), (2, ov_l kl), (4, ov_i who), (5, ov_i worst)]) (st2 := [ov_i worst, ov_r 36]) (pc2 := 59) b_123_56_2 rfl rfl ?_
    refine ov_putf (x := worst) d_123_59 fl_Goers_43 (zb_36 I6) (zs_36 I6) rfl (nk_3 (by omega)) rfl ?_
    have I7 := up_36_11 (x := worst) I6 (by omega)
    refine ov_blk (ls2 := [(0, ov_r 36), (1, ov_r 58), (2, ov_l kl), (4, ov_i who), (5, ov_i worst)]) (st2 := [ov_i worst, ov_r 36]) (pc2 := 65) b_123_62_2 rfl rfl ?_
    refine ov_ifeq (tgt := 72) d_123_65 (by decide) (by omega) (fun c8 => ?_) (fun c8 => ?_)
    · skip
      refine ov_blk (ls2 := [(0, ov_r 36), (1, ov_r 58), (2, ov_l kl), (4, ov_i who), (5, ov_i worst)]) (st2 := [ov_i 1000, ov_r 36]) (pc2 := 75) b_123_72_1 rfl rfl ?_
      refine ov_putf (x := 1000) d_123_75 fl_Goers_50 (zb_36 I7) (zs_36 I7) rfl nk_0 rfl ?_
      have I9 := up_36_12 (x := 1000) I7 (by omega)
      refine ov_blk (ls2 := [(0, ov_r 36), (1, ov_r 58), (2, ov_l kl), (4, ov_i who), (5, ov_i worst)]) (st2 := [ov_r 36, ov_r 36]) (pc2 := 80) b_123_78_2 rfl rfl ?_
      refine ov_getf (v := ov_r 58) d_123_80 fl_Goers_46 (zb_36 I9) (zs_36 I9) rfl ?_
      refine ov_cV (as := []) (st := [ov_r 36]) (d2 := d - 1) d_123_83 lk_Goers_53 rfl (Nat.le_of_ble_eq_true rfl) (c := 9) (zb_58 I9) (zs_58 I9) ⟨by decide, rfl⟩ (by omega) (c_Town_home_58 (d - 1) (by omega) U I9 (by omega)) ?_
      rintro _ _ _ ⟨v11, rfl, rfl, rfl, f10⟩
      show ov_R u d ov_m123 86 [(0, ov_r 36), (1, ov_r 58), (2, ov_l kl), (4, ov_i who), (5, ov_i worst)] [ov_i v11, ov_r 36] z (ov_up (ov_up (ov_up (ov_up (ov_up (ov_up h 36 7 1) 36 8 58) 36 9 kl) 36 10 who) 36 11 worst) 36 12 1000) (P_Goers_ask_36_58 F z h kl who worst)
      have f12 : v11 = ((h 58 1) - 1) * 6 + (h 58 0) - 1 ∧ 0 ≤ v11 ∧ v11 ≤ 53 := f10
      clear f10
      refine ov_putf (x := v11) d_123_86 fl_Goers_59 (zb_36 I9) (zs_36 I9) rfl nk_0 rfl ?_
      have I13 := up_36_13 (x := v11) I9 (by omega)
      refine ov_blk (ls2 := [(0, ov_r 36), (1, ov_r 58), (2, ov_l kl), (4, ov_i who), (5, ov_i worst)]) (st2 := [ov_r 36, ov_r 36]) (pc2 := 91) b_123_89_2 rfl rfl ?_
      refine ov_getf (v := ov_r 58) d_123_91 fl_Goers_46 (zb_36 I13) (zs_36 I13) rfl ?_
      refine ov_getf (v := ov_r 64) d_123_94 fl_Goers_61 (zb_58 I13) (zs_58 I13) (congrArg ov_r (rg_58_7 I13)) ?_
      refine ov_blk (ls2 := [(0, ov_r 36), (1, ov_r 58), (2, ov_l kl), (4, ov_i who), (5, ov_i worst)]) (st2 := [ov_i 0, ov_r 64, ov_r 36]) (pc2 := 98) b_123_97_1 rfl rfl ?_
      refine ov_iald d_123_98 (zb_64 I13) (zs_64 I13) (by omega) ?_
      show ov_R u d ov_m123 99 [(0, ov_r 36), (1, ov_r 58), (2, ov_l kl), (4, ov_i who), (5, ov_i worst)] [ov_i (h 64 0), ov_r 36] z (ov_up (ov_up (ov_up (ov_up (ov_up (ov_up (ov_up h 36 7 1) 36 8 58) 36 9 kl) 36 10 who) 36 11 worst) 36 12 1000) 36 13 v11) (P_Goers_ask_36_58 F z h kl who worst)
      have g14 := ra_64 I 0
      refine ov_putf (x := (h 64 0)) d_123_99 fl_Goers_64 (zb_36 I13) (zs_36 I13) rfl nk_0 rfl ?_
      have I15 := up_36_14 (x := (h 64 0)) I13 (by omega)
      refine ov_blk (ls2 := [(0, ov_r 36), (1, ov_r 58), (2, ov_l kl), (4, ov_i who), (5, ov_i worst)]) (st2 := [ov_r 36]) (pc2 := 103) b_123_102_1 rfl rfl ?_
      refine ov_getf (v := ov_r 37) d_123_103 fl_Goers_12 (zb_36 I15) (zs_36 I15) (congrArg ov_r (rg_36_2 I15)) ?_
      refine ov_blk (ls2 := [(0, ov_r 36), (1, ov_r 58), (2, ov_l kl), (4, ov_i who), (5, ov_i worst)]) (st2 := [ov_r 36, ov_r 37]) (pc2 := 107) b_123_106_1 rfl rfl ?_
      refine ov_getf (v := ov_i v11) d_123_107 fl_Goers_59 (zb_36 I15) (zs_36 I15) rfl ?_
      refine ov_blk (ls2 := [(0, ov_r 36), (1, ov_r 58), (2, ov_l kl), (4, ov_i who), (5, ov_i worst)]) (st2 := [ov_r 36, ov_i (v11 + 1), ov_r 37]) (pc2 := 113) b_123_110_3 rfl rfl ?_
      refine ov_getf (v := ov_r 58) d_123_113 fl_Goers_46 (zb_36 I15) (zs_36 I15) rfl ?_
      refine ov_getf (v := ov_i (h 58 10)) d_123_116 fl_Goers_67 (zb_58 I15) (zs_58 I15) rfl ?_
      have g16 := rg_58_10 I
      have fm := ov_mulb (q := (v11 + 1)) (b := (h 58 10)) (A := 54) (B := 1200) (by omega) (by omega) (by omega) (by omega)
      refine ov_blk (ls2 := [(0, ov_r 36), (1, ov_r 58), (2, ov_l kl), (4, ov_i who), (5, ov_i worst)]) (st2 := [ov_i ((v11 + 1) * (h 58 10)), ov_r 37]) (pc2 := 120) b_123_119_1 rfl rfl ?_
      refine ov_cV (as := [ov_i ((v11 + 1) * (h 58 10))]) (st := []) (d2 := d - 1) d_123_120 lk_Goers_70 rfl (Nat.le_of_ble_eq_true rfl) (c := 4) (zb_37 I15) (zs_37 I15) ⟨by decide, rfl⟩ (by omega) (c_Memo_clear_37 (d - 1) (by omega) U I15 ((v11 + 1) * (h 58 10)) (by omega) (by omega)) ?_
      rintro _ z18 h19 ⟨rfl, I20, f17⟩
      show ov_R u d ov_m123 123 [(0, ov_r 36), (1, ov_r 58), (2, ov_l kl), (4, ov_i who), (5, ov_i worst)] [] z18 h19 (P_Goers_ask_36_58 F z h kl who worst)
      have f21 : (h19 36 7) = 1 ∧ (h19 1 1) = (h 1 1) ∧ (h19 90 2) = (h 90 2) ∧ (h19 0 10) = (h 0 10) ∧ (h19 0 11) = (h 0 11) ∧ (h19 0 12) = (h 0 12) ∧ (h19 0 13) = (h 0 13) ∧ (h19 3 1) = (h 3 1) ∧ (h19 36 8) = 58 ∧ (h19 46 3) = (h 46 3) ∧ (h19 46 4) = (h 46 4) ∧ (h19 49 4) = (h 49 4) ∧ (h19 49 5) = (h 49 5) ∧ (h19 64 0) = (h 64 0) ∧ (h19 76 0) = (h 76 0) := f17
      clear f17
      have e22 : h19 36 7 = 1 := by omega
      have e23 : h19 36 8 = 58 := by omega
      refine ov_blk (ls2 := [(0, ov_r 36), (1, ov_r 58), (2, ov_l kl), (4, ov_i who), (5, ov_i worst)]) (st2 := [ov_r 36]) (pc2 := 124) b_123_123_1 rfl rfl ?_
      refine ov_cV (as := []) (st := []) (d2 := d - 1) d_123_124 lk_Goers_74 rfl (Nat.le_of_ble_eq_true rfl) (c := 2) (zb_36 I20) (zs_36 I20) ⟨by decide, rfl⟩ (by omega) (c_Goers_findPeriods_36_k36_8_58 (d - 1) (by omega) U I20 e23) ?_
      rintro _ z25 h26 ⟨rfl, I27, f24⟩
      show ov_R u d ov_m123 127 [(0, ov_r 36), (1, ov_r 58), (2, ov_l kl), (4, ov_i who), (5, ov_i worst)] [] z25 h26 (P_Goers_ask_36_58 F z h kl who worst)
      have f28 : (h26 36 7) = (h19 36 7) ∧ (h26 1 1) = (h19 1 1) ∧ (h26 90 2) = (h19 90 2) ∧ (h26 0 10) = (h19 0 10) ∧ (h26 0 11) = (h19 0 11) ∧ (h26 0 12) = (h19 0 12) ∧ (h26 0 13) = (h19 0 13) ∧ (h26 3 1) = (h19 3 1) ∧ (h26 36 8) = (h19 36 8) ∧ (h26 46 3) = (h19 46 3) ∧ (h26 46 4) = (h19 46 4) ∧ (h26 49 4) = (h19 49 4) ∧ (h26 49 5) = (h19 49 5) ∧ (h26 64 0) = (h19 64 0) ∧ (h26 76 0) = (h19 76 0) := f24
      clear f24
      have e29 : h26 36 7 = 1 := by omega
      have e30 : h26 36 8 = 58 := by omega
      exact ov_retv (st := []) d_123_127 rfl ⟨rfl, I27, (by show (h26 36 8) = 58 ∧ (h26 36 7) = 1 ∧ (h26 1 1) = (h 1 1) ∧ (h26 90 2) = (h 90 2) ∧ (h26 0 10) = (h 0 10) ∧ (h26 0 11) = (h 0 11) ∧ (h26 0 12) = (h 0 12) ∧ (h26 0 13) = (h 0 13) ∧ (h26 3 1) = (h 3 1) ∧ (h26 46 3) = (h 46 3) ∧ (h26 46 4) = (h 46 4) ∧ (h26 49 4) = (h 49 4) ∧ (h26 49 5) = (h 49 5) ∧ (h26 64 0) = (h 64 0) ∧ (h26 76 0) = (h 76 0); omega)⟩
    · skip
      refine ov_blk (ls2 := [(0, ov_r 36), (1, ov_r 58), (2, ov_l kl), (4, ov_i who), (5, ov_i worst)]) (st2 := [ov_i 1, ov_r 36]) (pc2 := 69) b_123_68_1 rfl rfl ?_
      refine ov_goto (tgt := 75) d_123_69 (by decide) ?_
      refine ov_putf (x := 1) d_123_75 fl_Goers_50 (zb_36 I7) (zs_36 I7) rfl nk_0 rfl ?_
      have I31 := up_36_12 (x := 1) I7 (by omega)
      refine ov_blk (ls2 := [(0, ov_r 36), (1, ov_r 58), (2, ov_l kl), (4, ov_i who), (5, ov_i worst)]) (st2 := [ov_r 36, ov_r 36]) (pc2 := 80) b_123_78_2 rfl rfl ?_
      refine ov_getf (v := ov_r 58) d_123_80 fl_Goers_46 (zb_36 I31) (zs_36 I31) rfl ?_
      refine ov_cV (as := []) (st := [ov_r 36]) (d2 := d - 1) d_123_83 lk_Goers_53 rfl (Nat.le_of_ble_eq_true rfl) (c := 9) (zb_58 I31) (zs_58 I31) ⟨by decide, rfl⟩ (by omega) (c_Town_home_58 (d - 1) (by omega) U I31 (by omega)) ?_
      rintro _ _ _ ⟨v33, rfl, rfl, rfl, f32⟩
      show ov_R u d ov_m123 86 [(0, ov_r 36), (1, ov_r 58), (2, ov_l kl), (4, ov_i who), (5, ov_i worst)] [ov_i v33, ov_r 36] z (ov_up (ov_up (ov_up (ov_up (ov_up (ov_up h 36 7 1) 36 8 58) 36 9 kl) 36 10 who) 36 11 worst) 36 12 1) (P_Goers_ask_36_58 F z h kl who worst)
      have f34 : v33 = ((h 58 1) - 1) * 6 + (h 58 0) - 1 ∧ 0 ≤ v33 ∧ v33 ≤ 53 := f32
      clear f32
      refine ov_putf (x := v33) d_123_86 fl_Goers_59 (zb_36 I31) (zs_36 I31) rfl nk_0 rfl ?_
      have I35 := up_36_13 (x := v33) I31 (by omega)
      refine ov_blk (ls2 := [(0, ov_r 36), (1, ov_r 58), (2, ov_l kl), (4, ov_i who), (5, ov_i worst)]) (st2 := [ov_r 36, ov_r 36]) (pc2 := 91) b_123_89_2 rfl rfl ?_
      refine ov_getf (v := ov_r 58) d_123_91 fl_Goers_46 (zb_36 I35) (zs_36 I35) rfl ?_
      refine ov_getf (v := ov_r 64) d_123_94 fl_Goers_61 (zb_58 I35) (zs_58 I35) (congrArg ov_r (rg_58_7 I35)) ?_
      refine ov_blk (ls2 := [(0, ov_r 36), (1, ov_r 58), (2, ov_l kl), (4, ov_i who), (5, ov_i worst)]) (st2 := [ov_i 0, ov_r 64, ov_r 36]) (pc2 := 98) b_123_97_1 rfl rfl ?_
      refine ov_iald d_123_98 (zb_64 I35) (zs_64 I35) (by omega) ?_
      show ov_R u d ov_m123 99 [(0, ov_r 36), (1, ov_r 58), (2, ov_l kl), (4, ov_i who), (5, ov_i worst)] [ov_i (h 64 0), ov_r 36] z (ov_up (ov_up (ov_up (ov_up (ov_up (ov_up (ov_up h 36 7 1) 36 8 58) 36 9 kl) 36 10 who) 36 11 worst) 36 12 1) 36 13 v33) (P_Goers_ask_36_58 F z h kl who worst)
      have g36 := ra_64 I 0
      refine ov_putf (x := (h 64 0)) d_123_99 fl_Goers_64 (zb_36 I35) (zs_36 I35) rfl nk_0 rfl ?_
      have I37 := up_36_14 (x := (h 64 0)) I35 (by omega)
      refine ov_blk (ls2 := [(0, ov_r 36), (1, ov_r 58), (2, ov_l kl), (4, ov_i who), (5, ov_i worst)]) (st2 := [ov_r 36]) (pc2 := 103) b_123_102_1 rfl rfl ?_
      refine ov_getf (v := ov_r 37) d_123_103 fl_Goers_12 (zb_36 I37) (zs_36 I37) (congrArg ov_r (rg_36_2 I37)) ?_
      refine ov_blk (ls2 := [(0, ov_r 36), (1, ov_r 58), (2, ov_l kl), (4, ov_i who), (5, ov_i worst)]) (st2 := [ov_r 36, ov_r 37]) (pc2 := 107) b_123_106_1 rfl rfl ?_
      refine ov_getf (v := ov_i v33) d_123_107 fl_Goers_59 (zb_36 I37) (zs_36 I37) rfl ?_
      refine ov_blk (ls2 := [(0, ov_r 36), (1, ov_r 58), (2, ov_l kl), (4, ov_i who), (5, ov_i worst)]) (st2 := [ov_r 36, ov_i (v33 + 1), ov_r 37]) (pc2 := 113) b_123_110_3 rfl rfl ?_
      refine ov_getf (v := ov_r 58) d_123_113 fl_Goers_46 (zb_36 I37) (zs_36 I37) rfl ?_
      refine ov_getf (v := ov_i (h 58 10)) d_123_116 fl_Goers_67 (zb_58 I37) (zs_58 I37) rfl ?_
      have g38 := rg_58_10 I
      have fm := ov_mulb (q := (v33 + 1)) (b := (h 58 10)) (A := 54) (B := 1200) (by omega) (by omega) (by omega) (by omega)
      refine ov_blk (ls2 := [(0, ov_r 36), (1, ov_r 58), (2, ov_l kl), (4, ov_i who), (5, ov_i worst)]) (st2 := [ov_i ((v33 + 1) * (h 58 10)), ov_r 37]) (pc2 := 120) b_123_119_1 rfl rfl ?_
      refine ov_cV (as := [ov_i ((v33 + 1) * (h 58 10))]) (st := []) (d2 := d - 1) d_123_120 lk_Goers_70 rfl (Nat.le_of_ble_eq_true rfl) (c := 4) (zb_37 I37) (zs_37 I37) ⟨by decide, rfl⟩ (by omega) (c_Memo_clear_37 (d - 1) (by omega) U I37 ((v33 + 1) * (h 58 10)) (by omega) (by omega)) ?_
      rintro _ z40 h41 ⟨rfl, I42, f39⟩
      show ov_R u d ov_m123 123 [(0, ov_r 36), (1, ov_r 58), (2, ov_l kl), (4, ov_i who), (5, ov_i worst)] [] z40 h41 (P_Goers_ask_36_58 F z h kl who worst)
      have f43 : (h41 36 7) = 1 ∧ (h41 1 1) = (h 1 1) ∧ (h41 90 2) = (h 90 2) ∧ (h41 0 10) = (h 0 10) ∧ (h41 0 11) = (h 0 11) ∧ (h41 0 12) = (h 0 12) ∧ (h41 0 13) = (h 0 13) ∧ (h41 3 1) = (h 3 1) ∧ (h41 36 8) = 58 ∧ (h41 46 3) = (h 46 3) ∧ (h41 46 4) = (h 46 4) ∧ (h41 49 4) = (h 49 4) ∧ (h41 49 5) = (h 49 5) ∧ (h41 64 0) = (h 64 0) ∧ (h41 76 0) = (h 76 0) := f39
      clear f39
      have e44 : h41 36 7 = 1 := by omega
      have e45 : h41 36 8 = 58 := by omega
      refine ov_blk (ls2 := [(0, ov_r 36), (1, ov_r 58), (2, ov_l kl), (4, ov_i who), (5, ov_i worst)]) (st2 := [ov_r 36]) (pc2 := 124) b_123_123_1 rfl rfl ?_
      refine ov_cV (as := []) (st := []) (d2 := d - 1) d_123_124 lk_Goers_74 rfl (Nat.le_of_ble_eq_true rfl) (c := 2) (zb_36 I42) (zs_36 I42) ⟨by decide, rfl⟩ (by omega) (c_Goers_findPeriods_36_k36_8_58 (d - 1) (by omega) U I42 e45) ?_
      rintro _ z47 h48 ⟨rfl, I49, f46⟩
      show ov_R u d ov_m123 127 [(0, ov_r 36), (1, ov_r 58), (2, ov_l kl), (4, ov_i who), (5, ov_i worst)] [] z47 h48 (P_Goers_ask_36_58 F z h kl who worst)
      have f50 : (h48 36 7) = (h41 36 7) ∧ (h48 1 1) = (h41 1 1) ∧ (h48 90 2) = (h41 90 2) ∧ (h48 0 10) = (h41 0 10) ∧ (h48 0 11) = (h41 0 11) ∧ (h48 0 12) = (h41 0 12) ∧ (h48 0 13) = (h41 0 13) ∧ (h48 3 1) = (h41 3 1) ∧ (h48 36 8) = (h41 36 8) ∧ (h48 46 3) = (h41 46 3) ∧ (h48 46 4) = (h41 46 4) ∧ (h48 49 4) = (h41 49 4) ∧ (h48 49 5) = (h41 49 5) ∧ (h48 64 0) = (h41 64 0) ∧ (h48 76 0) = (h41 76 0) := f46
      clear f46
      have e51 : h48 36 7 = 1 := by omega
      have e52 : h48 36 8 = 58 := by omega
      exact ov_retv (st := []) d_123_127 rfl ⟨rfl, I49, (by show (h48 36 8) = 58 ∧ (h48 36 7) = 1 ∧ (h48 1 1) = (h 1 1) ∧ (h48 90 2) = (h 90 2) ∧ (h48 0 10) = (h 0 10) ∧ (h48 0 11) = (h 0 11) ∧ (h48 0 12) = (h 0 12) ∧ (h48 0 13) = (h 0 13) ∧ (h48 3 1) = (h 3 1) ∧ (h48 46 3) = (h 46 3) ∧ (h48 46 4) = (h 46 4) ∧ (h48 49 4) = (h 49 4) ∧ (h48 49 5) = (h 49 5) ∧ (h48 64 0) = (h 64 0) ∧ (h48 76 0) = (h 76 0); omega)⟩
  · skip
    refine ov_blk (ls2 := [(0, ov_r 36), (1, ov_r 58), (2, ov_l kl), (4, ov_i who), (5, ov_i worst)]) (st2 := [ov_r 36, ov_l kl]) (pc2 := 9) b_123_7_2 rfl rfl ?_
    refine ov_getf (v := ov_l (h 36 9)) d_123_9 fl_Goers_35 (zb_36 I) (zs_36 I) rfl ?_
    refine ov_blk (ls2 := [(0, ov_r 36), (1, ov_r 58), (2, ov_l kl), (4, ov_i who), (5, ov_i worst)]) (st2 := [ov_i (ov_lcmp kl (h 36 9))]) (pc2 := 13) b_123_12_1 rfl rfl ?_
    have g53 := ov_lcg kl (h 36 9)
    refine ov_ifne (tgt := 35) d_123_13 (by decide) (by omega) (fun c54 => ?_) (fun c54 => ?_)
    · skip
      refine ov_blk (ls2 := [(0, ov_r 36), (1, ov_r 58), (2, ov_l kl), (4, ov_i who), (5, ov_i worst)]) (st2 := [ov_i 1, ov_r 36]) (pc2 := 37) b_123_35_2 rfl rfl ?_
      refine ov_putf (x := 1) d_123_37 fl_Goers_31 (zb_36 I) (zs_36 I) rfl (nk_3 (by omega)) rfl ?_
      have I55 := up_36_7 (x := 1) I (by omega)
      refine ov_blk (ls2 := [(0, ov_r 36), (1, ov_r 58), (2, ov_l kl), (4, ov_i who), (5, ov_i worst)]) (st2 := [ov_r 58, ov_r 36]) (pc2 := 42) b_123_40_2 rfl rfl ?_
      refine ov_putf (x := 58) d_123_42 fl_Goers_46 (zb_36 I55) (zs_36 I55) rfl nk_2 rfl ?_
      have I56 := up_36_8 (x := 58) I55 (by omega)
      refine ov_blk (ls2 := [(0, ov_r 36), (1, ov_r 58), (2, ov_l kl), (4, ov_i who), (5, ov_i worst)]) (st2 := [ov_l kl, ov_r 36]) (pc2 := 47) b_123_45_2 rfl rfl ?_
      refine ov_putf (x := kl) d_123_47 fl_Goers_35 (zb_36 I56) (zs_36 I56) rfl nk_1 rfl ?_
      have I57 := up_36_9 (x := kl) I56
      refine ov_blk (ls2 := [(0, ov_r 36), (1, ov_r 58), (2, ov_l kl), (4, ov_i who), (5, ov_i worst)]) (st2 := [ov_i who, ov_r 36]) (pc2 := 53) b_123_50_2 rfl rfl ?_
      refine ov_putf (x := who) d_123_53 fl_Goers_39 (zb_36 I57) (zs_36 I57) rfl nk_0 rfl ?_
      have I58 := up_36_10 (x := who) I57 (by omega)
      refine ov_blk (ls2 := [(0, ov_r 36), (1, ov_r 58), (2, ov_l kl), (4, ov_i who), (5, ov_i worst)]) (st2 := [ov_i worst, ov_r 36]) (pc2 := 59) b_123_56_2 rfl rfl ?_
      refine ov_putf (x := worst) d_123_59 fl_Goers_43 (zb_36 I58) (zs_36 I58) rfl (nk_3 (by omega)) rfl ?_
      have I59 := up_36_11 (x := worst) I58 (by omega)
      refine ov_blk (ls2 := [(0, ov_r 36), (1, ov_r 58), (2, ov_l kl), (4, ov_i who), (5, ov_i worst)]) (st2 := [ov_i worst, ov_r 36]) (pc2 := 65) b_123_62_2 rfl rfl ?_
      refine ov_ifeq (tgt := 72) d_123_65 (by decide) (by omega) (fun c60 => ?_) (fun c60 => ?_)
      · skip
        refine ov_blk (ls2 := [(0, ov_r 36), (1, ov_r 58), (2, ov_l kl), (4, ov_i who), (5, ov_i worst)]) (st2 := [ov_i 1000, ov_r 36]) (pc2 := 75) b_123_72_1 rfl rfl ?_
        refine ov_putf (x := 1000) d_123_75 fl_Goers_50 (zb_36 I59) (zs_36 I59) rfl nk_0 rfl ?_
        have I61 := up_36_12 (x := 1000) I59 (by omega)
        refine ov_blk (ls2 := [(0, ov_r 36), (1, ov_r 58), (2, ov_l kl), (4, ov_i who), (5, ov_i worst)]) (st2 := [ov_r 36, ov_r 36]) (pc2 := 80) b_123_78_2 rfl rfl ?_
        refine ov_getf (v := ov_r 58) d_123_80 fl_Goers_46 (zb_36 I61) (zs_36 I61) rfl ?_
        refine ov_cV (as := []) (st := [ov_r 36]) (d2 := d - 1) d_123_83 lk_Goers_53 rfl (Nat.le_of_ble_eq_true rfl) (c := 9) (zb_58 I61) (zs_58 I61) ⟨by decide, rfl⟩ (by omega) (c_Town_home_58 (d - 1) (by omega) U I61 (by omega)) ?_
        rintro _ _ _ ⟨v63, rfl, rfl, rfl, f62⟩
        show ov_R u d ov_m123 86 [(0, ov_r 36), (1, ov_r 58), (2, ov_l kl), (4, ov_i who), (5, ov_i worst)] [ov_i v63, ov_r 36] z (ov_up (ov_up (ov_up (ov_up (ov_up (ov_up h 36 7 1) 36 8 58) 36 9 kl) 36 10 who) 36 11 worst) 36 12 1000) (P_Goers_ask_36_58 F z h kl who worst)
        have f64 : v63 = ((h 58 1) - 1) * 6 + (h 58 0) - 1 ∧ 0 ≤ v63 ∧ v63 ≤ 53 := f62
        clear f62
        refine ov_putf (x := v63) d_123_86 fl_Goers_59 (zb_36 I61) (zs_36 I61) rfl nk_0 rfl ?_
        have I65 := up_36_13 (x := v63) I61 (by omega)
        refine ov_blk (ls2 := [(0, ov_r 36), (1, ov_r 58), (2, ov_l kl), (4, ov_i who), (5, ov_i worst)]) (st2 := [ov_r 36, ov_r 36]) (pc2 := 91) b_123_89_2 rfl rfl ?_
        refine ov_getf (v := ov_r 58) d_123_91 fl_Goers_46 (zb_36 I65) (zs_36 I65) rfl ?_
        refine ov_getf (v := ov_r 64) d_123_94 fl_Goers_61 (zb_58 I65) (zs_58 I65) (congrArg ov_r (rg_58_7 I65)) ?_
        refine ov_blk (ls2 := [(0, ov_r 36), (1, ov_r 58), (2, ov_l kl), (4, ov_i who), (5, ov_i worst)]) (st2 := [ov_i 0, ov_r 64, ov_r 36]) (pc2 := 98) b_123_97_1 rfl rfl ?_
        refine ov_iald d_123_98 (zb_64 I65) (zs_64 I65) (by omega) ?_
        show ov_R u d ov_m123 99 [(0, ov_r 36), (1, ov_r 58), (2, ov_l kl), (4, ov_i who), (5, ov_i worst)] [ov_i (h 64 0), ov_r 36] z (ov_up (ov_up (ov_up (ov_up (ov_up (ov_up (ov_up h 36 7 1) 36 8 58) 36 9 kl) 36 10 who) 36 11 worst) 36 12 1000) 36 13 v63) (P_Goers_ask_36_58 F z h kl who worst)
        have g66 := ra_64 I 0
        refine ov_putf (x := (h 64 0)) d_123_99 fl_Goers_64 (zb_36 I65) (zs_36 I65) rfl nk_0 rfl ?_
        have I67 := up_36_14 (x := (h 64 0)) I65 (by omega)
        refine ov_blk (ls2 := [(0, ov_r 36), (1, ov_r 58), (2, ov_l kl), (4, ov_i who), (5, ov_i worst)]) (st2 := [ov_r 36]) (pc2 := 103) b_123_102_1 rfl rfl ?_
        refine ov_getf (v := ov_r 37) d_123_103 fl_Goers_12 (zb_36 I67) (zs_36 I67) (congrArg ov_r (rg_36_2 I67)) ?_
        refine ov_blk (ls2 := [(0, ov_r 36), (1, ov_r 58), (2, ov_l kl), (4, ov_i who), (5, ov_i worst)]) (st2 := [ov_r 36, ov_r 37]) (pc2 := 107) b_123_106_1 rfl rfl ?_
        refine ov_getf (v := ov_i v63) d_123_107 fl_Goers_59 (zb_36 I67) (zs_36 I67) rfl ?_
        refine ov_blk (ls2 := [(0, ov_r 36), (1, ov_r 58), (2, ov_l kl), (4, ov_i who), (5, ov_i worst)]) (st2 := [ov_r 36, ov_i (v63 + 1), ov_r 37]) (pc2 := 113) b_123_110_3 rfl rfl ?_
        refine ov_getf (v := ov_r 58) d_123_113 fl_Goers_46 (zb_36 I67) (zs_36 I67) rfl ?_
        refine ov_getf (v := ov_i (h 58 10)) d_123_116 fl_Goers_67 (zb_58 I67) (zs_58 I67) rfl ?_
        have g68 := rg_58_10 I
        have fm := ov_mulb (q := (v63 + 1)) (b := (h 58 10)) (A := 54) (B := 1200) (by omega) (by omega) (by omega) (by omega)
        refine ov_blk (ls2 := [(0, ov_r 36), (1, ov_r 58), (2, ov_l kl), (4, ov_i who), (5, ov_i worst)]) (st2 := [ov_i ((v63 + 1) * (h 58 10)), ov_r 37]) (pc2 := 120) b_123_119_1 rfl rfl ?_
        refine ov_cV (as := [ov_i ((v63 + 1) * (h 58 10))]) (st := []) (d2 := d - 1) d_123_120 lk_Goers_70 rfl (Nat.le_of_ble_eq_true rfl) (c := 4) (zb_37 I67) (zs_37 I67) ⟨by decide, rfl⟩ (by omega) (c_Memo_clear_37 (d - 1) (by omega) U I67 ((v63 + 1) * (h 58 10)) (by omega) (by omega)) ?_
        rintro _ z70 h71 ⟨rfl, I72, f69⟩
        show ov_R u d ov_m123 123 [(0, ov_r 36), (1, ov_r 58), (2, ov_l kl), (4, ov_i who), (5, ov_i worst)] [] z70 h71 (P_Goers_ask_36_58 F z h kl who worst)
        have f73 : (h71 36 7) = 1 ∧ (h71 1 1) = (h 1 1) ∧ (h71 90 2) = (h 90 2) ∧ (h71 0 10) = (h 0 10) ∧ (h71 0 11) = (h 0 11) ∧ (h71 0 12) = (h 0 12) ∧ (h71 0 13) = (h 0 13) ∧ (h71 3 1) = (h 3 1) ∧ (h71 36 8) = 58 ∧ (h71 46 3) = (h 46 3) ∧ (h71 46 4) = (h 46 4) ∧ (h71 49 4) = (h 49 4) ∧ (h71 49 5) = (h 49 5) ∧ (h71 64 0) = (h 64 0) ∧ (h71 76 0) = (h 76 0) := f69
        clear f69
        have e74 : h71 36 7 = 1 := by omega
        have e75 : h71 36 8 = 58 := by omega
        refine ov_blk (ls2 := [(0, ov_r 36), (1, ov_r 58), (2, ov_l kl), (4, ov_i who), (5, ov_i worst)]) (st2 := [ov_r 36]) (pc2 := 124) b_123_123_1 rfl rfl ?_
        refine ov_cV (as := []) (st := []) (d2 := d - 1) d_123_124 lk_Goers_74 rfl (Nat.le_of_ble_eq_true rfl) (c := 2) (zb_36 I72) (zs_36 I72) ⟨by decide, rfl⟩ (by omega) (c_Goers_findPeriods_36_k36_8_58 (d - 1) (by omega) U I72 e75) ?_
        rintro _ z77 h78 ⟨rfl, I79, f76⟩
        show ov_R u d ov_m123 127 [(0, ov_r 36), (1, ov_r 58), (2, ov_l kl), (4, ov_i who), (5, ov_i worst)] [] z77 h78 (P_Goers_ask_36_58 F z h kl who worst)
        have f80 : (h78 36 7) = (h71 36 7) ∧ (h78 1 1) = (h71 1 1) ∧ (h78 90 2) = (h71 90 2) ∧ (h78 0 10) = (h71 0 10) ∧ (h78 0 11) = (h71 0 11) ∧ (h78 0 12) = (h71 0 12) ∧ (h78 0 13) = (h71 0 13) ∧ (h78 3 1) = (h71 3 1) ∧ (h78 36 8) = (h71 36 8) ∧ (h78 46 3) = (h71 46 3) ∧ (h78 46 4) = (h71 46 4) ∧ (h78 49 4) = (h71 49 4) ∧ (h78 49 5) = (h71 49 5) ∧ (h78 64 0) = (h71 64 0) ∧ (h78 76 0) = (h71 76 0) := f76
        clear f76
        have e81 : h78 36 7 = 1 := by omega
        have e82 : h78 36 8 = 58 := by omega
        exact ov_retv (st := []) d_123_127 rfl ⟨rfl, I79, (by show (h78 36 8) = 58 ∧ (h78 36 7) = 1 ∧ (h78 1 1) = (h 1 1) ∧ (h78 90 2) = (h 90 2) ∧ (h78 0 10) = (h 0 10) ∧ (h78 0 11) = (h 0 11) ∧ (h78 0 12) = (h 0 12) ∧ (h78 0 13) = (h 0 13) ∧ (h78 3 1) = (h 3 1) ∧ (h78 46 3) = (h 46 3) ∧ (h78 46 4) = (h 46 4) ∧ (h78 49 4) = (h 49 4) ∧ (h78 49 5) = (h 49 5) ∧ (h78 64 0) = (h 64 0) ∧ (h78 76 0) = (h 76 0); omega)⟩
      · skip
        refine ov_blk (ls2 := [(0, ov_r 36), (1, ov_r 58), (2, ov_l kl), (4, ov_i who), (5, ov_i worst)]) (st2 := [ov_i 1, ov_r 36]) (pc2 := 69) b_123_68_1 rfl rfl ?_
        refine ov_goto (tgt := 75) d_123_69 (by decide) ?_
        refine ov_putf (x := 1) d_123_75 fl_Goers_50 (zb_36 I59) (zs_36 I59) rfl nk_0 rfl ?_
        have I83 := up_36_12 (x := 1) I59 (by omega)
        refine ov_blk (ls2 := [(0, ov_r 36), (1, ov_r 58), (2, ov_l kl), (4, ov_i who), (5, ov_i worst)]) (st2 := [ov_r 36, ov_r 36]) (pc2 := 80) b_123_78_2 rfl rfl ?_
        refine ov_getf (v := ov_r 58) d_123_80 fl_Goers_46 (zb_36 I83) (zs_36 I83) rfl ?_
        refine ov_cV (as := []) (st := [ov_r 36]) (d2 := d - 1) d_123_83 lk_Goers_53 rfl (Nat.le_of_ble_eq_true rfl) (c := 9) (zb_58 I83) (zs_58 I83) ⟨by decide, rfl⟩ (by omega) (c_Town_home_58 (d - 1) (by omega) U I83 (by omega)) ?_
        rintro _ _ _ ⟨v85, rfl, rfl, rfl, f84⟩
        show ov_R u d ov_m123 86 [(0, ov_r 36), (1, ov_r 58), (2, ov_l kl), (4, ov_i who), (5, ov_i worst)] [ov_i v85, ov_r 36] z (ov_up (ov_up (ov_up (ov_up (ov_up (ov_up h 36 7 1) 36 8 58) 36 9 kl) 36 10 who) 36 11 worst) 36 12 1) (P_Goers_ask_36_58 F z h kl who worst)
        have f86 : v85 = ((h 58 1) - 1) * 6 + (h 58 0) - 1 ∧ 0 ≤ v85 ∧ v85 ≤ 53 := f84
        clear f84
        refine ov_putf (x := v85) d_123_86 fl_Goers_59 (zb_36 I83) (zs_36 I83) rfl nk_0 rfl ?_
        have I87 := up_36_13 (x := v85) I83 (by omega)
        refine ov_blk (ls2 := [(0, ov_r 36), (1, ov_r 58), (2, ov_l kl), (4, ov_i who), (5, ov_i worst)]) (st2 := [ov_r 36, ov_r 36]) (pc2 := 91) b_123_89_2 rfl rfl ?_
        refine ov_getf (v := ov_r 58) d_123_91 fl_Goers_46 (zb_36 I87) (zs_36 I87) rfl ?_
        refine ov_getf (v := ov_r 64) d_123_94 fl_Goers_61 (zb_58 I87) (zs_58 I87) (congrArg ov_r (rg_58_7 I87)) ?_
        refine ov_blk (ls2 := [(0, ov_r 36), (1, ov_r 58), (2, ov_l kl), (4, ov_i who), (5, ov_i worst)]) (st2 := [ov_i 0, ov_r 64, ov_r 36]) (pc2 := 98) b_123_97_1 rfl rfl ?_
        refine ov_iald d_123_98 (zb_64 I87) (zs_64 I87) (by omega) ?_
        show ov_R u d ov_m123 99 [(0, ov_r 36), (1, ov_r 58), (2, ov_l kl), (4, ov_i who), (5, ov_i worst)] [ov_i (h 64 0), ov_r 36] z (ov_up (ov_up (ov_up (ov_up (ov_up (ov_up (ov_up h 36 7 1) 36 8 58) 36 9 kl) 36 10 who) 36 11 worst) 36 12 1) 36 13 v85) (P_Goers_ask_36_58 F z h kl who worst)
        have g88 := ra_64 I 0
        refine ov_putf (x := (h 64 0)) d_123_99 fl_Goers_64 (zb_36 I87) (zs_36 I87) rfl nk_0 rfl ?_
        have I89 := up_36_14 (x := (h 64 0)) I87 (by omega)
        refine ov_blk (ls2 := [(0, ov_r 36), (1, ov_r 58), (2, ov_l kl), (4, ov_i who), (5, ov_i worst)]) (st2 := [ov_r 36]) (pc2 := 103) b_123_102_1 rfl rfl ?_
        refine ov_getf (v := ov_r 37) d_123_103 fl_Goers_12 (zb_36 I89) (zs_36 I89) (congrArg ov_r (rg_36_2 I89)) ?_
        refine ov_blk (ls2 := [(0, ov_r 36), (1, ov_r 58), (2, ov_l kl), (4, ov_i who), (5, ov_i worst)]) (st2 := [ov_r 36, ov_r 37]) (pc2 := 107) b_123_106_1 rfl rfl ?_
        refine ov_getf (v := ov_i v85) d_123_107 fl_Goers_59 (zb_36 I89) (zs_36 I89) rfl ?_
        refine ov_blk (ls2 := [(0, ov_r 36), (1, ov_r 58), (2, ov_l kl), (4, ov_i who), (5, ov_i worst)]) (st2 := [ov_r 36, ov_i (v85 + 1), ov_r 37]) (pc2 := 113) b_123_110_3 rfl rfl ?_
        refine ov_getf (v := ov_r 58) d_123_113 fl_Goers_46 (zb_36 I89) (zs_36 I89) rfl ?_
        refine ov_getf (v := ov_i (h 58 10)) d_123_116 fl_Goers_67 (zb_58 I89) (zs_58 I89) rfl ?_
        have g90 := rg_58_10 I
        have fm := ov_mulb (q := (v85 + 1)) (b := (h 58 10)) (A := 54) (B := 1200) (by omega) (by omega) (by omega) (by omega)
        refine ov_blk (ls2 := [(0, ov_r 36), (1, ov_r 58), (2, ov_l kl), (4, ov_i who), (5, ov_i worst)]) (st2 := [ov_i ((v85 + 1) * (h 58 10)), ov_r 37]) (pc2 := 120) b_123_119_1 rfl rfl ?_
        refine ov_cV (as := [ov_i ((v85 + 1) * (h 58 10))]) (st := []) (d2 := d - 1) d_123_120 lk_Goers_70 rfl (Nat.le_of_ble_eq_true rfl) (c := 4) (zb_37 I89) (zs_37 I89) ⟨by decide, rfl⟩ (by omega) (c_Memo_clear_37 (d - 1) (by omega) U I89 ((v85 + 1) * (h 58 10)) (by omega) (by omega)) ?_
        rintro _ z92 h93 ⟨rfl, I94, f91⟩
        show ov_R u d ov_m123 123 [(0, ov_r 36), (1, ov_r 58), (2, ov_l kl), (4, ov_i who), (5, ov_i worst)] [] z92 h93 (P_Goers_ask_36_58 F z h kl who worst)
        have f95 : (h93 36 7) = 1 ∧ (h93 1 1) = (h 1 1) ∧ (h93 90 2) = (h 90 2) ∧ (h93 0 10) = (h 0 10) ∧ (h93 0 11) = (h 0 11) ∧ (h93 0 12) = (h 0 12) ∧ (h93 0 13) = (h 0 13) ∧ (h93 3 1) = (h 3 1) ∧ (h93 36 8) = 58 ∧ (h93 46 3) = (h 46 3) ∧ (h93 46 4) = (h 46 4) ∧ (h93 49 4) = (h 49 4) ∧ (h93 49 5) = (h 49 5) ∧ (h93 64 0) = (h 64 0) ∧ (h93 76 0) = (h 76 0) := f91
        clear f91
        have e96 : h93 36 7 = 1 := by omega
        have e97 : h93 36 8 = 58 := by omega
        refine ov_blk (ls2 := [(0, ov_r 36), (1, ov_r 58), (2, ov_l kl), (4, ov_i who), (5, ov_i worst)]) (st2 := [ov_r 36]) (pc2 := 124) b_123_123_1 rfl rfl ?_
        refine ov_cV (as := []) (st := []) (d2 := d - 1) d_123_124 lk_Goers_74 rfl (Nat.le_of_ble_eq_true rfl) (c := 2) (zb_36 I94) (zs_36 I94) ⟨by decide, rfl⟩ (by omega) (c_Goers_findPeriods_36_k36_8_58 (d - 1) (by omega) U I94 e97) ?_
        rintro _ z99 h100 ⟨rfl, I101, f98⟩
        show ov_R u d ov_m123 127 [(0, ov_r 36), (1, ov_r 58), (2, ov_l kl), (4, ov_i who), (5, ov_i worst)] [] z99 h100 (P_Goers_ask_36_58 F z h kl who worst)
        have f102 : (h100 36 7) = (h93 36 7) ∧ (h100 1 1) = (h93 1 1) ∧ (h100 90 2) = (h93 90 2) ∧ (h100 0 10) = (h93 0 10) ∧ (h100 0 11) = (h93 0 11) ∧ (h100 0 12) = (h93 0 12) ∧ (h100 0 13) = (h93 0 13) ∧ (h100 3 1) = (h93 3 1) ∧ (h100 36 8) = (h93 36 8) ∧ (h100 46 3) = (h93 46 3) ∧ (h100 46 4) = (h93 46 4) ∧ (h100 49 4) = (h93 49 4) ∧ (h100 49 5) = (h93 49 5) ∧ (h100 64 0) = (h93 64 0) ∧ (h100 76 0) = (h93 76 0) := f98
        clear f98
        have e103 : h100 36 7 = 1 := by omega
        have e104 : h100 36 8 = 58 := by omega
        exact ov_retv (st := []) d_123_127 rfl ⟨rfl, I101, (by show (h100 36 8) = 58 ∧ (h100 36 7) = 1 ∧ (h100 1 1) = (h 1 1) ∧ (h100 90 2) = (h 90 2) ∧ (h100 0 10) = (h 0 10) ∧ (h100 0 11) = (h 0 11) ∧ (h100 0 12) = (h 0 12) ∧ (h100 0 13) = (h 0 13) ∧ (h100 3 1) = (h 3 1) ∧ (h100 46 3) = (h 46 3) ∧ (h100 46 4) = (h 46 4) ∧ (h100 49 4) = (h 49 4) ∧ (h100 49 5) = (h 49 5) ∧ (h100 64 0) = (h 64 0) ∧ (h100 76 0) = (h 76 0); omega)⟩
    · skip
      refine ov_blk (ls2 := [(0, ov_r 36), (1, ov_r 58), (2, ov_l kl), (4, ov_i who), (5, ov_i worst)]) (st2 := [ov_r 36, ov_i who]) (pc2 := 19) b_123_16_2 rfl rfl ?_
      refine ov_getf (v := ov_i (h 36 10)) d_123_19 fl_Goers_39 (zb_36 I) (zs_36 I) rfl ?_
      have g105 := rg_36_10 I
      refine ov_icne (tgt := 35) d_123_22 (by decide) (by omega) (by omega) (fun c106 => ?_) (fun c106 => ?_)
      · skip
        refine ov_blk (ls2 := [(0, ov_r 36), (1, ov_r 58), (2, ov_l kl), (4, ov_i who), (5, ov_i worst)]) (st2 := [ov_i 1, ov_r 36]) (pc2 := 37) b_123_35_2 rfl rfl ?_
        refine ov_putf (x := 1) d_123_37 fl_Goers_31 (zb_36 I) (zs_36 I) rfl (nk_3 (by omega)) rfl ?_
        have I107 := up_36_7 (x := 1) I (by omega)
        refine ov_blk (ls2 := [(0, ov_r 36), (1, ov_r 58), (2, ov_l kl), (4, ov_i who), (5, ov_i worst)]) (st2 := [ov_r 58, ov_r 36]) (pc2 := 42) b_123_40_2 rfl rfl ?_
        refine ov_putf (x := 58) d_123_42 fl_Goers_46 (zb_36 I107) (zs_36 I107) rfl nk_2 rfl ?_
        have I108 := up_36_8 (x := 58) I107 (by omega)
        refine ov_blk (ls2 := [(0, ov_r 36), (1, ov_r 58), (2, ov_l kl), (4, ov_i who), (5, ov_i worst)]) (st2 := [ov_l kl, ov_r 36]) (pc2 := 47) b_123_45_2 rfl rfl ?_
        refine ov_putf (x := kl) d_123_47 fl_Goers_35 (zb_36 I108) (zs_36 I108) rfl nk_1 rfl ?_
        have I109 := up_36_9 (x := kl) I108
        refine ov_blk (ls2 := [(0, ov_r 36), (1, ov_r 58), (2, ov_l kl), (4, ov_i who), (5, ov_i worst)]) (st2 := [ov_i who, ov_r 36]) (pc2 := 53) b_123_50_2 rfl rfl ?_
        refine ov_putf (x := who) d_123_53 fl_Goers_39 (zb_36 I109) (zs_36 I109) rfl nk_0 rfl ?_
        have I110 := up_36_10 (x := who) I109 (by omega)
        refine ov_blk (ls2 := [(0, ov_r 36), (1, ov_r 58), (2, ov_l kl), (4, ov_i who), (5, ov_i worst)]) (st2 := [ov_i worst, ov_r 36]) (pc2 := 59) b_123_56_2 rfl rfl ?_
        refine ov_putf (x := worst) d_123_59 fl_Goers_43 (zb_36 I110) (zs_36 I110) rfl (nk_3 (by omega)) rfl ?_
        have I111 := up_36_11 (x := worst) I110 (by omega)
        refine ov_blk (ls2 := [(0, ov_r 36), (1, ov_r 58), (2, ov_l kl), (4, ov_i who), (5, ov_i worst)]) (st2 := [ov_i worst, ov_r 36]) (pc2 := 65) b_123_62_2 rfl rfl ?_
        refine ov_ifeq (tgt := 72) d_123_65 (by decide) (by omega) (fun c112 => ?_) (fun c112 => ?_)
        · skip
          refine ov_blk (ls2 := [(0, ov_r 36), (1, ov_r 58), (2, ov_l kl), (4, ov_i who), (5, ov_i worst)]) (st2 := [ov_i 1000, ov_r 36]) (pc2 := 75) b_123_72_1 rfl rfl ?_
          refine ov_putf (x := 1000) d_123_75 fl_Goers_50 (zb_36 I111) (zs_36 I111) rfl nk_0 rfl ?_
          have I113 := up_36_12 (x := 1000) I111 (by omega)
          refine ov_blk (ls2 := [(0, ov_r 36), (1, ov_r 58), (2, ov_l kl), (4, ov_i who), (5, ov_i worst)]) (st2 := [ov_r 36, ov_r 36]) (pc2 := 80) b_123_78_2 rfl rfl ?_
          refine ov_getf (v := ov_r 58) d_123_80 fl_Goers_46 (zb_36 I113) (zs_36 I113) rfl ?_
          refine ov_cV (as := []) (st := [ov_r 36]) (d2 := d - 1) d_123_83 lk_Goers_53 rfl (Nat.le_of_ble_eq_true rfl) (c := 9) (zb_58 I113) (zs_58 I113) ⟨by decide, rfl⟩ (by omega) (c_Town_home_58 (d - 1) (by omega) U I113 (by omega)) ?_
          rintro _ _ _ ⟨v115, rfl, rfl, rfl, f114⟩
          show ov_R u d ov_m123 86 [(0, ov_r 36), (1, ov_r 58), (2, ov_l kl), (4, ov_i who), (5, ov_i worst)] [ov_i v115, ov_r 36] z (ov_up (ov_up (ov_up (ov_up (ov_up (ov_up h 36 7 1) 36 8 58) 36 9 kl) 36 10 who) 36 11 worst) 36 12 1000) (P_Goers_ask_36_58 F z h kl who worst)
          have f116 : v115 = ((h 58 1) - 1) * 6 + (h 58 0) - 1 ∧ 0 ≤ v115 ∧ v115 ≤ 53 := f114
          clear f114
          refine ov_putf (x := v115) d_123_86 fl_Goers_59 (zb_36 I113) (zs_36 I113) rfl nk_0 rfl ?_
          have I117 := up_36_13 (x := v115) I113 (by omega)
          refine ov_blk (ls2 := [(0, ov_r 36), (1, ov_r 58), (2, ov_l kl), (4, ov_i who), (5, ov_i worst)]) (st2 := [ov_r 36, ov_r 36]) (pc2 := 91) b_123_89_2 rfl rfl ?_
          refine ov_getf (v := ov_r 58) d_123_91 fl_Goers_46 (zb_36 I117) (zs_36 I117) rfl ?_
          refine ov_getf (v := ov_r 64) d_123_94 fl_Goers_61 (zb_58 I117) (zs_58 I117) (congrArg ov_r (rg_58_7 I117)) ?_
          refine ov_blk (ls2 := [(0, ov_r 36), (1, ov_r 58), (2, ov_l kl), (4, ov_i who), (5, ov_i worst)]) (st2 := [ov_i 0, ov_r 64, ov_r 36]) (pc2 := 98) b_123_97_1 rfl rfl ?_
          refine ov_iald d_123_98 (zb_64 I117) (zs_64 I117) (by omega) ?_
          show ov_R u d ov_m123 99 [(0, ov_r 36), (1, ov_r 58), (2, ov_l kl), (4, ov_i who), (5, ov_i worst)] [ov_i (h 64 0), ov_r 36] z (ov_up (ov_up (ov_up (ov_up (ov_up (ov_up (ov_up h 36 7 1) 36 8 58) 36 9 kl) 36 10 who) 36 11 worst) 36 12 1000) 36 13 v115) (P_Goers_ask_36_58 F z h kl who worst)
          have g118 := ra_64 I 0
          refine ov_putf (x := (h 64 0)) d_123_99 fl_Goers_64 (zb_36 I117) (zs_36 I117) rfl nk_0 rfl ?_
          have I119 := up_36_14 (x := (h 64 0)) I117 (by omega)
          refine ov_blk (ls2 := [(0, ov_r 36), (1, ov_r 58), (2, ov_l kl), (4, ov_i who), (5, ov_i worst)]) (st2 := [ov_r 36]) (pc2 := 103) b_123_102_1 rfl rfl ?_
          refine ov_getf (v := ov_r 37) d_123_103 fl_Goers_12 (zb_36 I119) (zs_36 I119) (congrArg ov_r (rg_36_2 I119)) ?_
          refine ov_blk (ls2 := [(0, ov_r 36), (1, ov_r 58), (2, ov_l kl), (4, ov_i who), (5, ov_i worst)]) (st2 := [ov_r 36, ov_r 37]) (pc2 := 107) b_123_106_1 rfl rfl ?_
          refine ov_getf (v := ov_i v115) d_123_107 fl_Goers_59 (zb_36 I119) (zs_36 I119) rfl ?_
          refine ov_blk (ls2 := [(0, ov_r 36), (1, ov_r 58), (2, ov_l kl), (4, ov_i who), (5, ov_i worst)]) (st2 := [ov_r 36, ov_i (v115 + 1), ov_r 37]) (pc2 := 113) b_123_110_3 rfl rfl ?_
          refine ov_getf (v := ov_r 58) d_123_113 fl_Goers_46 (zb_36 I119) (zs_36 I119) rfl ?_
          refine ov_getf (v := ov_i (h 58 10)) d_123_116 fl_Goers_67 (zb_58 I119) (zs_58 I119) rfl ?_
          have g120 := rg_58_10 I
          have fm := ov_mulb (q := (v115 + 1)) (b := (h 58 10)) (A := 54) (B := 1200) (by omega) (by omega) (by omega) (by omega)
          refine ov_blk (ls2 := [(0, ov_r 36), (1, ov_r 58), (2, ov_l kl), (4, ov_i who), (5, ov_i worst)]) (st2 := [ov_i ((v115 + 1) * (h 58 10)), ov_r 37]) (pc2 := 120) b_123_119_1 rfl rfl ?_
          refine ov_cV (as := [ov_i ((v115 + 1) * (h 58 10))]) (st := []) (d2 := d - 1) d_123_120 lk_Goers_70 rfl (Nat.le_of_ble_eq_true rfl) (c := 4) (zb_37 I119) (zs_37 I119) ⟨by decide, rfl⟩ (by omega) (c_Memo_clear_37 (d - 1) (by omega) U I119 ((v115 + 1) * (h 58 10)) (by omega) (by omega)) ?_
          rintro _ z122 h123 ⟨rfl, I124, f121⟩
          show ov_R u d ov_m123 123 [(0, ov_r 36), (1, ov_r 58), (2, ov_l kl), (4, ov_i who), (5, ov_i worst)] [] z122 h123 (P_Goers_ask_36_58 F z h kl who worst)
          have f125 : (h123 36 7) = 1 ∧ (h123 1 1) = (h 1 1) ∧ (h123 90 2) = (h 90 2) ∧ (h123 0 10) = (h 0 10) ∧ (h123 0 11) = (h 0 11) ∧ (h123 0 12) = (h 0 12) ∧ (h123 0 13) = (h 0 13) ∧ (h123 3 1) = (h 3 1) ∧ (h123 36 8) = 58 ∧ (h123 46 3) = (h 46 3) ∧ (h123 46 4) = (h 46 4) ∧ (h123 49 4) = (h 49 4) ∧ (h123 49 5) = (h 49 5) ∧ (h123 64 0) = (h 64 0) ∧ (h123 76 0) = (h 76 0) := f121
          clear f121
          have e126 : h123 36 7 = 1 := by omega
          have e127 : h123 36 8 = 58 := by omega
          refine ov_blk (ls2 := [(0, ov_r 36), (1, ov_r 58), (2, ov_l kl), (4, ov_i who), (5, ov_i worst)]) (st2 := [ov_r 36]) (pc2 := 124) b_123_123_1 rfl rfl ?_
          refine ov_cV (as := []) (st := []) (d2 := d - 1) d_123_124 lk_Goers_74 rfl (Nat.le_of_ble_eq_true rfl) (c := 2) (zb_36 I124) (zs_36 I124) ⟨by decide, rfl⟩ (by omega) (c_Goers_findPeriods_36_k36_8_58 (d - 1) (by omega) U I124 e127) ?_
          rintro _ z129 h130 ⟨rfl, I131, f128⟩
          show ov_R u d ov_m123 127 [(0, ov_r 36), (1, ov_r 58), (2, ov_l kl), (4, ov_i who), (5, ov_i worst)] [] z129 h130 (P_Goers_ask_36_58 F z h kl who worst)
          have f132 : (h130 36 7) = (h123 36 7) ∧ (h130 1 1) = (h123 1 1) ∧ (h130 90 2) = (h123 90 2) ∧ (h130 0 10) = (h123 0 10) ∧ (h130 0 11) = (h123 0 11) ∧ (h130 0 12) = (h123 0 12) ∧ (h130 0 13) = (h123 0 13) ∧ (h130 3 1) = (h123 3 1) ∧ (h130 36 8) = (h123 36 8) ∧ (h130 46 3) = (h123 46 3) ∧ (h130 46 4) = (h123 46 4) ∧ (h130 49 4) = (h123 49 4) ∧ (h130 49 5) = (h123 49 5) ∧ (h130 64 0) = (h123 64 0) ∧ (h130 76 0) = (h123 76 0) := f128
          clear f128
          have e133 : h130 36 7 = 1 := by omega
          have e134 : h130 36 8 = 58 := by omega
          exact ov_retv (st := []) d_123_127 rfl ⟨rfl, I131, (by show (h130 36 8) = 58 ∧ (h130 36 7) = 1 ∧ (h130 1 1) = (h 1 1) ∧ (h130 90 2) = (h 90 2) ∧ (h130 0 10) = (h 0 10) ∧ (h130 0 11) = (h 0 11) ∧ (h130 0 12) = (h 0 12) ∧ (h130 0 13) = (h 0 13) ∧ (h130 3 1) = (h 3 1) ∧ (h130 46 3) = (h 46 3) ∧ (h130 46 4) = (h 46 4) ∧ (h130 49 4) = (h 49 4) ∧ (h130 49 5) = (h 49 5) ∧ (h130 64 0) = (h 64 0) ∧ (h130 76 0) = (h 76 0); omega)⟩
        · skip
          refine ov_blk (ls2 := [(0, ov_r 36), (1, ov_r 58), (2, ov_l kl), (4, ov_i who), (5, ov_i worst)]) (st2 := [ov_i 1, ov_r 36]) (pc2 := 69) b_123_68_1 rfl rfl ?_
          refine ov_goto (tgt := 75) d_123_69 (by decide) ?_
          refine ov_putf (x := 1) d_123_75 fl_Goers_50 (zb_36 I111) (zs_36 I111) rfl nk_0 rfl ?_
          have I135 := up_36_12 (x := 1) I111 (by omega)
          refine ov_blk (ls2 := [(0, ov_r 36), (1, ov_r 58), (2, ov_l kl), (4, ov_i who), (5, ov_i worst)]) (st2 := [ov_r 36, ov_r 36]) (pc2 := 80) b_123_78_2 rfl rfl ?_
          refine ov_getf (v := ov_r 58) d_123_80 fl_Goers_46 (zb_36 I135) (zs_36 I135) rfl ?_
          refine ov_cV (as := []) (st := [ov_r 36]) (d2 := d - 1) d_123_83 lk_Goers_53 rfl (Nat.le_of_ble_eq_true rfl) (c := 9) (zb_58 I135) (zs_58 I135) ⟨by decide, rfl⟩ (by omega) (c_Town_home_58 (d - 1) (by omega) U I135 (by omega)) ?_
          rintro _ _ _ ⟨v137, rfl, rfl, rfl, f136⟩
          show ov_R u d ov_m123 86 [(0, ov_r 36), (1, ov_r 58), (2, ov_l kl), (4, ov_i who), (5, ov_i worst)] [ov_i v137, ov_r 36] z (ov_up (ov_up (ov_up (ov_up (ov_up (ov_up h 36 7 1) 36 8 58) 36 9 kl) 36 10 who) 36 11 worst) 36 12 1) (P_Goers_ask_36_58 F z h kl who worst)
          have f138 : v137 = ((h 58 1) - 1) * 6 + (h 58 0) - 1 ∧ 0 ≤ v137 ∧ v137 ≤ 53 := f136
          clear f136
          refine ov_putf (x := v137) d_123_86 fl_Goers_59 (zb_36 I135) (zs_36 I135) rfl nk_0 rfl ?_
          have I139 := up_36_13 (x := v137) I135 (by omega)
          refine ov_blk (ls2 := [(0, ov_r 36), (1, ov_r 58), (2, ov_l kl), (4, ov_i who), (5, ov_i worst)]) (st2 := [ov_r 36, ov_r 36]) (pc2 := 91) b_123_89_2 rfl rfl ?_
          refine ov_getf (v := ov_r 58) d_123_91 fl_Goers_46 (zb_36 I139) (zs_36 I139) rfl ?_
          refine ov_getf (v := ov_r 64) d_123_94 fl_Goers_61 (zb_58 I139) (zs_58 I139) (congrArg ov_r (rg_58_7 I139)) ?_
          refine ov_blk (ls2 := [(0, ov_r 36), (1, ov_r 58), (2, ov_l kl), (4, ov_i who), (5, ov_i worst)]) (st2 := [ov_i 0, ov_r 64, ov_r 36]) (pc2 := 98) b_123_97_1 rfl rfl ?_
          refine ov_iald d_123_98 (zb_64 I139) (zs_64 I139) (by omega) ?_
          show ov_R u d ov_m123 99 [(0, ov_r 36), (1, ov_r 58), (2, ov_l kl), (4, ov_i who), (5, ov_i worst)] [ov_i (h 64 0), ov_r 36] z (ov_up (ov_up (ov_up (ov_up (ov_up (ov_up (ov_up h 36 7 1) 36 8 58) 36 9 kl) 36 10 who) 36 11 worst) 36 12 1) 36 13 v137) (P_Goers_ask_36_58 F z h kl who worst)
          have g140 := ra_64 I 0
          refine ov_putf (x := (h 64 0)) d_123_99 fl_Goers_64 (zb_36 I139) (zs_36 I139) rfl nk_0 rfl ?_
          have I141 := up_36_14 (x := (h 64 0)) I139 (by omega)
          refine ov_blk (ls2 := [(0, ov_r 36), (1, ov_r 58), (2, ov_l kl), (4, ov_i who), (5, ov_i worst)]) (st2 := [ov_r 36]) (pc2 := 103) b_123_102_1 rfl rfl ?_
          refine ov_getf (v := ov_r 37) d_123_103 fl_Goers_12 (zb_36 I141) (zs_36 I141) (congrArg ov_r (rg_36_2 I141)) ?_
          refine ov_blk (ls2 := [(0, ov_r 36), (1, ov_r 58), (2, ov_l kl), (4, ov_i who), (5, ov_i worst)]) (st2 := [ov_r 36, ov_r 37]) (pc2 := 107) b_123_106_1 rfl rfl ?_
          refine ov_getf (v := ov_i v137) d_123_107 fl_Goers_59 (zb_36 I141) (zs_36 I141) rfl ?_
          refine ov_blk (ls2 := [(0, ov_r 36), (1, ov_r 58), (2, ov_l kl), (4, ov_i who), (5, ov_i worst)]) (st2 := [ov_r 36, ov_i (v137 + 1), ov_r 37]) (pc2 := 113) b_123_110_3 rfl rfl ?_
          refine ov_getf (v := ov_r 58) d_123_113 fl_Goers_46 (zb_36 I141) (zs_36 I141) rfl ?_
          refine ov_getf (v := ov_i (h 58 10)) d_123_116 fl_Goers_67 (zb_58 I141) (zs_58 I141) rfl ?_
          have g142 := rg_58_10 I
          have fm := ov_mulb (q := (v137 + 1)) (b := (h 58 10)) (A := 54) (B := 1200) (by omega) (by omega) (by omega) (by omega)
          refine ov_blk (ls2 := [(0, ov_r 36), (1, ov_r 58), (2, ov_l kl), (4, ov_i who), (5, ov_i worst)]) (st2 := [ov_i ((v137 + 1) * (h 58 10)), ov_r 37]) (pc2 := 120) b_123_119_1 rfl rfl ?_
          refine ov_cV (as := [ov_i ((v137 + 1) * (h 58 10))]) (st := []) (d2 := d - 1) d_123_120 lk_Goers_70 rfl (Nat.le_of_ble_eq_true rfl) (c := 4) (zb_37 I141) (zs_37 I141) ⟨by decide, rfl⟩ (by omega) (c_Memo_clear_37 (d - 1) (by omega) U I141 ((v137 + 1) * (h 58 10)) (by omega) (by omega)) ?_
          rintro _ z144 h145 ⟨rfl, I146, f143⟩
          show ov_R u d ov_m123 123 [(0, ov_r 36), (1, ov_r 58), (2, ov_l kl), (4, ov_i who), (5, ov_i worst)] [] z144 h145 (P_Goers_ask_36_58 F z h kl who worst)
          have f147 : (h145 36 7) = 1 ∧ (h145 1 1) = (h 1 1) ∧ (h145 90 2) = (h 90 2) ∧ (h145 0 10) = (h 0 10) ∧ (h145 0 11) = (h 0 11) ∧ (h145 0 12) = (h 0 12) ∧ (h145 0 13) = (h 0 13) ∧ (h145 3 1) = (h 3 1) ∧ (h145 36 8) = 58 ∧ (h145 46 3) = (h 46 3) ∧ (h145 46 4) = (h 46 4) ∧ (h145 49 4) = (h 49 4) ∧ (h145 49 5) = (h 49 5) ∧ (h145 64 0) = (h 64 0) ∧ (h145 76 0) = (h 76 0) := f143
          clear f143
          have e148 : h145 36 7 = 1 := by omega
          have e149 : h145 36 8 = 58 := by omega
          refine ov_blk (ls2 := [(0, ov_r 36), (1, ov_r 58), (2, ov_l kl), (4, ov_i who), (5, ov_i worst)]) (st2 := [ov_r 36]) (pc2 := 124) b_123_123_1 rfl rfl ?_
          refine ov_cV (as := []) (st := []) (d2 := d - 1) d_123_124 lk_Goers_74 rfl (Nat.le_of_ble_eq_true rfl) (c := 2) (zb_36 I146) (zs_36 I146) ⟨by decide, rfl⟩ (by omega) (c_Goers_findPeriods_36_k36_8_58 (d - 1) (by omega) U I146 e149) ?_
          rintro _ z151 h152 ⟨rfl, I153, f150⟩
          show ov_R u d ov_m123 127 [(0, ov_r 36), (1, ov_r 58), (2, ov_l kl), (4, ov_i who), (5, ov_i worst)] [] z151 h152 (P_Goers_ask_36_58 F z h kl who worst)
          have f154 : (h152 36 7) = (h145 36 7) ∧ (h152 1 1) = (h145 1 1) ∧ (h152 90 2) = (h145 90 2) ∧ (h152 0 10) = (h145 0 10) ∧ (h152 0 11) = (h145 0 11) ∧ (h152 0 12) = (h145 0 12) ∧ (h152 0 13) = (h145 0 13) ∧ (h152 3 1) = (h145 3 1) ∧ (h152 36 8) = (h145 36 8) ∧ (h152 46 3) = (h145 46 3) ∧ (h152 46 4) = (h145 46 4) ∧ (h152 49 4) = (h145 49 4) ∧ (h152 49 5) = (h145 49 5) ∧ (h152 64 0) = (h145 64 0) ∧ (h152 76 0) = (h145 76 0) := f150
          clear f150
          have e155 : h152 36 7 = 1 := by omega
          have e156 : h152 36 8 = 58 := by omega
          exact ov_retv (st := []) d_123_127 rfl ⟨rfl, I153, (by show (h152 36 8) = 58 ∧ (h152 36 7) = 1 ∧ (h152 1 1) = (h 1 1) ∧ (h152 90 2) = (h 90 2) ∧ (h152 0 10) = (h 0 10) ∧ (h152 0 11) = (h 0 11) ∧ (h152 0 12) = (h 0 12) ∧ (h152 0 13) = (h 0 13) ∧ (h152 3 1) = (h 3 1) ∧ (h152 46 3) = (h 46 3) ∧ (h152 46 4) = (h 46 4) ∧ (h152 49 4) = (h 49 4) ∧ (h152 49 5) = (h 49 5) ∧ (h152 64 0) = (h 64 0) ∧ (h152 76 0) = (h 76 0); omega)⟩
      · skip
        refine ov_blk (ls2 := [(0, ov_r 36), (1, ov_r 58), (2, ov_l kl), (4, ov_i who), (5, ov_i worst)]) (st2 := [ov_r 36, ov_i worst]) (pc2 := 28) b_123_25_2 rfl rfl ?_
        refine ov_getf (v := ov_i (h 36 11)) d_123_28 fl_Goers_43 (zb_36 I) (zs_36 I) rfl ?_
        have g157 := rg_36_11 I
        refine ov_icne (tgt := 35) d_123_31 (by decide) (by omega) (by omega) (fun c158 => ?_) (fun c158 => ?_)
        · skip
          refine ov_blk (ls2 := [(0, ov_r 36), (1, ov_r 58), (2, ov_l kl), (4, ov_i who), (5, ov_i worst)]) (st2 := [ov_i 1, ov_r 36]) (pc2 := 37) b_123_35_2 rfl rfl ?_
          refine ov_putf (x := 1) d_123_37 fl_Goers_31 (zb_36 I) (zs_36 I) rfl (nk_3 (by omega)) rfl ?_
          have I159 := up_36_7 (x := 1) I (by omega)
          refine ov_blk (ls2 := [(0, ov_r 36), (1, ov_r 58), (2, ov_l kl), (4, ov_i who), (5, ov_i worst)]) (st2 := [ov_r 58, ov_r 36]) (pc2 := 42) b_123_40_2 rfl rfl ?_
          refine ov_putf (x := 58) d_123_42 fl_Goers_46 (zb_36 I159) (zs_36 I159) rfl nk_2 rfl ?_
          have I160 := up_36_8 (x := 58) I159 (by omega)
          refine ov_blk (ls2 := [(0, ov_r 36), (1, ov_r 58), (2, ov_l kl), (4, ov_i who), (5, ov_i worst)]) (st2 := [ov_l kl, ov_r 36]) (pc2 := 47) b_123_45_2 rfl rfl ?_
          refine ov_putf (x := kl) d_123_47 fl_Goers_35 (zb_36 I160) (zs_36 I160) rfl nk_1 rfl ?_
          have I161 := up_36_9 (x := kl) I160
          refine ov_blk (ls2 := [(0, ov_r 36), (1, ov_r 58), (2, ov_l kl), (4, ov_i who), (5, ov_i worst)]) (st2 := [ov_i who, ov_r 36]) (pc2 := 53) b_123_50_2 rfl rfl ?_
          refine ov_putf (x := who) d_123_53 fl_Goers_39 (zb_36 I161) (zs_36 I161) rfl nk_0 rfl ?_
          have I162 := up_36_10 (x := who) I161 (by omega)
          refine ov_blk (ls2 := [(0, ov_r 36), (1, ov_r 58), (2, ov_l kl), (4, ov_i who), (5, ov_i worst)]) (st2 := [ov_i worst, ov_r 36]) (pc2 := 59) b_123_56_2 rfl rfl ?_
          refine ov_putf (x := worst) d_123_59 fl_Goers_43 (zb_36 I162) (zs_36 I162) rfl (nk_3 (by omega)) rfl ?_
          have I163 := up_36_11 (x := worst) I162 (by omega)
          refine ov_blk (ls2 := [(0, ov_r 36), (1, ov_r 58), (2, ov_l kl), (4, ov_i who), (5, ov_i worst)]) (st2 := [ov_i worst, ov_r 36]) (pc2 := 65) b_123_62_2 rfl rfl ?_
          refine ov_ifeq (tgt := 72) d_123_65 (by decide) (by omega) (fun c164 => ?_) (fun c164 => ?_)
          · skip
            refine ov_blk (ls2 := [(0, ov_r 36), (1, ov_r 58), (2, ov_l kl), (4, ov_i who), (5, ov_i worst)]) (st2 := [ov_i 1000, ov_r 36]) (pc2 := 75) b_123_72_1 rfl rfl ?_
            refine ov_putf (x := 1000) d_123_75 fl_Goers_50 (zb_36 I163) (zs_36 I163) rfl nk_0 rfl ?_
            have I165 := up_36_12 (x := 1000) I163 (by omega)
            refine ov_blk (ls2 := [(0, ov_r 36), (1, ov_r 58), (2, ov_l kl), (4, ov_i who), (5, ov_i worst)]) (st2 := [ov_r 36, ov_r 36]) (pc2 := 80) b_123_78_2 rfl rfl ?_
            refine ov_getf (v := ov_r 58) d_123_80 fl_Goers_46 (zb_36 I165) (zs_36 I165) rfl ?_
            refine ov_cV (as := []) (st := [ov_r 36]) (d2 := d - 1) d_123_83 lk_Goers_53 rfl (Nat.le_of_ble_eq_true rfl) (c := 9) (zb_58 I165) (zs_58 I165) ⟨by decide, rfl⟩ (by omega) (c_Town_home_58 (d - 1) (by omega) U I165 (by omega)) ?_
            rintro _ _ _ ⟨v167, rfl, rfl, rfl, f166⟩
            show ov_R u d ov_m123 86 [(0, ov_r 36), (1, ov_r 58), (2, ov_l kl), (4, ov_i who), (5, ov_i worst)] [ov_i v167, ov_r 36] z (ov_up (ov_up (ov_up (ov_up (ov_up (ov_up h 36 7 1) 36 8 58) 36 9 kl) 36 10 who) 36 11 worst) 36 12 1000) (P_Goers_ask_36_58 F z h kl who worst)
            have f168 : v167 = ((h 58 1) - 1) * 6 + (h 58 0) - 1 ∧ 0 ≤ v167 ∧ v167 ≤ 53 := f166
            clear f166
            refine ov_putf (x := v167) d_123_86 fl_Goers_59 (zb_36 I165) (zs_36 I165) rfl nk_0 rfl ?_
            have I169 := up_36_13 (x := v167) I165 (by omega)
            refine ov_blk (ls2 := [(0, ov_r 36), (1, ov_r 58), (2, ov_l kl), (4, ov_i who), (5, ov_i worst)]) (st2 := [ov_r 36, ov_r 36]) (pc2 := 91) b_123_89_2 rfl rfl ?_
            refine ov_getf (v := ov_r 58) d_123_91 fl_Goers_46 (zb_36 I169) (zs_36 I169) rfl ?_
            refine ov_getf (v := ov_r 64) d_123_94 fl_Goers_61 (zb_58 I169) (zs_58 I169) (congrArg ov_r (rg_58_7 I169)) ?_
            refine ov_blk (ls2 := [(0, ov_r 36), (1, ov_r 58), (2, ov_l kl), (4, ov_i who), (5, ov_i worst)]) (st2 := [ov_i 0, ov_r 64, ov_r 36]) (pc2 := 98) b_123_97_1 rfl rfl ?_
            refine ov_iald d_123_98 (zb_64 I169) (zs_64 I169) (by omega) ?_
            show ov_R u d ov_m123 99 [(0, ov_r 36), (1, ov_r 58), (2, ov_l kl), (4, ov_i who), (5, ov_i worst)] [ov_i (h 64 0), ov_r 36] z (ov_up (ov_up (ov_up (ov_up (ov_up (ov_up (ov_up h 36 7 1) 36 8 58) 36 9 kl) 36 10 who) 36 11 worst) 36 12 1000) 36 13 v167) (P_Goers_ask_36_58 F z h kl who worst)
            have g170 := ra_64 I 0
            refine ov_putf (x := (h 64 0)) d_123_99 fl_Goers_64 (zb_36 I169) (zs_36 I169) rfl nk_0 rfl ?_
            have I171 := up_36_14 (x := (h 64 0)) I169 (by omega)
            refine ov_blk (ls2 := [(0, ov_r 36), (1, ov_r 58), (2, ov_l kl), (4, ov_i who), (5, ov_i worst)]) (st2 := [ov_r 36]) (pc2 := 103) b_123_102_1 rfl rfl ?_
            refine ov_getf (v := ov_r 37) d_123_103 fl_Goers_12 (zb_36 I171) (zs_36 I171) (congrArg ov_r (rg_36_2 I171)) ?_
            refine ov_blk (ls2 := [(0, ov_r 36), (1, ov_r 58), (2, ov_l kl), (4, ov_i who), (5, ov_i worst)]) (st2 := [ov_r 36, ov_r 37]) (pc2 := 107) b_123_106_1 rfl rfl ?_
            refine ov_getf (v := ov_i v167) d_123_107 fl_Goers_59 (zb_36 I171) (zs_36 I171) rfl ?_
            refine ov_blk (ls2 := [(0, ov_r 36), (1, ov_r 58), (2, ov_l kl), (4, ov_i who), (5, ov_i worst)]) (st2 := [ov_r 36, ov_i (v167 + 1), ov_r 37]) (pc2 := 113) b_123_110_3 rfl rfl ?_
            refine ov_getf (v := ov_r 58) d_123_113 fl_Goers_46 (zb_36 I171) (zs_36 I171) rfl ?_
            refine ov_getf (v := ov_i (h 58 10)) d_123_116 fl_Goers_67 (zb_58 I171) (zs_58 I171) rfl ?_
            have g172 := rg_58_10 I
            have fm := ov_mulb (q := (v167 + 1)) (b := (h 58 10)) (A := 54) (B := 1200) (by omega) (by omega) (by omega) (by omega)
            refine ov_blk (ls2 := [(0, ov_r 36), (1, ov_r 58), (2, ov_l kl), (4, ov_i who), (5, ov_i worst)]) (st2 := [ov_i ((v167 + 1) * (h 58 10)), ov_r 37]) (pc2 := 120) b_123_119_1 rfl rfl ?_
            refine ov_cV (as := [ov_i ((v167 + 1) * (h 58 10))]) (st := []) (d2 := d - 1) d_123_120 lk_Goers_70 rfl (Nat.le_of_ble_eq_true rfl) (c := 4) (zb_37 I171) (zs_37 I171) ⟨by decide, rfl⟩ (by omega) (c_Memo_clear_37 (d - 1) (by omega) U I171 ((v167 + 1) * (h 58 10)) (by omega) (by omega)) ?_
            rintro _ z174 h175 ⟨rfl, I176, f173⟩
            show ov_R u d ov_m123 123 [(0, ov_r 36), (1, ov_r 58), (2, ov_l kl), (4, ov_i who), (5, ov_i worst)] [] z174 h175 (P_Goers_ask_36_58 F z h kl who worst)
            have f177 : (h175 36 7) = 1 ∧ (h175 1 1) = (h 1 1) ∧ (h175 90 2) = (h 90 2) ∧ (h175 0 10) = (h 0 10) ∧ (h175 0 11) = (h 0 11) ∧ (h175 0 12) = (h 0 12) ∧ (h175 0 13) = (h 0 13) ∧ (h175 3 1) = (h 3 1) ∧ (h175 36 8) = 58 ∧ (h175 46 3) = (h 46 3) ∧ (h175 46 4) = (h 46 4) ∧ (h175 49 4) = (h 49 4) ∧ (h175 49 5) = (h 49 5) ∧ (h175 64 0) = (h 64 0) ∧ (h175 76 0) = (h 76 0) := f173
            clear f173
            have e178 : h175 36 7 = 1 := by omega
            have e179 : h175 36 8 = 58 := by omega
            refine ov_blk (ls2 := [(0, ov_r 36), (1, ov_r 58), (2, ov_l kl), (4, ov_i who), (5, ov_i worst)]) (st2 := [ov_r 36]) (pc2 := 124) b_123_123_1 rfl rfl ?_
            refine ov_cV (as := []) (st := []) (d2 := d - 1) d_123_124 lk_Goers_74 rfl (Nat.le_of_ble_eq_true rfl) (c := 2) (zb_36 I176) (zs_36 I176) ⟨by decide, rfl⟩ (by omega) (c_Goers_findPeriods_36_k36_8_58 (d - 1) (by omega) U I176 e179) ?_
            rintro _ z181 h182 ⟨rfl, I183, f180⟩
            show ov_R u d ov_m123 127 [(0, ov_r 36), (1, ov_r 58), (2, ov_l kl), (4, ov_i who), (5, ov_i worst)] [] z181 h182 (P_Goers_ask_36_58 F z h kl who worst)
            have f184 : (h182 36 7) = (h175 36 7) ∧ (h182 1 1) = (h175 1 1) ∧ (h182 90 2) = (h175 90 2) ∧ (h182 0 10) = (h175 0 10) ∧ (h182 0 11) = (h175 0 11) ∧ (h182 0 12) = (h175 0 12) ∧ (h182 0 13) = (h175 0 13) ∧ (h182 3 1) = (h175 3 1) ∧ (h182 36 8) = (h175 36 8) ∧ (h182 46 3) = (h175 46 3) ∧ (h182 46 4) = (h175 46 4) ∧ (h182 49 4) = (h175 49 4) ∧ (h182 49 5) = (h175 49 5) ∧ (h182 64 0) = (h175 64 0) ∧ (h182 76 0) = (h175 76 0) := f180
            clear f180
            have e185 : h182 36 7 = 1 := by omega
            have e186 : h182 36 8 = 58 := by omega
            exact ov_retv (st := []) d_123_127 rfl ⟨rfl, I183, (by show (h182 36 8) = 58 ∧ (h182 36 7) = 1 ∧ (h182 1 1) = (h 1 1) ∧ (h182 90 2) = (h 90 2) ∧ (h182 0 10) = (h 0 10) ∧ (h182 0 11) = (h 0 11) ∧ (h182 0 12) = (h 0 12) ∧ (h182 0 13) = (h 0 13) ∧ (h182 3 1) = (h 3 1) ∧ (h182 46 3) = (h 46 3) ∧ (h182 46 4) = (h 46 4) ∧ (h182 49 4) = (h 49 4) ∧ (h182 49 5) = (h 49 5) ∧ (h182 64 0) = (h 64 0) ∧ (h182 76 0) = (h 76 0); omega)⟩
          · skip
            refine ov_blk (ls2 := [(0, ov_r 36), (1, ov_r 58), (2, ov_l kl), (4, ov_i who), (5, ov_i worst)]) (st2 := [ov_i 1, ov_r 36]) (pc2 := 69) b_123_68_1 rfl rfl ?_
            refine ov_goto (tgt := 75) d_123_69 (by decide) ?_
            refine ov_putf (x := 1) d_123_75 fl_Goers_50 (zb_36 I163) (zs_36 I163) rfl nk_0 rfl ?_
            have I187 := up_36_12 (x := 1) I163 (by omega)
            refine ov_blk (ls2 := [(0, ov_r 36), (1, ov_r 58), (2, ov_l kl), (4, ov_i who), (5, ov_i worst)]) (st2 := [ov_r 36, ov_r 36]) (pc2 := 80) b_123_78_2 rfl rfl ?_
            refine ov_getf (v := ov_r 58) d_123_80 fl_Goers_46 (zb_36 I187) (zs_36 I187) rfl ?_
            refine ov_cV (as := []) (st := [ov_r 36]) (d2 := d - 1) d_123_83 lk_Goers_53 rfl (Nat.le_of_ble_eq_true rfl) (c := 9) (zb_58 I187) (zs_58 I187) ⟨by decide, rfl⟩ (by omega) (c_Town_home_58 (d - 1) (by omega) U I187 (by omega)) ?_
            rintro _ _ _ ⟨v189, rfl, rfl, rfl, f188⟩
            show ov_R u d ov_m123 86 [(0, ov_r 36), (1, ov_r 58), (2, ov_l kl), (4, ov_i who), (5, ov_i worst)] [ov_i v189, ov_r 36] z (ov_up (ov_up (ov_up (ov_up (ov_up (ov_up h 36 7 1) 36 8 58) 36 9 kl) 36 10 who) 36 11 worst) 36 12 1) (P_Goers_ask_36_58 F z h kl who worst)
            have f190 : v189 = ((h 58 1) - 1) * 6 + (h 58 0) - 1 ∧ 0 ≤ v189 ∧ v189 ≤ 53 := f188
            clear f188
            refine ov_putf (x := v189) d_123_86 fl_Goers_59 (zb_36 I187) (zs_36 I187) rfl nk_0 rfl ?_
            have I191 := up_36_13 (x := v189) I187 (by omega)
            refine ov_blk (ls2 := [(0, ov_r 36), (1, ov_r 58), (2, ov_l kl), (4, ov_i who), (5, ov_i worst)]) (st2 := [ov_r 36, ov_r 36]) (pc2 := 91) b_123_89_2 rfl rfl ?_
            refine ov_getf (v := ov_r 58) d_123_91 fl_Goers_46 (zb_36 I191) (zs_36 I191) rfl ?_
            refine ov_getf (v := ov_r 64) d_123_94 fl_Goers_61 (zb_58 I191) (zs_58 I191) (congrArg ov_r (rg_58_7 I191)) ?_
            refine ov_blk (ls2 := [(0, ov_r 36), (1, ov_r 58), (2, ov_l kl), (4, ov_i who), (5, ov_i worst)]) (st2 := [ov_i 0, ov_r 64, ov_r 36]) (pc2 := 98) b_123_97_1 rfl rfl ?_
            refine ov_iald d_123_98 (zb_64 I191) (zs_64 I191) (by omega) ?_
            show ov_R u d ov_m123 99 [(0, ov_r 36), (1, ov_r 58), (2, ov_l kl), (4, ov_i who), (5, ov_i worst)] [ov_i (h 64 0), ov_r 36] z (ov_up (ov_up (ov_up (ov_up (ov_up (ov_up (ov_up h 36 7 1) 36 8 58) 36 9 kl) 36 10 who) 36 11 worst) 36 12 1) 36 13 v189) (P_Goers_ask_36_58 F z h kl who worst)
            have g192 := ra_64 I 0
            refine ov_putf (x := (h 64 0)) d_123_99 fl_Goers_64 (zb_36 I191) (zs_36 I191) rfl nk_0 rfl ?_
            have I193 := up_36_14 (x := (h 64 0)) I191 (by omega)
            refine ov_blk (ls2 := [(0, ov_r 36), (1, ov_r 58), (2, ov_l kl), (4, ov_i who), (5, ov_i worst)]) (st2 := [ov_r 36]) (pc2 := 103) b_123_102_1 rfl rfl ?_
            refine ov_getf (v := ov_r 37) d_123_103 fl_Goers_12 (zb_36 I193) (zs_36 I193) (congrArg ov_r (rg_36_2 I193)) ?_
            refine ov_blk (ls2 := [(0, ov_r 36), (1, ov_r 58), (2, ov_l kl), (4, ov_i who), (5, ov_i worst)]) (st2 := [ov_r 36, ov_r 37]) (pc2 := 107) b_123_106_1 rfl rfl ?_
            refine ov_getf (v := ov_i v189) d_123_107 fl_Goers_59 (zb_36 I193) (zs_36 I193) rfl ?_
            refine ov_blk (ls2 := [(0, ov_r 36), (1, ov_r 58), (2, ov_l kl), (4, ov_i who), (5, ov_i worst)]) (st2 := [ov_r 36, ov_i (v189 + 1), ov_r 37]) (pc2 := 113) b_123_110_3 rfl rfl ?_
            refine ov_getf (v := ov_r 58) d_123_113 fl_Goers_46 (zb_36 I193) (zs_36 I193) rfl ?_
            refine ov_getf (v := ov_i (h 58 10)) d_123_116 fl_Goers_67 (zb_58 I193) (zs_58 I193) rfl ?_
            have g194 := rg_58_10 I
            have fm := ov_mulb (q := (v189 + 1)) (b := (h 58 10)) (A := 54) (B := 1200) (by omega) (by omega) (by omega) (by omega)
            refine ov_blk (ls2 := [(0, ov_r 36), (1, ov_r 58), (2, ov_l kl), (4, ov_i who), (5, ov_i worst)]) (st2 := [ov_i ((v189 + 1) * (h 58 10)), ov_r 37]) (pc2 := 120) b_123_119_1 rfl rfl ?_
            refine ov_cV (as := [ov_i ((v189 + 1) * (h 58 10))]) (st := []) (d2 := d - 1) d_123_120 lk_Goers_70 rfl (Nat.le_of_ble_eq_true rfl) (c := 4) (zb_37 I193) (zs_37 I193) ⟨by decide, rfl⟩ (by omega) (c_Memo_clear_37 (d - 1) (by omega) U I193 ((v189 + 1) * (h 58 10)) (by omega) (by omega)) ?_
            rintro _ z196 h197 ⟨rfl, I198, f195⟩
            show ov_R u d ov_m123 123 [(0, ov_r 36), (1, ov_r 58), (2, ov_l kl), (4, ov_i who), (5, ov_i worst)] [] z196 h197 (P_Goers_ask_36_58 F z h kl who worst)
            have f199 : (h197 36 7) = 1 ∧ (h197 1 1) = (h 1 1) ∧ (h197 90 2) = (h 90 2) ∧ (h197 0 10) = (h 0 10) ∧ (h197 0 11) = (h 0 11) ∧ (h197 0 12) = (h 0 12) ∧ (h197 0 13) = (h 0 13) ∧ (h197 3 1) = (h 3 1) ∧ (h197 36 8) = 58 ∧ (h197 46 3) = (h 46 3) ∧ (h197 46 4) = (h 46 4) ∧ (h197 49 4) = (h 49 4) ∧ (h197 49 5) = (h 49 5) ∧ (h197 64 0) = (h 64 0) ∧ (h197 76 0) = (h 76 0) := f195
            clear f195
            have e200 : h197 36 7 = 1 := by omega
            have e201 : h197 36 8 = 58 := by omega
            refine ov_blk (ls2 := [(0, ov_r 36), (1, ov_r 58), (2, ov_l kl), (4, ov_i who), (5, ov_i worst)]) (st2 := [ov_r 36]) (pc2 := 124) b_123_123_1 rfl rfl ?_
            refine ov_cV (as := []) (st := []) (d2 := d - 1) d_123_124 lk_Goers_74 rfl (Nat.le_of_ble_eq_true rfl) (c := 2) (zb_36 I198) (zs_36 I198) ⟨by decide, rfl⟩ (by omega) (c_Goers_findPeriods_36_k36_8_58 (d - 1) (by omega) U I198 e201) ?_
            rintro _ z203 h204 ⟨rfl, I205, f202⟩
            show ov_R u d ov_m123 127 [(0, ov_r 36), (1, ov_r 58), (2, ov_l kl), (4, ov_i who), (5, ov_i worst)] [] z203 h204 (P_Goers_ask_36_58 F z h kl who worst)
            have f206 : (h204 36 7) = (h197 36 7) ∧ (h204 1 1) = (h197 1 1) ∧ (h204 90 2) = (h197 90 2) ∧ (h204 0 10) = (h197 0 10) ∧ (h204 0 11) = (h197 0 11) ∧ (h204 0 12) = (h197 0 12) ∧ (h204 0 13) = (h197 0 13) ∧ (h204 3 1) = (h197 3 1) ∧ (h204 36 8) = (h197 36 8) ∧ (h204 46 3) = (h197 46 3) ∧ (h204 46 4) = (h197 46 4) ∧ (h204 49 4) = (h197 49 4) ∧ (h204 49 5) = (h197 49 5) ∧ (h204 64 0) = (h197 64 0) ∧ (h204 76 0) = (h197 76 0) := f202
            clear f202
            have e207 : h204 36 7 = 1 := by omega
            have e208 : h204 36 8 = 58 := by omega
            exact ov_retv (st := []) d_123_127 rfl ⟨rfl, I205, (by show (h204 36 8) = 58 ∧ (h204 36 7) = 1 ∧ (h204 1 1) = (h 1 1) ∧ (h204 90 2) = (h 90 2) ∧ (h204 0 10) = (h 0 10) ∧ (h204 0 11) = (h 0 11) ∧ (h204 0 12) = (h 0 12) ∧ (h204 0 13) = (h 0 13) ∧ (h204 3 1) = (h 3 1) ∧ (h204 46 3) = (h 46 3) ∧ (h204 46 4) = (h 46 4) ∧ (h204 49 4) = (h 49 4) ∧ (h204 49 5) = (h 49 5) ∧ (h204 64 0) = (h 64 0) ∧ (h204 76 0) = (h 76 0); omega)⟩
        · skip
          exact ov_retv (st := []) d_123_34 rfl ⟨rfl, I, (by show (h 36 8) = 58 ∧ (h 36 7) = 1 ∧ (h 1 1) = (h 1 1) ∧ (h 90 2) = (h 90 2) ∧ (h 0 10) = (h 0 10) ∧ (h 0 11) = (h 0 11) ∧ (h 0 12) = (h 0 12) ∧ (h 0 13) = (h 0 13) ∧ (h 3 1) = (h 3 1) ∧ (h 46 3) = (h 46 3) ∧ (h 46 4) = (h 46 4) ∧ (h 49 4) = (h 49 4) ∧ (h 49 5) = (h 49 5) ∧ (h 64 0) = (h 64 0) ∧ (h 76 0) = (h 76 0); omega)⟩
abbrev P_Goers_leastFrom_36_k36_8_58 (F : ov_H) (z : ov_Z) (h : ov_H) (c : Int) : Option ov_V → ov_Z → ov_H → Prop := fun r0 z' h' => ∃ r : Int, r0 = some (ov_i r) ∧ z = z' ∧ h = h' ∧ (-2147483648 ≤ r ∧ r ≤ 2147483647)
set_option maxHeartbeats 4000000 in
theorem c_Goers_leastFrom_36_k36_8_58 {u : ov_U} {F : ov_H} {z : ov_Z} {h : ov_H} (d : Nat) (hd : 1 ≤ d) (U : ov_cap u) (I : ov_I F z h) (c : Int) (k0 : h 36 8 = 58) (g_c : ov_g c) (p0 : 0 ≤ c ∧ c ≤ 53) (p1 : F (-5) 58 = 1) : ov_T u d ov_m133 [ov_r 36, ov_i c] z h (P_Goers_leastFrom_36_k36_8_58 F z h c) := by
  refine ov_en rfl (Nat.le_of_ble_eq_true rfl) ?_
  show ov_R u d ov_m133 0 [(0, ov_r 36), (1, ov_i c)] [] z h (P_Goers_leastFrom_36_k36_8_58 F z h c)
  refine ov_blk (ls2 := [(0, ov_r 36), (1, ov_i c)]) (st2 := [ov_r 36]) (pc2 := 1) b_133_0_1 rfl rfl ?_
  refine ov_getf (v := ov_r 58) d_133_1 fl_Goers_46 (zb_36 I) (zs_36 I) (congrArg ov_r k0) ?_
  refine ov_blk (ls2 := [(0, ov_r 36), (1, ov_i c)]) (st2 := [ov_i c, ov_r 58]) (pc2 := 5) b_133_4_1 rfl rfl ?_
  refine ov_cV (as := [ov_i c]) (st := []) (d2 := d - 1) d_133_5 lk_Goers_147 rfl (Nat.le_of_ble_eq_true rfl) (c := 9) (zb_58 I) (zs_58 I) ⟨by decide, rfl⟩ (by omega) (c_Town_streetsHome_58 (d - 1) (by omega) U I c (by omega) (by omega) (by omega)) ?_
  rintro _ _ _ ⟨v2, rfl, rfl, rfl, f1⟩
  show ov_R u d ov_m133 8 [(0, ov_r 36), (1, ov_i c)] [ov_i v2] z h (P_Goers_leastFrom_36_k36_8_58 F z h c)
  have f3 : -13 ≤ v2 ∧ v2 ≤ 13 ∧ (c = 0 → 0 ≤ v2) := f1
  clear f1
  refine ov_blk (ls2 := [(0, ov_r 36), (1, ov_i c)]) (st2 := [ov_r 36, ov_i v2]) (pc2 := 9) b_133_8_1 rfl rfl ?_
  refine ov_getf (v := ov_i (h 36 14)) d_133_9 fl_Goers_64 (zb_36 I) (zs_36 I) rfl ?_
  have g4 := rg_36_14 I
  refine ov_blk (ls2 := [(0, ov_r 36), (1, ov_i c)]) (st2 := [ov_i (v2 * (h 36 14))]) (pc2 := 13) b_133_12_1 rfl rfl ?_
  refine ov_havw (fun w5 gw5 qw5 => ?_)
  refine ov_blk (ls2 := [(0, ov_r 36), (1, ov_i c)]) (st2 := [ov_r 36, ov_i w5]) (pc2 := 14) b_133_13_1 rfl rfl ?_
  refine ov_getf (v := ov_i (h 36 12)) d_133_14 fl_Goers_50 (zb_36 I) (zs_36 I) rfl ?_
  have g6 := rg_36_12 I
  refine ov_blk (ls2 := [(0, ov_r 36), (1, ov_i c)]) (st2 := [ov_i (w5 * (h 36 12))]) (pc2 := 18) b_133_17_1 rfl rfl ?_
  refine ov_havw (fun w7 gw7 qw7 => ?_)
  exact ov_reti (st := []) d_133_18 rfl ⟨_, rfl, rfl, rfl, (by show -2147483648 ≤ w7 ∧ w7 ≤ 2147483647; omega)⟩
abbrev P_Goers_plainWay_36_k36_8_58 (F : ov_H) (z : ov_Z) (h : ov_H) (c : Int) (ow : Int) (nw : Int) : Option ov_V → ov_Z → ov_H → Prop := fun r0 z' h' => ∃ r : Int, r0 = some (ov_i r) ∧ ov_I F z' h' ∧ ((r = -1 ∨ (r = 0 ∧ c ≤ 52) ∨ (r = 1 ∧ c ≤ 47)) ∧ (h' 36 7) = (h 36 7) ∧ (h' 1 1) = (h 1 1) ∧ (h' 90 2) = (h 90 2) ∧ (h' 0 10) = (h 0 10) ∧ (h' 0 11) = (h 0 11) ∧ (h' 0 12) = (h 0 12) ∧ (h' 0 13) = (h 0 13) ∧ (h' 3 1) = (h 3 1) ∧ (h' 36 8) = (h 36 8) ∧ (h' 46 3) = (h 46 3) ∧ (h' 46 4) = (h 46 4) ∧ (h' 49 4) = (h 49 4) ∧ (h' 49 5) = (h 49 5) ∧ (h' 64 0) = (h 64 0) ∧ (h' 76 0) = (h 76 0))
set_option maxHeartbeats 4000000 in
theorem c_Goers_plainWay_36_k36_8_58 {u : ov_U} {F : ov_H} {z : ov_Z} {h : ov_H} (d : Nat) (hd : 2 ≤ d) (U : ov_cap u) (I : ov_I F z h) (hw : ov_kw 590295810358705651712 F) (c : Int) (ow : Int) (nw : Int) (k0 : h 36 8 = 58) (g_c : ov_g c) (g_ow : ov_g ow) (g_nw : ov_g nw) (p0 : 0 ≤ c ∧ c ≤ 53) : ov_T u d ov_m137 [ov_r 36, ov_i c, ov_i ow, ov_i nw] z h (P_Goers_plainWay_36_k36_8_58 F z h c ow nw) := by
  refine ov_en rfl (Nat.le_of_ble_eq_true rfl) ?_
  show ov_R u d ov_m137 0 [(0, ov_r 36), (1, ov_i c), (2, ov_i ow), (3, ov_i nw)] [] z h (P_Goers_plainWay_36_k36_8_58 F z h c ow nw)
  refine ov_blk (ls2 := [(0, ov_r 36), (1, ov_i c), (2, ov_i ow), (3, ov_i nw)]) (st2 := [ov_r 36]) (pc2 := 1) b_137_0_1 rfl rfl ?_
  refine ov_getf (v := ov_r 58) d_137_1 fl_Goers_46 (zb_36 I) (zs_36 I) (congrArg ov_r k0) ?_
  refine ov_blk (ls2 := [(0, ov_r 36), (1, ov_i c), (2, ov_i ow), (3, ov_i nw)]) (st2 := [ov_i 0, ov_i c, ov_r 58]) (pc2 := 6) b_137_4_2 rfl rfl ?_
  refine ov_cV (as := [ov_i c, ov_i 0]) (st := []) (d2 := d - 1) d_137_6 lk_Goers_87 rfl (Nat.le_of_ble_eq_true rfl) (c := 9) (zb_58 I) (zs_58 I) ⟨by decide, rfl⟩ (by omega) (c_Town_isOpen_58 (d - 1) (by omega) U I c 0 (by omega) (by omega) (by omega)) ?_
  rintro _ _ _ ⟨v2, rfl, rfl, rfl, f1⟩
  show ov_R u d ov_m137 9 [(0, ov_r 36), (1, ov_i c), (2, ov_i ow), (3, ov_i nw)] [ov_i v2] z h (P_Goers_plainWay_36_k36_8_58 F z h c ow nw)
  have f3 : (v2 = 0 ∨ v2 = 1) ∧ (v2 = 1 → ((0 : Int) = 0 ∧ c ≤ 52) ∨ ((0 : Int) = 1 ∧ c ≤ 47)) := f1
  clear f1
  refine ov_blk (ls2 := [(0, ov_r 36), (1, ov_i c), (2, ov_i ow), (3, ov_i nw), (4, ov_i v2)]) (st2 := [ov_r 36]) (pc2 := 12) b_137_9_2 rfl rfl ?_
  refine ov_getf (v := ov_r 58) d_137_12 fl_Goers_46 (zb_36 I) (zs_36 I) (congrArg ov_r k0) ?_
  refine ov_blk (ls2 := [(0, ov_r 36), (1, ov_i c), (2, ov_i ow), (3, ov_i nw), (4, ov_i v2)]) (st2 := [ov_i 1, ov_i c, ov_r 58]) (pc2 := 17) b_137_15_2 rfl rfl ?_
  refine ov_cV (as := [ov_i c, ov_i 1]) (st := []) (d2 := d - 1) d_137_17 lk_Goers_87 rfl (Nat.le_of_ble_eq_true rfl) (c := 9) (zb_58 I) (zs_58 I) ⟨by decide, rfl⟩ (by omega) (c_Town_isOpen_58 (d - 1) (by omega) U I c 1 (by omega) (by omega) (by omega)) ?_
  rintro _ _ _ ⟨v5, rfl, rfl, rfl, f4⟩
  show ov_R u d ov_m137 20 [(0, ov_r 36), (1, ov_i c), (2, ov_i ow), (3, ov_i nw), (4, ov_i v2)] [ov_i v5] z h (P_Goers_plainWay_36_k36_8_58 F z h c ow nw)
  have f6 : (v5 = 0 ∨ v5 = 1) ∧ (v5 = 1 → ((1 : Int) = 0 ∧ c ≤ 52) ∨ ((1 : Int) = 1 ∧ c ≤ 47)) := f4
  clear f4
  refine ov_blk (ls2 := [(0, ov_r 36), (1, ov_i c), (2, ov_i ow), (3, ov_i nw), (4, ov_i v2), (5, ov_i v5)]) (st2 := [ov_i v2]) (pc2 := 24) b_137_20_2 rfl rfl ?_
  refine ov_ifeq (tgt := 32) d_137_24 (by decide) (by omega) (fun c7 => ?_) (fun c7 => ?_)
  · skip
    refine ov_blk (ls2 := [(0, ov_r 36), (1, ov_i c), (2, ov_i ow), (3, ov_i nw), (4, ov_i v2), (5, ov_i v5)]) (st2 := [ov_i v2]) (pc2 := 34) b_137_32_1 rfl rfl ?_
    refine ov_ifeq (tgt := 41) d_137_34 (by decide) (by omega) (fun c8 => ?_) (fun c8 => ?_)
    · skip
      refine ov_blk (ls2 := [(0, ov_r 36), (1, ov_i c), (2, ov_i ow), (3, ov_i nw), (4, ov_i v2), (5, ov_i v5)]) (st2 := [ov_i v5]) (pc2 := 43) b_137_41_1 rfl rfl ?_
      refine ov_ifeq (tgt := 50) d_137_43 (by decide) (by omega) (fun c9 => ?_) (fun c9 => ?_)
      · skip
        refine ov_blk (ls2 := [(0, ov_r 36), (1, ov_i c), (2, ov_i ow), (3, ov_i nw), (4, ov_i v2), (5, ov_i v5)]) (st2 := [ov_i (-1)]) (pc2 := 51) b_137_50_1 rfl rfl ?_
        exact ov_reti (st := []) d_137_51 rfl ⟨_, rfl, I, (by show ((-1) = -1 ∨ ((-1) = 0 ∧ c ≤ 52) ∨ ((-1) = 1 ∧ c ≤ 47)) ∧ (h 36 7) = (h 36 7) ∧ (h 1 1) = (h 1 1) ∧ (h 90 2) = (h 90 2) ∧ (h 0 10) = (h 0 10) ∧ (h 0 11) = (h 0 11) ∧ (h 0 12) = (h 0 12) ∧ (h 0 13) = (h 0 13) ∧ (h 3 1) = (h 3 1) ∧ (h 36 8) = (h 36 8) ∧ (h 46 3) = (h 46 3) ∧ (h 46 4) = (h 46 4) ∧ (h 49 4) = (h 49 4) ∧ (h 49 5) = (h 49 5) ∧ (h 64 0) = (h 64 0) ∧ (h 76 0) = (h 76 0); omega)⟩
      · skip
        refine ov_blk (ls2 := [(0, ov_r 36), (1, ov_i c), (2, ov_i ow), (3, ov_i nw), (4, ov_i v2), (5, ov_i v5)]) (st2 := [ov_i 1]) (pc2 := 47) b_137_46_1 rfl rfl ?_
        refine ov_goto (tgt := 51) d_137_47 (by decide) ?_
        exact ov_reti (st := []) d_137_51 rfl ⟨_, rfl, I, (by show (1 = -1 ∨ (1 = 0 ∧ c ≤ 52) ∨ (1 = 1 ∧ c ≤ 47)) ∧ (h 36 7) = (h 36 7) ∧ (h 1 1) = (h 1 1) ∧ (h 90 2) = (h 90 2) ∧ (h 0 10) = (h 0 10) ∧ (h 0 11) = (h 0 11) ∧ (h 0 12) = (h 0 12) ∧ (h 0 13) = (h 0 13) ∧ (h 3 1) = (h 3 1) ∧ (h 36 8) = (h 36 8) ∧ (h 46 3) = (h 46 3) ∧ (h 46 4) = (h 46 4) ∧ (h 49 4) = (h 49 4) ∧ (h 49 5) = (h 49 5) ∧ (h 64 0) = (h 64 0) ∧ (h 76 0) = (h 76 0); omega)⟩
    · skip
      refine ov_blk (ls2 := [(0, ov_r 36), (1, ov_i c), (2, ov_i ow), (3, ov_i nw), (4, ov_i v2), (5, ov_i v5)]) (st2 := [ov_i 0]) (pc2 := 38) b_137_37_1 rfl rfl ?_
      refine ov_goto (tgt := 51) d_137_38 (by decide) ?_
      exact ov_reti (st := []) d_137_51 rfl ⟨_, rfl, I, (by show (0 = -1 ∨ (0 = 0 ∧ c ≤ 52) ∨ (0 = 1 ∧ c ≤ 47)) ∧ (h 36 7) = (h 36 7) ∧ (h 1 1) = (h 1 1) ∧ (h 90 2) = (h 90 2) ∧ (h 0 10) = (h 0 10) ∧ (h 0 11) = (h 0 11) ∧ (h 0 12) = (h 0 12) ∧ (h 0 13) = (h 0 13) ∧ (h 3 1) = (h 3 1) ∧ (h 36 8) = (h 36 8) ∧ (h 46 3) = (h 46 3) ∧ (h 46 4) = (h 46 4) ∧ (h 49 4) = (h 49 4) ∧ (h 49 5) = (h 49 5) ∧ (h 64 0) = (h 64 0) ∧ (h 76 0) = (h 76 0); omega)⟩
  · skip
    refine ov_blk (ls2 := [(0, ov_r 36), (1, ov_i c), (2, ov_i ow), (3, ov_i nw), (4, ov_i v2), (5, ov_i v5)]) (st2 := [ov_i v5]) (pc2 := 29) b_137_27_1 rfl rfl ?_
    refine ov_ifne (tgt := 52) d_137_29 (by decide) (by omega) (fun c10 => ?_) (fun c10 => ?_)
    · skip
      refine ov_blk (ls2 := [(0, ov_r 36), (1, ov_i c), (2, ov_i ow), (3, ov_i nw), (4, ov_i v2), (5, ov_i v5)]) (st2 := [ov_r 36]) (pc2 := 53) b_137_52_1 rfl rfl ?_
      refine ov_getf (v := ov_i (h 36 10)) d_137_53 fl_Goers_39 (zb_36 I) (zs_36 I) rfl ?_
      have g11 := rg_36_10 I
      by_cases q12 : (h 36 10) = 0
      · refine ov_tin (off := 28) (tgt := 84) d_137_56 (by omega) (by omega) (by rw [q12]; rfl) (by decide) ?_
        refine ov_blk (ls2 := [(0, ov_r 36), (1, ov_i c), (2, ov_i ow), (3, ov_i nw), (4, ov_i v2), (5, ov_i v5)]) (st2 := [ov_i 0]) (pc2 := 85) b_137_84_1 rfl rfl ?_
        exact ov_reti (st := []) d_137_85 rfl ⟨_, rfl, I, (by show (0 = -1 ∨ (0 = 0 ∧ c ≤ 52) ∨ (0 = 1 ∧ c ≤ 47)) ∧ (h 36 7) = (h 36 7) ∧ (h 1 1) = (h 1 1) ∧ (h 90 2) = (h 90 2) ∧ (h 0 10) = (h 0 10) ∧ (h 0 11) = (h 0 11) ∧ (h 0 12) = (h 0 12) ∧ (h 0 13) = (h 0 13) ∧ (h 3 1) = (h 3 1) ∧ (h 36 8) = (h 36 8) ∧ (h 46 3) = (h 46 3) ∧ (h 46 4) = (h 46 4) ∧ (h 49 4) = (h 49 4) ∧ (h 49 5) = (h 49 5) ∧ (h 64 0) = (h 64 0) ∧ (h 76 0) = (h 76 0); omega)⟩
      by_cases q13 : (h 36 10) = 1
      · refine ov_tin (off := 30) (tgt := 86) d_137_56 (by omega) (by omega) (by rw [q13]; rfl) (by decide) ?_
        refine ov_blk (ls2 := [(0, ov_r 36), (1, ov_i c), (2, ov_i ow), (3, ov_i nw), (4, ov_i v2), (5, ov_i v5)]) (st2 := [ov_i 1]) (pc2 := 87) b_137_86_1 rfl rfl ?_
        exact ov_reti (st := []) d_137_87 rfl ⟨_, rfl, I, (by show (1 = -1 ∨ (1 = 0 ∧ c ≤ 52) ∨ (1 = 1 ∧ c ≤ 47)) ∧ (h 36 7) = (h 36 7) ∧ (h 1 1) = (h 1 1) ∧ (h 90 2) = (h 90 2) ∧ (h 0 10) = (h 0 10) ∧ (h 0 11) = (h 0 11) ∧ (h 0 12) = (h 0 12) ∧ (h 0 13) = (h 0 13) ∧ (h 3 1) = (h 3 1) ∧ (h 36 8) = (h 36 8) ∧ (h 46 3) = (h 46 3) ∧ (h 46 4) = (h 46 4) ∧ (h 49 4) = (h 49 4) ∧ (h 49 5) = (h 49 5) ∧ (h 64 0) = (h 64 0) ∧ (h 76 0) = (h 76 0); omega)⟩
      by_cases q14 : (h 36 10) = 2
      · refine ov_tin (off := 32) (tgt := 88) d_137_56 (by omega) (by omega) (by rw [q14]; rfl) (by decide) ?_
        refine ov_blk (ls2 := [(0, ov_r 36), (1, ov_i c), (2, ov_i ow), (3, ov_i nw), (4, ov_i v2), (5, ov_i v5)]) (st2 := [ov_i nw, ov_i ow]) (pc2 := 90) b_137_88_2 rfl rfl ?_
        refine ov_icgt (tgt := 97) d_137_90 (by decide) (by omega) (by omega) (fun c15 => ?_) (fun c15 => ?_)
        · skip
          refine ov_blk (ls2 := [(0, ov_r 36), (1, ov_i c), (2, ov_i ow), (3, ov_i nw), (4, ov_i v2), (5, ov_i v5)]) (st2 := [ov_i 1]) (pc2 := 98) b_137_97_1 rfl rfl ?_
          exact ov_reti (st := []) d_137_98 rfl ⟨_, rfl, I, (by show (1 = -1 ∨ (1 = 0 ∧ c ≤ 52) ∨ (1 = 1 ∧ c ≤ 47)) ∧ (h 36 7) = (h 36 7) ∧ (h 1 1) = (h 1 1) ∧ (h 90 2) = (h 90 2) ∧ (h 0 10) = (h 0 10) ∧ (h 0 11) = (h 0 11) ∧ (h 0 12) = (h 0 12) ∧ (h 0 13) = (h 0 13) ∧ (h 3 1) = (h 3 1) ∧ (h 36 8) = (h 36 8) ∧ (h 46 3) = (h 46 3) ∧ (h 46 4) = (h 46 4) ∧ (h 49 4) = (h 49 4) ∧ (h 49 5) = (h 49 5) ∧ (h 64 0) = (h 64 0) ∧ (h 76 0) = (h 76 0); omega)⟩
        · skip
          refine ov_blk (ls2 := [(0, ov_r 36), (1, ov_i c), (2, ov_i ow), (3, ov_i nw), (4, ov_i v2), (5, ov_i v5)]) (st2 := [ov_i 0]) (pc2 := 94) b_137_93_1 rfl rfl ?_
          refine ov_goto (tgt := 98) d_137_94 (by decide) ?_
          exact ov_reti (st := []) d_137_98 rfl ⟨_, rfl, I, (by show (0 = -1 ∨ (0 = 0 ∧ c ≤ 52) ∨ (0 = 1 ∧ c ≤ 47)) ∧ (h 36 7) = (h 36 7) ∧ (h 1 1) = (h 1 1) ∧ (h 90 2) = (h 90 2) ∧ (h 0 10) = (h 0 10) ∧ (h 0 11) = (h 0 11) ∧ (h 0 12) = (h 0 12) ∧ (h 0 13) = (h 0 13) ∧ (h 3 1) = (h 3 1) ∧ (h 36 8) = (h 36 8) ∧ (h 46 3) = (h 46 3) ∧ (h 46 4) = (h 46 4) ∧ (h 49 4) = (h 49 4) ∧ (h 49 5) = (h 49 5) ∧ (h 64 0) = (h 64 0) ∧ (h 76 0) = (h 76 0); omega)⟩
      refine ov_tout (tgt := 99) d_137_56 (by omega) (by omega) (by decide) ?_
      refine ov_blk (ls2 := [(0, ov_r 36), (1, ov_i c), (2, ov_i ow), (3, ov_i nw), (4, ov_i v2), (5, ov_i v5)]) (st2 := [ov_r 36]) (pc2 := 100) b_137_99_1 rfl rfl ?_
      refine ov_getf (v := ov_r 58) d_137_100 fl_Goers_46 (zb_36 I) (zs_36 I) (congrArg ov_r k0) ?_
      refine ov_blk (ls2 := [(0, ov_r 36), (1, ov_i c), (2, ov_i ow), (3, ov_i nw), (4, ov_i v2), (5, ov_i v5)]) (st2 := [ov_r 36, ov_r 58]) (pc2 := 104) b_137_103_1 rfl rfl ?_
      refine ov_getf (v := ov_i (h 36 10)) d_137_104 fl_Goers_39 (zb_36 I) (zs_36 I) rfl ?_
      refine ov_blk (ls2 := [(0, ov_r 36), (1, ov_i c), (2, ov_i ow), (3, ov_i nw), (4, ov_i v2), (5, ov_i v5)]) (st2 := [ov_i ((h 36 10) - 4), ov_r 58]) (pc2 := 109) b_137_107_2 rfl rfl ?_
      refine ov_hav (fun w17 gw17 => ?_)
      refine ov_blk (ls2 := [(0, ov_r 36), (1, ov_i c), (2, ov_i ow), (3, ov_i nw), (4, ov_i v2), (5, ov_i v5)]) (st2 := [ov_i nw, ov_i ow, ov_i c, ov_i w17, ov_r 58]) (pc2 := 112) b_137_109_3 rfl rfl ?_
      refine ov_cV (as := [ov_i w17, ov_i c, ov_i ow, ov_i nw]) (st := []) (d2 := d - 1) d_137_112 lk_Goers_156 rfl (Nat.le_of_ble_eq_true rfl) (c := 9) (zb_58 I) (zs_58 I) ⟨by decide, rfl⟩ (by omega) (c_Town_ruleSaysOver_58 (d - 1) (by omega) U I (ov_kws hw (by decide +kernel)) w17 c ow nw (by omega) (by omega) (by omega) (by omega) (by omega)) ?_
      rintro _ z20 h21 ⟨v19, rfl, I22, f18⟩
      show ov_R u d ov_m137 115 [(0, ov_r 36), (1, ov_i c), (2, ov_i ow), (3, ov_i nw), (4, ov_i v2), (5, ov_i v5)] [ov_i v19] z20 h21 (P_Goers_plainWay_36_k36_8_58 F z h c ow nw)
      have f23 : (v19 = 0 ∨ v19 = 1) ∧ (h21 36 7) = (h 36 7) ∧ (h21 1 1) = (h 1 1) ∧ (h21 90 2) = (h 90 2) ∧ (h21 0 10) = (h 0 10) ∧ (h21 0 11) = (h 0 11) ∧ (h21 0 12) = (h 0 12) ∧ (h21 0 13) = (h 0 13) ∧ (h21 3 1) = (h 3 1) ∧ (h21 36 8) = (h 36 8) ∧ (h21 46 3) = (h 46 3) ∧ (h21 46 4) = (h 46 4) ∧ (h21 49 4) = (h 49 4) ∧ (h21 49 5) = (h 49 5) ∧ (h21 64 0) = (h 64 0) ∧ (h21 76 0) = (h 76 0) := f18
      clear f18
      have e24 : h21 36 8 = 58 := by omega
      refine ov_ifeq (tgt := 122) d_137_115 (by decide) (by omega) (fun c25 => ?_) (fun c25 => ?_)
      · skip
        refine ov_blk (ls2 := [(0, ov_r 36), (1, ov_i c), (2, ov_i ow), (3, ov_i nw), (4, ov_i v2), (5, ov_i v5)]) (st2 := [ov_i 1]) (pc2 := 123) b_137_122_1 rfl rfl ?_
        exact ov_reti (st := []) d_137_123 rfl ⟨_, rfl, I22, (by show (1 = -1 ∨ (1 = 0 ∧ c ≤ 52) ∨ (1 = 1 ∧ c ≤ 47)) ∧ (h21 36 7) = (h 36 7) ∧ (h21 1 1) = (h 1 1) ∧ (h21 90 2) = (h 90 2) ∧ (h21 0 10) = (h 0 10) ∧ (h21 0 11) = (h 0 11) ∧ (h21 0 12) = (h 0 12) ∧ (h21 0 13) = (h 0 13) ∧ (h21 3 1) = (h 3 1) ∧ (h21 36 8) = (h 36 8) ∧ (h21 46 3) = (h 46 3) ∧ (h21 46 4) = (h 46 4) ∧ (h21 49 4) = (h 49 4) ∧ (h21 49 5) = (h 49 5) ∧ (h21 64 0) = (h 64 0) ∧ (h21 76 0) = (h 76 0); omega)⟩
      · skip
        refine ov_blk (ls2 := [(0, ov_r 36), (1, ov_i c), (2, ov_i ow), (3, ov_i nw), (4, ov_i v2), (5, ov_i v5)]) (st2 := [ov_i 0]) (pc2 := 119) b_137_118_1 rfl rfl ?_
        refine ov_goto (tgt := 123) d_137_119 (by decide) ?_
        exact ov_reti (st := []) d_137_123 rfl ⟨_, rfl, I22, (by show (0 = -1 ∨ (0 = 0 ∧ c ≤ 52) ∨ (0 = 1 ∧ c ≤ 47)) ∧ (h21 36 7) = (h 36 7) ∧ (h21 1 1) = (h 1 1) ∧ (h21 90 2) = (h 90 2) ∧ (h21 0 10) = (h 0 10) ∧ (h21 0 11) = (h 0 11) ∧ (h21 0 12) = (h 0 12) ∧ (h21 0 13) = (h 0 13) ∧ (h21 3 1) = (h 3 1) ∧ (h21 36 8) = (h 36 8) ∧ (h21 46 3) = (h 46 3) ∧ (h21 46 4) = (h 46 4) ∧ (h21 49 4) = (h 49 4) ∧ (h21 49 5) = (h 49 5) ∧ (h21 64 0) = (h 64 0) ∧ (h21 76 0) = (h 76 0); omega)⟩
    · skip
      refine ov_blk (ls2 := [(0, ov_r 36), (1, ov_i c), (2, ov_i ow), (3, ov_i nw), (4, ov_i v2), (5, ov_i v5)]) (st2 := [ov_i v2]) (pc2 := 34) b_137_32_1 rfl rfl ?_
      refine ov_ifeq (tgt := 41) d_137_34 (by decide) (by omega) (fun c26 => ?_) (fun c26 => ?_)
      · skip
        refine ov_blk (ls2 := [(0, ov_r 36), (1, ov_i c), (2, ov_i ow), (3, ov_i nw), (4, ov_i v2), (5, ov_i v5)]) (st2 := [ov_i v5]) (pc2 := 43) b_137_41_1 rfl rfl ?_
        refine ov_ifeq (tgt := 50) d_137_43 (by decide) (by omega) (fun c27 => ?_) (fun c27 => ?_)
        · skip
          refine ov_blk (ls2 := [(0, ov_r 36), (1, ov_i c), (2, ov_i ow), (3, ov_i nw), (4, ov_i v2), (5, ov_i v5)]) (st2 := [ov_i (-1)]) (pc2 := 51) b_137_50_1 rfl rfl ?_
          exact ov_reti (st := []) d_137_51 rfl ⟨_, rfl, I, (by show ((-1) = -1 ∨ ((-1) = 0 ∧ c ≤ 52) ∨ ((-1) = 1 ∧ c ≤ 47)) ∧ (h 36 7) = (h 36 7) ∧ (h 1 1) = (h 1 1) ∧ (h 90 2) = (h 90 2) ∧ (h 0 10) = (h 0 10) ∧ (h 0 11) = (h 0 11) ∧ (h 0 12) = (h 0 12) ∧ (h 0 13) = (h 0 13) ∧ (h 3 1) = (h 3 1) ∧ (h 36 8) = (h 36 8) ∧ (h 46 3) = (h 46 3) ∧ (h 46 4) = (h 46 4) ∧ (h 49 4) = (h 49 4) ∧ (h 49 5) = (h 49 5) ∧ (h 64 0) = (h 64 0) ∧ (h 76 0) = (h 76 0); omega)⟩
        · skip
          refine ov_blk (ls2 := [(0, ov_r 36), (1, ov_i c), (2, ov_i ow), (3, ov_i nw), (4, ov_i v2), (5, ov_i v5)]) (st2 := [ov_i 1]) (pc2 := 47) b_137_46_1 rfl rfl ?_
          refine ov_goto (tgt := 51) d_137_47 (by decide) ?_
          exact ov_reti (st := []) d_137_51 rfl ⟨_, rfl, I, (by show (1 = -1 ∨ (1 = 0 ∧ c ≤ 52) ∨ (1 = 1 ∧ c ≤ 47)) ∧ (h 36 7) = (h 36 7) ∧ (h 1 1) = (h 1 1) ∧ (h 90 2) = (h 90 2) ∧ (h 0 10) = (h 0 10) ∧ (h 0 11) = (h 0 11) ∧ (h 0 12) = (h 0 12) ∧ (h 0 13) = (h 0 13) ∧ (h 3 1) = (h 3 1) ∧ (h 36 8) = (h 36 8) ∧ (h 46 3) = (h 46 3) ∧ (h 46 4) = (h 46 4) ∧ (h 49 4) = (h 49 4) ∧ (h 49 5) = (h 49 5) ∧ (h 64 0) = (h 64 0) ∧ (h 76 0) = (h 76 0); omega)⟩
      · skip
        refine ov_blk (ls2 := [(0, ov_r 36), (1, ov_i c), (2, ov_i ow), (3, ov_i nw), (4, ov_i v2), (5, ov_i v5)]) (st2 := [ov_i 0]) (pc2 := 38) b_137_37_1 rfl rfl ?_
        refine ov_goto (tgt := 51) d_137_38 (by decide) ?_
        exact ov_reti (st := []) d_137_51 rfl ⟨_, rfl, I, (by show (0 = -1 ∨ (0 = 0 ∧ c ≤ 52) ∨ (0 = 1 ∧ c ≤ 47)) ∧ (h 36 7) = (h 36 7) ∧ (h 1 1) = (h 1 1) ∧ (h 90 2) = (h 90 2) ∧ (h 0 10) = (h 0 10) ∧ (h 0 11) = (h 0 11) ∧ (h 0 12) = (h 0 12) ∧ (h 0 13) = (h 0 13) ∧ (h 3 1) = (h 3 1) ∧ (h 36 8) = (h 36 8) ∧ (h 46 3) = (h 46 3) ∧ (h 46 4) = (h 46 4) ∧ (h 49 4) = (h 49 4) ∧ (h 49 5) = (h 49 5) ∧ (h 64 0) = (h 64 0) ∧ (h 76 0) = (h 76 0); omega)⟩
abbrev P_Goers_valueBy_36_k36_8_58 (F : ov_H) (z : ov_Z) (h : ov_H) (c : Int) (way : Int) (s : Int) (w : Int) : Option ov_V → ov_Z → ov_H → Prop := fun r0 z' h' => ∃ r : Int, r0 = some (ov_i r) ∧ ov_I F z' h' ∧ (-2147483648 ≤ r ∧ r ≤ 2147483647 ∧ (¬ r = -1 → ((way = 0 ∧ c ≤ 52) ∨ (way = 1 ∧ c ≤ 47))) ∧ h' 36 7 = h 36 7 ∧ h' 1 1 = h 1 1 ∧ h' 90 2 = h 90 2 ∧ h' 0 10 = h 0 10 ∧ h' 0 11 = h 0 11 ∧ h' 0 12 = h 0 12 ∧ h' 0 13 = h 0 13 ∧ h' 3 1 = h 3 1 ∧ h' 36 8 = h 36 8 ∧ h' 46 3 = h 46 3 ∧ h' 46 4 = h 46 4 ∧ h' 49 4 = h 49 4 ∧ h' 49 5 = h 49 5 ∧ h' 64 0 = h 64 0 ∧ h' 76 0 = h 76 0)
abbrev P_Goers_bestWhile_36_k36_8_58 (F : ov_H) (z : ov_Z) (h : ov_H) (gr : Int) (c : Int) (lt : Int) (s : Int) (n : Int) : Option ov_V → ov_Z → ov_H → Prop := fun r0 z' h' => ∃ r : Int, r0 = some (ov_i r) ∧ ov_I F z' h' ∧ (-2147483648 ≤ r ∧ r ≤ 2147483647 ∧ h' 36 7 = h 36 7 ∧ h' 1 1 = h 1 1 ∧ h' 90 2 = h 90 2 ∧ h' 0 10 = h 0 10 ∧ h' 0 11 = h 0 11 ∧ h' 0 12 = h 0 12 ∧ h' 0 13 = h 0 13 ∧ h' 3 1 = h 3 1 ∧ h' 36 8 = h 36 8 ∧ h' 46 3 = h 46 3 ∧ h' 46 4 = h 46 4 ∧ h' 49 4 = h 49 4 ∧ h' 49 5 = h 49 5 ∧ h' 64 0 = h 64 0 ∧ h' 76 0 = h 76 0)
abbrev P_Goers_valueSeen_36_k36_8_58 (F : ov_H) (z : ov_Z) (h : ov_H) (c : Int) (s : Int) (ow : Int) (nw : Int) : Option ov_V → ov_Z → ov_H → Prop := fun r0 z' h' => ∃ r : Int, r0 = some (ov_i r) ∧ ov_I F z' h' ∧ (-2147483648 ≤ r ∧ r ≤ 2147483647 ∧ h' 36 7 = h 36 7 ∧ h' 1 1 = h 1 1 ∧ h' 90 2 = h 90 2 ∧ h' 0 10 = h 0 10 ∧ h' 0 11 = h 0 11 ∧ h' 0 12 = h 0 12 ∧ h' 0 13 = h 0 13 ∧ h' 3 1 = h 3 1 ∧ h' 36 8 = h 36 8 ∧ h' 46 3 = h 46 3 ∧ h' 46 4 = h 46 4 ∧ h' 49 4 = h 49 4 ∧ h' 49 5 = h 49 5 ∧ h' 64 0 = h 64 0 ∧ h' 76 0 = h 76 0)
abbrev P_Goers_wayOf_36_k36_8_58 (F : ov_H) (z : ov_Z) (h : ov_H) (c : Int) (s : Int) (sn : Int) : Option ov_V → ov_Z → ov_H → Prop := fun r0 z' h' => ∃ r : Int, r0 = some (ov_i r) ∧ ov_I F z' h' ∧ ((r = -1 ∨ (r = 0 ∧ c ≤ 52) ∨ (r = 1 ∧ c ≤ 47)) ∧ h' 36 7 = h 36 7 ∧ h' 1 1 = h 1 1 ∧ h' 90 2 = h 90 2 ∧ h' 0 10 = h 0 10 ∧ h' 0 11 = h 0 11 ∧ h' 0 12 = h 0 12 ∧ h' 0 13 = h 0 13 ∧ h' 3 1 = h 3 1 ∧ h' 36 8 = h 36 8 ∧ h' 46 3 = h 46 3 ∧ h' 46 4 = h 46 4 ∧ h' 49 4 = h 49 4 ∧ h' 49 5 = h 49 5 ∧ h' 64 0 = h 64 0 ∧ h' 76 0 = h 76 0)
abbrev P_Goers_bestOverRound_36_k36_8_58 (F : ov_H) (z : ov_Z) (h : ov_H) (c : Int) (s : Int) : Option ov_V → ov_Z → ov_H → Prop := fun r0 z' h' => ∃ r : Int, r0 = some (ov_i r) ∧ ov_I F z' h' ∧ (-2147483648 ≤ r ∧ r ≤ 2147483647 ∧ h' 36 7 = h 36 7 ∧ h' 1 1 = h 1 1 ∧ h' 90 2 = h 90 2 ∧ h' 0 10 = h 0 10 ∧ h' 0 11 = h 0 11 ∧ h' 0 12 = h 0 12 ∧ h' 0 13 = h 0 13 ∧ h' 3 1 = h 3 1 ∧ h' 36 8 = h 36 8 ∧ h' 46 3 = h 46 3 ∧ h' 46 4 = h 46 4 ∧ h' 49 4 = h 49 4 ∧ h' 49 5 = h 49 5 ∧ h' 64 0 = h 64 0 ∧ h' 76 0 = h 76 0)
abbrev P_Goers_valueOverRound_36_k36_8_58 (F : ov_H) (z : ov_Z) (h : ov_H) (c : Int) (s : Int) : Option ov_V → ov_Z → ov_H → Prop := fun r0 z' h' => ∃ r : Int, r0 = some (ov_i r) ∧ ov_I F z' h' ∧ (-2147483648 ≤ r ∧ r ≤ 2147483647 ∧ h' 36 7 = h 36 7 ∧ h' 1 1 = h 1 1 ∧ h' 90 2 = h 90 2 ∧ h' 0 10 = h 0 10 ∧ h' 0 11 = h 0 11 ∧ h' 0 12 = h 0 12 ∧ h' 0 13 = h 0 13 ∧ h' 3 1 = h 3 1 ∧ h' 36 8 = h 36 8 ∧ h' 46 3 = h 46 3 ∧ h' 46 4 = h 46 4 ∧ h' 49 4 = h 49 4 ∧ h' 49 5 = h 49 5 ∧ h' 64 0 = h 64 0 ∧ h' 76 0 = h 76 0)
abbrev P_Goers_valueAt_36_k36_8_58 (F : ov_H) (z : ov_Z) (h : ov_H) (c : Int) (s : Int) : Option ov_V → ov_Z → ov_H → Prop := fun r0 z' h' => ∃ r : Int, r0 = some (ov_i r) ∧ ov_I F z' h' ∧ (-2147483648 ≤ r ∧ r ≤ 2147483647 ∧ h' 36 7 = h 36 7 ∧ h' 1 1 = h 1 1 ∧ h' 90 2 = h 90 2 ∧ h' 0 10 = h 0 10 ∧ h' 0 11 = h 0 11 ∧ h' 0 12 = h 0 12 ∧ h' 0 13 = h 0 13 ∧ h' 3 1 = h 3 1 ∧ h' 36 8 = h 36 8 ∧ h' 46 3 = h 46 3 ∧ h' 46 4 = h 46 4 ∧ h' 49 4 = h 49 4 ∧ h' 49 5 = h 49 5 ∧ h' 64 0 = h 64 0 ∧ h' 76 0 = h 76 0)
set_option maxHeartbeats 4000000 in
theorem c_Goers_valueBy_36_k36_8_58 {u : ov_U} {F : ov_H} (k : Nat) (HV : ∀ k' : Nat, k' < k → ∀ {z : ov_Z} {h : ov_H} (d : Nat) (hd : (10 + 5 * k' + 3) ≤ d) (U : ov_cap u) (I : ov_I F z h) (hw : ov_kw 590295810358705651712 F) (c : Int) (s : Int) (k0 : h 36 8 = 58) (g_c : ov_g c) (g_s : ov_g s) (p0 : 0 ≤ c ∧ c + (k' : Int) = 53) (p1 : F (-5) 58 = 1), ov_T u d ov_m127 [ov_r 36, ov_i c, ov_i s] z h (P_Goers_valueAt_36_k36_8_58 F z h c s)) {z : ov_Z} {h : ov_H} (d : Nat) (hd : (10 + 5 * k + 0) ≤ d) (U : ov_cap u) (I : ov_I F z h) (hw : ov_kw 590295810358705651712 F) (c : Int) (way : Int) (s : Int) (w : Int) (k0 : h 36 8 = 58) (g_c : ov_g c) (g_way : ov_g way) (g_s : ov_g s) (g_w : ov_g w) (p0 : 0 ≤ c ∧ c + (k : Int) = 53) (p1 : F (-5) 58 = 1) : ov_T u d ov_m131 [ov_r 36, ov_i c, ov_i way, ov_i s, ov_i w] z h (P_Goers_valueBy_36_k36_8_58 F z h c way s w) := by
  refine ov_en rfl (Nat.le_of_ble_eq_true rfl) ?_
  show ov_R u d ov_m131 0 [(0, ov_r 36), (1, ov_i c), (2, ov_i way), (3, ov_i s), (4, ov_i w)] [] z h (P_Goers_valueBy_36_k36_8_58 F z h c way s w)
  refine ov_blk (ls2 := [(0, ov_r 36), (1, ov_i c), (2, ov_i way), (3, ov_i s), (4, ov_i w)]) (st2 := [ov_r 36]) (pc2 := 1) b_131_0_1 rfl rfl ?_
  refine ov_getf (v := ov_r 58) d_131_1 fl_Goers_46 (zb_36 I) (zs_36 I) (congrArg ov_r k0) ?_
  refine ov_blk (ls2 := [(0, ov_r 36), (1, ov_i c), (2, ov_i way), (3, ov_i s), (4, ov_i w)]) (st2 := [ov_i way, ov_i c, ov_r 58]) (pc2 := 6) b_131_4_2 rfl rfl ?_
  refine ov_cV (as := [ov_i c, ov_i way]) (st := []) (d2 := d - 1) d_131_6 lk_Goers_87 rfl (Nat.le_of_ble_eq_true rfl) (c := 9) (zb_58 I) (zs_58 I) ⟨by decide, rfl⟩ (by omega) (c_Town_isOpen_58 (d - 1) (by omega) U I c way (by omega) (by omega) (by omega)) ?_
  rintro _ _ _ ⟨v2, rfl, rfl, rfl, f1⟩
  show ov_R u d ov_m131 9 [(0, ov_r 36), (1, ov_i c), (2, ov_i way), (3, ov_i s), (4, ov_i w)] [ov_i v2] z h (P_Goers_valueBy_36_k36_8_58 F z h c way s w)
  have f3 : (v2 = 0 ∨ v2 = 1) ∧ (v2 = 1 → (way = 0 ∧ c ≤ 52) ∨ (way = 1 ∧ c ≤ 47)) := f1
  clear f1
  refine ov_ifne (tgt := 14) d_131_9 (by decide) (by omega) (fun c4 => ?_) (fun c4 => ?_)
  · skip
    refine ov_blk (ls2 := [(0, ov_r 36), (1, ov_i c), (2, ov_i way), (3, ov_i s), (4, ov_i w)]) (st2 := [ov_r 36, ov_i w]) (pc2 := 17) b_131_14_2 rfl rfl ?_
    refine ov_getf (v := ov_i (h 36 14)) d_131_17 fl_Goers_64 (zb_36 I) (zs_36 I) rfl ?_
    have g5 := rg_36_14 I
    refine ov_blk (ls2 := [(0, ov_r 36), (1, ov_i c), (2, ov_i way), (3, ov_i s), (4, ov_i w)]) (st2 := [ov_i (w + (h 36 14))]) (pc2 := 21) b_131_20_1 rfl rfl ?_
    refine ov_hav (fun w6 gw6 => ?_)
    refine ov_blk (ls2 := [(0, ov_r 36), (1, ov_i c), (2, ov_i way), (3, ov_i s), (4, ov_i w), (5, ov_i w6)]) (st2 := [ov_r 36, ov_r 36]) (pc2 := 25) b_131_21_3 rfl rfl ?_
    refine ov_getf (v := ov_r 58) d_131_25 fl_Goers_46 (zb_36 I) (zs_36 I) (congrArg ov_r k0) ?_
    refine ov_blk (ls2 := [(0, ov_r 36), (1, ov_i c), (2, ov_i way), (3, ov_i s), (4, ov_i w), (5, ov_i w6)]) (st2 := [ov_i way, ov_i c, ov_r 58, ov_r 36]) (pc2 := 30) b_131_28_2 rfl rfl ?_
    refine ov_cV (as := [ov_i c, ov_i way]) (st := [ov_r 36]) (d2 := d - 1) d_131_30 lk_Goers_91 rfl (Nat.le_of_ble_eq_true rfl) (c := 9) (zb_58 I) (zs_58 I) ⟨by decide, rfl⟩ (by omega) (c_Town_after_58 (d - 1) (by omega) U I c way (by omega) (by omega) (by omega)) ?_
    rintro _ _ _ ⟨v8, rfl, rfl, rfl, f7⟩
    show ov_R u d ov_m131 33 [(0, ov_r 36), (1, ov_i c), (2, ov_i way), (3, ov_i s), (4, ov_i w), (5, ov_i w6)] [ov_i v8, ov_r 36] z h (P_Goers_valueBy_36_k36_8_58 F z h c way s w)
    have f9 : (way = 0 → v8 = c + 1) ∧ (¬ way = 0 → v8 = c + 6) := f7
    clear f7
    refine ov_blk (ls2 := [(0, ov_r 36), (1, ov_i c), (2, ov_i way), (3, ov_i s), (4, ov_i w), (5, ov_i w6)]) (st2 := [ov_i (s + w6), ov_i v8, ov_r 36]) (pc2 := 37) b_131_33_3 rfl rfl ?_
    refine ov_hav (fun w10 gw10 => ?_)
    refine ov_cV (as := [ov_i v8, ov_i w10]) (st := []) (d2 := d - 1) d_131_37 lk_Goers_153 rfl (Nat.le_of_ble_eq_true rfl) (c := 2) (zb_36 I) (zs_36 I) ⟨by decide, rfl⟩ (by omega) (HV (Int.toNat (53 - (v8))) (by omega) (d - 1) (by omega) U I (ov_kws hw (by decide +kernel)) v8 w10 k0 (by omega) (by omega) (by omega) (by omega)) ?_
    rintro _ z13 h14 ⟨v12, rfl, I15, f11⟩
    show ov_R u d ov_m131 40 [(0, ov_r 36), (1, ov_i c), (2, ov_i way), (3, ov_i s), (4, ov_i w), (5, ov_i w6)] [ov_i v12] z13 h14 (P_Goers_valueBy_36_k36_8_58 F z h c way s w)
    have f16 : -2147483648 ≤ v12 ∧ v12 ≤ 2147483647 ∧ (h14 36 7) = (h 36 7) ∧ (h14 1 1) = (h 1 1) ∧ (h14 90 2) = (h 90 2) ∧ (h14 0 10) = (h 0 10) ∧ (h14 0 11) = (h 0 11) ∧ (h14 0 12) = (h 0 12) ∧ (h14 0 13) = (h 0 13) ∧ (h14 3 1) = (h 3 1) ∧ (h14 36 8) = (h 36 8) ∧ (h14 46 3) = (h 46 3) ∧ (h14 46 4) = (h 46 4) ∧ (h14 49 4) = (h 49 4) ∧ (h14 49 5) = (h 49 5) ∧ (h14 64 0) = (h 64 0) ∧ (h14 76 0) = (h 76 0) := f11
    clear f11
    have e17 : h14 36 8 = 58 := by omega
    refine ov_blk (ls2 := [(0, ov_r 36), (1, ov_i c), (2, ov_i way), (3, ov_i s), (4, ov_i w), (5, ov_i w6), (6, ov_i v12)]) (st2 := [ov_i (-1), ov_i v12]) (pc2 := 45) b_131_40_3 rfl rfl ?_
    refine ov_icne (tgt := 52) d_131_45 (by decide) (by omega) (by omega) (fun c18 => ?_) (fun c18 => ?_)
    · skip
      refine ov_blk (ls2 := [(0, ov_r 36), (1, ov_i c), (2, ov_i way), (3, ov_i s), (4, ov_i w), (5, ov_i w6), (6, ov_i v12)]) (st2 := [ov_r 36, ov_i w6, ov_i v12]) (pc2 := 57) b_131_52_3 rfl rfl ?_
      refine ov_getf (v := ov_i (h14 36 12)) d_131_57 fl_Goers_50 (zb_36 I15) (zs_36 I15) rfl ?_
      have g19 := rg_36_12 I15
      refine ov_blk (ls2 := [(0, ov_r 36), (1, ov_i c), (2, ov_i way), (3, ov_i s), (4, ov_i w), (5, ov_i w6), (6, ov_i v12)]) (st2 := [ov_i (w6 * (h14 36 12)), ov_i v12]) (pc2 := 61) b_131_60_1 rfl rfl ?_
      refine ov_hav (fun w20 gw20 => ?_)
      refine ov_blk (ls2 := [(0, ov_r 36), (1, ov_i c), (2, ov_i way), (3, ov_i s), (4, ov_i w), (5, ov_i w6), (6, ov_i v12)]) (st2 := [ov_i (v12 + w20)]) (pc2 := 62) b_131_61_1 rfl rfl ?_
      refine ov_hav (fun w21 gw21 => ?_)
      exact ov_reti (st := []) d_131_62 rfl ⟨_, rfl, I15, (by show -2147483648 ≤ w21 ∧ w21 ≤ 2147483647 ∧ (¬ w21 = -1 → ((way = 0 ∧ c ≤ 52) ∨ (way = 1 ∧ c ≤ 47))) ∧ (h14 36 7) = (h 36 7) ∧ (h14 1 1) = (h 1 1) ∧ (h14 90 2) = (h 90 2) ∧ (h14 0 10) = (h 0 10) ∧ (h14 0 11) = (h 0 11) ∧ (h14 0 12) = (h 0 12) ∧ (h14 0 13) = (h 0 13) ∧ (h14 3 1) = (h 3 1) ∧ (h14 36 8) = (h 36 8) ∧ (h14 46 3) = (h 46 3) ∧ (h14 46 4) = (h 46 4) ∧ (h14 49 4) = (h 49 4) ∧ (h14 49 5) = (h 49 5) ∧ (h14 64 0) = (h 64 0) ∧ (h14 76 0) = (h 76 0); omega)⟩
    · skip
      refine ov_blk (ls2 := [(0, ov_r 36), (1, ov_i c), (2, ov_i way), (3, ov_i s), (4, ov_i w), (5, ov_i w6), (6, ov_i v12)]) (st2 := [ov_i (-1)]) (pc2 := 49) b_131_48_1 rfl rfl ?_
      refine ov_goto (tgt := 62) d_131_49 (by decide) ?_
      exact ov_reti (st := []) d_131_62 rfl ⟨_, rfl, I15, (by show -2147483648 ≤ (-1) ∧ (-1) ≤ 2147483647 ∧ (¬ (-1) = -1 → ((way = 0 ∧ c ≤ 52) ∨ (way = 1 ∧ c ≤ 47))) ∧ (h14 36 7) = (h 36 7) ∧ (h14 1 1) = (h 1 1) ∧ (h14 90 2) = (h 90 2) ∧ (h14 0 10) = (h 0 10) ∧ (h14 0 11) = (h 0 11) ∧ (h14 0 12) = (h 0 12) ∧ (h14 0 13) = (h 0 13) ∧ (h14 3 1) = (h 3 1) ∧ (h14 36 8) = (h 36 8) ∧ (h14 46 3) = (h 46 3) ∧ (h14 46 4) = (h 46 4) ∧ (h14 49 4) = (h 49 4) ∧ (h14 49 5) = (h 49 5) ∧ (h14 64 0) = (h 64 0) ∧ (h14 76 0) = (h 76 0); omega)⟩
  · skip
    refine ov_blk (ls2 := [(0, ov_r 36), (1, ov_i c), (2, ov_i way), (3, ov_i s), (4, ov_i w)]) (st2 := [ov_i (-1)]) (pc2 := 13) b_131_12_1 rfl rfl ?_
    exact ov_reti (st := []) d_131_13 rfl ⟨_, rfl, I, (by show -2147483648 ≤ (-1) ∧ (-1) ≤ 2147483647 ∧ (¬ (-1) = -1 → ((way = 0 ∧ c ≤ 52) ∨ (way = 1 ∧ c ≤ 47))) ∧ (h 36 7) = (h 36 7) ∧ (h 1 1) = (h 1 1) ∧ (h 90 2) = (h 90 2) ∧ (h 0 10) = (h 0 10) ∧ (h 0 11) = (h 0 11) ∧ (h 0 12) = (h 0 12) ∧ (h 0 13) = (h 0 13) ∧ (h 3 1) = (h 3 1) ∧ (h 36 8) = (h 36 8) ∧ (h 46 3) = (h 46 3) ∧ (h 46 4) = (h 46 4) ∧ (h 49 4) = (h 49 4) ∧ (h 49 5) = (h 49 5) ∧ (h 64 0) = (h 64 0) ∧ (h 76 0) = (h 76 0); omega)⟩
set_option maxHeartbeats 4000000 in
theorem c_Goers_bestWhile_36_k36_8_58 {u : ov_U} {F : ov_H} (k : Nat) (HV : ∀ k' : Nat, k' < k → ∀ {z : ov_Z} {h : ov_H} (d : Nat) (hd : (10 + 5 * k' + 3) ≤ d) (U : ov_cap u) (I : ov_I F z h) (hw : ov_kw 590295810358705651712 F) (c : Int) (s : Int) (k0 : h 36 8 = 58) (g_c : ov_g c) (g_s : ov_g s) (p0 : 0 ≤ c ∧ c + (k' : Int) = 53) (p1 : F (-5) 58 = 1), ov_T u d ov_m127 [ov_r 36, ov_i c, ov_i s] z h (P_Goers_valueAt_36_k36_8_58 F z h c s)) {z : ov_Z} {h : ov_H} (d : Nat) (hd : (10 + 5 * k + 1) ≤ d) (U : ov_cap u) (I : ov_I F z h) (hw : ov_kw 590295810358705651712 F) (gr : Int) (c : Int) (lt : Int) (s : Int) (n : Int) (k0 : h 36 8 = 58) (g_gr : ov_g gr) (g_c : ov_g c) (g_lt : ov_g lt) (g_s : ov_g s) (g_n : ov_g n) (p0 : 0 ≤ c ∧ c + (k : Int) = 53) (p1 : n ≤ 60) (p2 : F (-5) 58 = 1) : ov_T u d ov_m132 [ov_r 36, ov_i gr, ov_i c, ov_i lt, ov_i s, ov_i n] z h (P_Goers_bestWhile_36_k36_8_58 F z h gr c lt s n) := by
  refine ov_en rfl (Nat.le_of_ble_eq_true rfl) ?_
  show ov_R u d ov_m132 0 [(0, ov_r 36), (1, ov_i gr), (2, ov_i c), (3, ov_i lt), (4, ov_i s), (5, ov_i n)] [] z h (P_Goers_bestWhile_36_k36_8_58 F z h gr c lt s n)
  refine ov_blk (ls2 := [(0, ov_r 36), (1, ov_i gr), (2, ov_i c), (3, ov_i lt), (4, ov_i s), (5, ov_i n), (6, ov_i 0)]) (st2 := [ov_i c, ov_r 36]) (pc2 := 5) b_132_0_4 rfl rfl ?_
  refine ov_cV (as := [ov_i c]) (st := []) (d2 := d - 1) d_132_5 lk_Goers_141 rfl (Nat.le_of_ble_eq_true rfl) (c := 2) (zb_36 I) (zs_36 I) ⟨by decide, rfl⟩ (by omega) (c_Goers_leastFrom_36_k36_8_58 (d - 1) (by omega) U I c k0 (by omega) (by omega) (by omega)) ?_
  rintro _ _ _ ⟨v2, rfl, rfl, rfl, f1⟩
  show ov_R u d ov_m132 8 [(0, ov_r 36), (1, ov_i gr), (2, ov_i c), (3, ov_i lt), (4, ov_i s), (5, ov_i n), (6, ov_i 0)] [ov_i v2] z h (P_Goers_bestWhile_36_k36_8_58 F z h gr c lt s n)
  have f3 : -2147483648 ≤ v2 ∧ v2 ≤ 2147483647 := f1
  clear f1
  refine ov_blk (ls2 := [(0, ov_r 36), (1, ov_i gr), (2, ov_i c), (3, ov_i lt), (4, ov_i s), (5, ov_i n), (6, ov_i 0), (7, ov_i v2), (8, ov_i 1)]) (st2 := []) (pc2 := 13) b_132_8_3 rfl rfl ?_
  have L7 : ∀ (n4 : Nat) (x6 : Int) (x8 : Int) (z8 : ov_Z) (h9 : ov_H) (I10 : ov_I F z8 h9) (q6 : ov_g x6 ∧ 1 ≤ x8 ∧ x8 ≤ 61 ∧ (h9 36 7) = (h 36 7) ∧ (h9 1 1) = (h 1 1) ∧ (h9 90 2) = (h 90 2) ∧ (h9 0 10) = (h 0 10) ∧ (h9 0 11) = (h 0 11) ∧ (h9 0 12) = (h 0 12) ∧ (h9 0 13) = (h 0 13) ∧ (h9 3 1) = (h 3 1) ∧ (h9 36 8) = (h 36 8) ∧ (h9 46 3) = (h 46 3) ∧ (h9 46 4) = (h 46 4) ∧ (h9 49 4) = (h 49 4) ∧ (h9 49 5) = (h 49 5) ∧ (h9 64 0) = (h 64 0) ∧ (h9 76 0) = (h 76 0) ∧ h9 36 8 = 58), 61 - x8 < (n4 : Int) → ov_R u d ov_m132 13 [(0, ov_r 36), (1, ov_i gr), (2, ov_i c), (3, ov_i lt), (4, ov_i s), (5, ov_i n), (6, ov_i x6), (7, ov_i v2), (8, ov_i x8)] [] z8 h9 (P_Goers_bestWhile_36_k36_8_58 F z h gr c lt s n) := by
    intro n4
    induction n4 with
    | zero =>
      intro x6 x8 z8 h9 I10 q6 hn11
      exact absurd hn11 (by omega)
    | succ n4 ih5 =>
      intro x6 x8 z8 h9 I10 q6 hn11
      have e12 : h9 36 8 = 58 := by omega
      refine ov_blk (ls2 := [(0, ov_r 36), (1, ov_i gr), (2, ov_i c), (3, ov_i lt), (4, ov_i s), (5, ov_i n), (6, ov_i x6), (7, ov_i v2), (8, ov_i x8)]) (st2 := [ov_i n, ov_i x8]) (pc2 := 17) b_132_13_2 rfl rfl ?_
      refine ov_icgt (tgt := 122) d_132_17 (by decide) (by omega) (by omega) (fun c13 => ?_) (fun c13 => ?_)
      · skip
        refine ov_blk (ls2 := [(0, ov_r 36), (1, ov_i gr), (2, ov_i c), (3, ov_i lt), (4, ov_i s), (5, ov_i n), (6, ov_i x6), (7, ov_i v2), (8, ov_i x8)]) (st2 := [ov_i x6]) (pc2 := 124) b_132_122_1 rfl rfl ?_
        exact ov_reti (st := []) d_132_124 rfl ⟨_, rfl, I10, (by show -2147483648 ≤ x6 ∧ x6 ≤ 2147483647 ∧ (h9 36 7) = (h 36 7) ∧ (h9 1 1) = (h 1 1) ∧ (h9 90 2) = (h 90 2) ∧ (h9 0 10) = (h 0 10) ∧ (h9 0 11) = (h 0 11) ∧ (h9 0 12) = (h 0 12) ∧ (h9 0 13) = (h 0 13) ∧ (h9 3 1) = (h 3 1) ∧ (h9 36 8) = (h 36 8) ∧ (h9 46 3) = (h 46 3) ∧ (h9 46 4) = (h 46 4) ∧ (h9 49 4) = (h 49 4) ∧ (h9 49 5) = (h 49 5) ∧ (h9 64 0) = (h 64 0) ∧ (h9 76 0) = (h 76 0); omega)⟩
      · skip
        refine ov_blk (ls2 := [(0, ov_r 36), (1, ov_i gr), (2, ov_i c), (3, ov_i lt), (4, ov_i s), (5, ov_i n), (6, ov_i x6), (7, ov_i v2), (8, ov_i x8)]) (st2 := [ov_i (-1), ov_i gr]) (pc2 := 22) b_132_20_2 rfl rfl ?_
        refine ov_iceq (tgt := 68) d_132_22 (by decide) (by omega) (by omega) (fun c14 => ?_) (fun c14 => ?_)
        · skip
          refine ov_blk (ls2 := [(0, ov_r 36), (1, ov_i gr), (2, ov_i c), (3, ov_i lt), (4, ov_i s), (5, ov_i n), (6, ov_i x6), (7, ov_i v2), (8, ov_i x8)]) (st2 := [ov_i x8, ov_i s, ov_i lt, ov_i c, ov_r 36, ov_i gr]) (pc2 := 76) b_132_68_6 rfl rfl ?_
          refine ov_cV (as := [ov_i c, ov_i lt, ov_i s, ov_i x8]) (st := [ov_i gr]) (d2 := d - 1) d_132_76 lk_Goers_134 rfl (Nat.le_of_ble_eq_true rfl) (c := 2) (zb_36 I10) (zs_36 I10) ⟨by decide, rfl⟩ (by omega) (c_Goers_valueBy_36_k36_8_58 k HV (d - 1) (by omega) U I10 (ov_kws hw (by decide +kernel)) c lt s x8 e12 (by omega) (by omega) (by omega) (by omega) (by omega) (by omega)) ?_
          rintro _ z17 h18 ⟨v16, rfl, I19, f15⟩
          show ov_R u d ov_m132 79 [(0, ov_r 36), (1, ov_i gr), (2, ov_i c), (3, ov_i lt), (4, ov_i s), (5, ov_i n), (6, ov_i x6), (7, ov_i v2), (8, ov_i x8)] [ov_i v16, ov_i gr] z17 h18 (P_Goers_bestWhile_36_k36_8_58 F z h gr c lt s n)
          have f20 : -2147483648 ≤ v16 ∧ v16 ≤ 2147483647 ∧ (¬ v16 = -1 → ((lt = 0 ∧ c ≤ 52) ∨ (lt = 1 ∧ c ≤ 47))) ∧ (h18 36 7) = (h9 36 7) ∧ (h18 1 1) = (h9 1 1) ∧ (h18 90 2) = (h9 90 2) ∧ (h18 0 10) = (h9 0 10) ∧ (h18 0 11) = (h9 0 11) ∧ (h18 0 12) = (h9 0 12) ∧ (h18 0 13) = (h9 0 13) ∧ (h18 3 1) = (h9 3 1) ∧ (h18 36 8) = (h9 36 8) ∧ (h18 46 3) = (h9 46 3) ∧ (h18 46 4) = (h9 46 4) ∧ (h18 49 4) = (h9 49 4) ∧ (h18 49 5) = (h9 49 5) ∧ (h18 64 0) = (h9 64 0) ∧ (h18 76 0) = (h9 76 0) := f15
          clear f15
          have e21 : h18 36 8 = 58 := by omega
          refine ov_cSN (as := [ov_i gr, ov_i v16]) (st := []) (d2 := d - 1) d_132_79 lk_Goers_144 rfl (Nat.le_of_ble_eq_true rfl) (by omega) (c_OF_lesser (d - 1) (by omega) U I19 gr v16 (by omega) (by omega)) ?_
          rintro _ _ _ ⟨v23, rfl, rfl, rfl, f22⟩
          show ov_R u d ov_m132 82 [(0, ov_r 36), (1, ov_i gr), (2, ov_i c), (3, ov_i lt), (4, ov_i s), (5, ov_i n), (6, ov_i x6), (7, ov_i v2), (8, ov_i x8)] [ov_i v23] z17 h18 (P_Goers_bestWhile_36_k36_8_58 F z h gr c lt s n)
          have f24 : (v23 = gr ∨ v23 = v16) := f22
          clear f22
          refine ov_blk (ls2 := [(0, ov_r 36), (1, ov_i gr), (2, ov_i c), (3, ov_i lt), (4, ov_i s), (5, ov_i n), (6, ov_i x6), (7, ov_i v2), (8, ov_i x8), (9, ov_i v23)]) (st2 := [ov_i (-1), ov_i v23]) (pc2 := 87) b_132_82_3 rfl rfl ?_
          refine ov_icne (tgt := 92) d_132_87 (by decide) (by omega) (by omega) (fun c25 => ?_) (fun c25 => ?_)
          · skip
            refine ov_blk (ls2 := [(0, ov_r 36), (1, ov_i gr), (2, ov_i c), (3, ov_i lt), (4, ov_i s), (5, ov_i n), (6, ov_i x6), (7, ov_i v2), (8, ov_i x8), (9, ov_i v23)]) (st2 := [ov_r 36]) (pc2 := 93) b_132_92_1 rfl rfl ?_
            refine ov_getf (v := ov_i (h18 36 11)) d_132_93 fl_Goers_43 (zb_36 I19) (zs_36 I19) rfl ?_
            have g26 := rg_36_11 I19
            refine ov_ifeq (tgt := 109) d_132_96 (by decide) (by omega) (fun c27 => ?_) (fun c27 => ?_)
            · skip
              refine ov_blk (ls2 := [(0, ov_r 36), (1, ov_i gr), (2, ov_i c), (3, ov_i lt), (4, ov_i s), (5, ov_i n), (6, ov_i x6), (7, ov_i v2), (8, ov_i x8), (9, ov_i v23)]) (st2 := [ov_i (x6 + v23)]) (pc2 := 114) b_132_109_3 rfl rfl ?_
              refine ov_hav (fun w28 gw28 => ?_)
              refine ov_blk (ls2 := [(0, ov_r 36), (1, ov_i gr), (2, ov_i c), (3, ov_i lt), (4, ov_i s), (5, ov_i n), (6, ov_i w28), (7, ov_i v2), (8, ov_i (x8 + 1)), (9, ov_i v23)]) (st2 := []) (pc2 := 119) b_132_114_2 rfl rfl ?_
              refine ov_goto (tgt := 13) d_132_119 (by decide) ?_
              refine ov_sub (ls2 := [(0, ov_r 36), (1, ov_i gr), (2, ov_i c), (3, ov_i lt), (4, ov_i s), (5, ov_i n), (6, ov_i w28), (7, ov_i v2), (8, ov_i (x8 + 1))]) (List.Sublist.subset (by repeat (first | exact List.Sublist.refl _ | apply List.Sublist.cons_cons | apply List.Sublist.cons))) ?_
              exact ih5 w28 (x8 + 1) _ _ I19 (by show ov_g w28 ∧ 1 ≤ (x8 + 1) ∧ (x8 + 1) ≤ 61 ∧ (h18 36 7) = (h 36 7) ∧ (h18 1 1) = (h 1 1) ∧ (h18 90 2) = (h 90 2) ∧ (h18 0 10) = (h 0 10) ∧ (h18 0 11) = (h 0 11) ∧ (h18 0 12) = (h 0 12) ∧ (h18 0 13) = (h 0 13) ∧ (h18 3 1) = (h 3 1) ∧ (h18 36 8) = (h 36 8) ∧ (h18 46 3) = (h 46 3) ∧ (h18 46 4) = (h 46 4) ∧ (h18 49 4) = (h 49 4) ∧ (h18 49 5) = (h 49 5) ∧ (h18 64 0) = (h 64 0) ∧ (h18 76 0) = (h 76 0) ∧ (h18 36 8) = 58; omega) (by omega)
            · skip
              refine ov_blk (ls2 := [(0, ov_r 36), (1, ov_i gr), (2, ov_i c), (3, ov_i lt), (4, ov_i s), (5, ov_i n), (6, ov_i x6), (7, ov_i v2), (8, ov_i x8), (9, ov_i v23)]) (st2 := [ov_i v23, ov_i x6]) (pc2 := 103) b_132_99_2 rfl rfl ?_
              refine ov_cS (as := [ov_i x6, ov_i v23]) (st := []) (d2 := d - 1) d_132_103 lk_Goers_129 rfl (Nat.le_of_ble_eq_true rfl) (by omega) (c_Math_max (d - 1) (by omega) U I19 x6 v23 (by omega) (by omega)) ?_
              rintro _ _ _ ⟨v30, rfl, rfl, rfl, f29⟩
              show ov_R u d ov_m132 106 [(0, ov_r 36), (1, ov_i gr), (2, ov_i c), (3, ov_i lt), (4, ov_i s), (5, ov_i n), (6, ov_i x6), (7, ov_i v2), (8, ov_i x8), (9, ov_i v23)] [ov_i v30] z17 h18 (P_Goers_bestWhile_36_k36_8_58 F z h gr c lt s n)
              have f31 : x6 ≤ v30 ∧ v23 ≤ v30 ∧ (v30 = x6 ∨ v30 = v23) := f29
              clear f29
              refine ov_goto (tgt := 114) d_132_106 (by decide) ?_
              refine ov_blk (ls2 := [(0, ov_r 36), (1, ov_i gr), (2, ov_i c), (3, ov_i lt), (4, ov_i s), (5, ov_i n), (6, ov_i v30), (7, ov_i v2), (8, ov_i (x8 + 1)), (9, ov_i v23)]) (st2 := []) (pc2 := 119) b_132_114_2 rfl rfl ?_
              refine ov_goto (tgt := 13) d_132_119 (by decide) ?_
              refine ov_sub (ls2 := [(0, ov_r 36), (1, ov_i gr), (2, ov_i c), (3, ov_i lt), (4, ov_i s), (5, ov_i n), (6, ov_i v30), (7, ov_i v2), (8, ov_i (x8 + 1))]) (List.Sublist.subset (by repeat (first | exact List.Sublist.refl _ | apply List.Sublist.cons_cons | apply List.Sublist.cons))) ?_
              exact ih5 v30 (x8 + 1) _ _ I19 (by show ov_g v30 ∧ 1 ≤ (x8 + 1) ∧ (x8 + 1) ≤ 61 ∧ (h18 36 7) = (h 36 7) ∧ (h18 1 1) = (h 1 1) ∧ (h18 90 2) = (h 90 2) ∧ (h18 0 10) = (h 0 10) ∧ (h18 0 11) = (h 0 11) ∧ (h18 0 12) = (h 0 12) ∧ (h18 0 13) = (h 0 13) ∧ (h18 3 1) = (h 3 1) ∧ (h18 36 8) = (h 36 8) ∧ (h18 46 3) = (h 46 3) ∧ (h18 46 4) = (h 46 4) ∧ (h18 49 4) = (h 49 4) ∧ (h18 49 5) = (h 49 5) ∧ (h18 64 0) = (h 64 0) ∧ (h18 76 0) = (h 76 0) ∧ (h18 36 8) = 58; omega) (by omega)
          · skip
            refine ov_blk (ls2 := [(0, ov_r 36), (1, ov_i gr), (2, ov_i c), (3, ov_i lt), (4, ov_i s), (5, ov_i n), (6, ov_i x6), (7, ov_i v2), (8, ov_i x8), (9, ov_i v23)]) (st2 := [ov_i (-1)]) (pc2 := 91) b_132_90_1 rfl rfl ?_
            exact ov_reti (st := []) d_132_91 rfl ⟨_, rfl, I19, (by show -2147483648 ≤ (-1) ∧ (-1) ≤ 2147483647 ∧ (h18 36 7) = (h 36 7) ∧ (h18 1 1) = (h 1 1) ∧ (h18 90 2) = (h 90 2) ∧ (h18 0 10) = (h 0 10) ∧ (h18 0 11) = (h 0 11) ∧ (h18 0 12) = (h 0 12) ∧ (h18 0 13) = (h 0 13) ∧ (h18 3 1) = (h 3 1) ∧ (h18 36 8) = (h 36 8) ∧ (h18 46 3) = (h 46 3) ∧ (h18 46 4) = (h 46 4) ∧ (h18 49 4) = (h 49 4) ∧ (h18 49 5) = (h 49 5) ∧ (h18 64 0) = (h 64 0) ∧ (h18 76 0) = (h 76 0); omega)⟩
        · skip
          refine ov_blk (ls2 := [(0, ov_r 36), (1, ov_i gr), (2, ov_i c), (3, ov_i lt), (4, ov_i s), (5, ov_i n), (6, ov_i x6), (7, ov_i v2), (8, ov_i x8)]) (st2 := [ov_r 36, ov_i x8, ov_i v2, ov_i gr]) (pc2 := 31) b_132_25_4 rfl rfl ?_
          refine ov_getf (v := ov_i (h9 36 12)) d_132_31 fl_Goers_50 (zb_36 I10) (zs_36 I10) rfl ?_
          have g32 := rg_36_12 I10
          refine ov_blk (ls2 := [(0, ov_r 36), (1, ov_i gr), (2, ov_i c), (3, ov_i lt), (4, ov_i s), (5, ov_i n), (6, ov_i x6), (7, ov_i v2), (8, ov_i x8)]) (st2 := [ov_i (x8 * (h9 36 12)), ov_i v2, ov_i gr]) (pc2 := 35) b_132_34_1 rfl rfl ?_
          refine ov_hav (fun w33 gw33 => ?_)
          refine ov_blk (ls2 := [(0, ov_r 36), (1, ov_i gr), (2, ov_i c), (3, ov_i lt), (4, ov_i s), (5, ov_i n), (6, ov_i x6), (7, ov_i v2), (8, ov_i x8)]) (st2 := [ov_i (v2 + w33), ov_i gr]) (pc2 := 36) b_132_35_1 rfl rfl ?_
          refine ov_hav (fun w34 gw34 => ?_)
          refine ov_icgt (tgt := 68) d_132_36 (by decide) (by omega) (by omega) (fun c35 => ?_) (fun c35 => ?_)
          · skip
            refine ov_blk (ls2 := [(0, ov_r 36), (1, ov_i gr), (2, ov_i c), (3, ov_i lt), (4, ov_i s), (5, ov_i n), (6, ov_i x6), (7, ov_i v2), (8, ov_i x8)]) (st2 := [ov_i x8, ov_i s, ov_i lt, ov_i c, ov_r 36, ov_i gr]) (pc2 := 76) b_132_68_6 rfl rfl ?_
            refine ov_cV (as := [ov_i c, ov_i lt, ov_i s, ov_i x8]) (st := [ov_i gr]) (d2 := d - 1) d_132_76 lk_Goers_134 rfl (Nat.le_of_ble_eq_true rfl) (c := 2) (zb_36 I10) (zs_36 I10) ⟨by decide, rfl⟩ (by omega) (c_Goers_valueBy_36_k36_8_58 k HV (d - 1) (by omega) U I10 (ov_kws hw (by decide +kernel)) c lt s x8 e12 (by omega) (by omega) (by omega) (by omega) (by omega) (by omega)) ?_
            rintro _ z38 h39 ⟨v37, rfl, I40, f36⟩
            show ov_R u d ov_m132 79 [(0, ov_r 36), (1, ov_i gr), (2, ov_i c), (3, ov_i lt), (4, ov_i s), (5, ov_i n), (6, ov_i x6), (7, ov_i v2), (8, ov_i x8)] [ov_i v37, ov_i gr] z38 h39 (P_Goers_bestWhile_36_k36_8_58 F z h gr c lt s n)
            have f41 : -2147483648 ≤ v37 ∧ v37 ≤ 2147483647 ∧ (¬ v37 = -1 → ((lt = 0 ∧ c ≤ 52) ∨ (lt = 1 ∧ c ≤ 47))) ∧ (h39 36 7) = (h9 36 7) ∧ (h39 1 1) = (h9 1 1) ∧ (h39 90 2) = (h9 90 2) ∧ (h39 0 10) = (h9 0 10) ∧ (h39 0 11) = (h9 0 11) ∧ (h39 0 12) = (h9 0 12) ∧ (h39 0 13) = (h9 0 13) ∧ (h39 3 1) = (h9 3 1) ∧ (h39 36 8) = (h9 36 8) ∧ (h39 46 3) = (h9 46 3) ∧ (h39 46 4) = (h9 46 4) ∧ (h39 49 4) = (h9 49 4) ∧ (h39 49 5) = (h9 49 5) ∧ (h39 64 0) = (h9 64 0) ∧ (h39 76 0) = (h9 76 0) := f36
            clear f36
            have e42 : h39 36 8 = 58 := by omega
            refine ov_cSN (as := [ov_i gr, ov_i v37]) (st := []) (d2 := d - 1) d_132_79 lk_Goers_144 rfl (Nat.le_of_ble_eq_true rfl) (by omega) (c_OF_lesser (d - 1) (by omega) U I40 gr v37 (by omega) (by omega)) ?_
            rintro _ _ _ ⟨v44, rfl, rfl, rfl, f43⟩
            show ov_R u d ov_m132 82 [(0, ov_r 36), (1, ov_i gr), (2, ov_i c), (3, ov_i lt), (4, ov_i s), (5, ov_i n), (6, ov_i x6), (7, ov_i v2), (8, ov_i x8)] [ov_i v44] z38 h39 (P_Goers_bestWhile_36_k36_8_58 F z h gr c lt s n)
            have f45 : (v44 = gr ∨ v44 = v37) := f43
            clear f43
            refine ov_blk (ls2 := [(0, ov_r 36), (1, ov_i gr), (2, ov_i c), (3, ov_i lt), (4, ov_i s), (5, ov_i n), (6, ov_i x6), (7, ov_i v2), (8, ov_i x8), (9, ov_i v44)]) (st2 := [ov_i (-1), ov_i v44]) (pc2 := 87) b_132_82_3 rfl rfl ?_
            refine ov_icne (tgt := 92) d_132_87 (by decide) (by omega) (by omega) (fun c46 => ?_) (fun c46 => ?_)
            · skip
              refine ov_blk (ls2 := [(0, ov_r 36), (1, ov_i gr), (2, ov_i c), (3, ov_i lt), (4, ov_i s), (5, ov_i n), (6, ov_i x6), (7, ov_i v2), (8, ov_i x8), (9, ov_i v44)]) (st2 := [ov_r 36]) (pc2 := 93) b_132_92_1 rfl rfl ?_
              refine ov_getf (v := ov_i (h39 36 11)) d_132_93 fl_Goers_43 (zb_36 I40) (zs_36 I40) rfl ?_
              have g47 := rg_36_11 I40
              refine ov_ifeq (tgt := 109) d_132_96 (by decide) (by omega) (fun c48 => ?_) (fun c48 => ?_)
              · skip
                refine ov_blk (ls2 := [(0, ov_r 36), (1, ov_i gr), (2, ov_i c), (3, ov_i lt), (4, ov_i s), (5, ov_i n), (6, ov_i x6), (7, ov_i v2), (8, ov_i x8), (9, ov_i v44)]) (st2 := [ov_i (x6 + v44)]) (pc2 := 114) b_132_109_3 rfl rfl ?_
                refine ov_hav (fun w49 gw49 => ?_)
                refine ov_blk (ls2 := [(0, ov_r 36), (1, ov_i gr), (2, ov_i c), (3, ov_i lt), (4, ov_i s), (5, ov_i n), (6, ov_i w49), (7, ov_i v2), (8, ov_i (x8 + 1)), (9, ov_i v44)]) (st2 := []) (pc2 := 119) b_132_114_2 rfl rfl ?_
                refine ov_goto (tgt := 13) d_132_119 (by decide) ?_
                refine ov_sub (ls2 := [(0, ov_r 36), (1, ov_i gr), (2, ov_i c), (3, ov_i lt), (4, ov_i s), (5, ov_i n), (6, ov_i w49), (7, ov_i v2), (8, ov_i (x8 + 1))]) (List.Sublist.subset (by repeat (first | exact List.Sublist.refl _ | apply List.Sublist.cons_cons | apply List.Sublist.cons))) ?_
                exact ih5 w49 (x8 + 1) _ _ I40 (by show ov_g w49 ∧ 1 ≤ (x8 + 1) ∧ (x8 + 1) ≤ 61 ∧ (h39 36 7) = (h 36 7) ∧ (h39 1 1) = (h 1 1) ∧ (h39 90 2) = (h 90 2) ∧ (h39 0 10) = (h 0 10) ∧ (h39 0 11) = (h 0 11) ∧ (h39 0 12) = (h 0 12) ∧ (h39 0 13) = (h 0 13) ∧ (h39 3 1) = (h 3 1) ∧ (h39 36 8) = (h 36 8) ∧ (h39 46 3) = (h 46 3) ∧ (h39 46 4) = (h 46 4) ∧ (h39 49 4) = (h 49 4) ∧ (h39 49 5) = (h 49 5) ∧ (h39 64 0) = (h 64 0) ∧ (h39 76 0) = (h 76 0) ∧ (h39 36 8) = 58; omega) (by omega)
              · skip
                refine ov_blk (ls2 := [(0, ov_r 36), (1, ov_i gr), (2, ov_i c), (3, ov_i lt), (4, ov_i s), (5, ov_i n), (6, ov_i x6), (7, ov_i v2), (8, ov_i x8), (9, ov_i v44)]) (st2 := [ov_i v44, ov_i x6]) (pc2 := 103) b_132_99_2 rfl rfl ?_
                refine ov_cS (as := [ov_i x6, ov_i v44]) (st := []) (d2 := d - 1) d_132_103 lk_Goers_129 rfl (Nat.le_of_ble_eq_true rfl) (by omega) (c_Math_max (d - 1) (by omega) U I40 x6 v44 (by omega) (by omega)) ?_
                rintro _ _ _ ⟨v51, rfl, rfl, rfl, f50⟩
                show ov_R u d ov_m132 106 [(0, ov_r 36), (1, ov_i gr), (2, ov_i c), (3, ov_i lt), (4, ov_i s), (5, ov_i n), (6, ov_i x6), (7, ov_i v2), (8, ov_i x8), (9, ov_i v44)] [ov_i v51] z38 h39 (P_Goers_bestWhile_36_k36_8_58 F z h gr c lt s n)
                have f52 : x6 ≤ v51 ∧ v44 ≤ v51 ∧ (v51 = x6 ∨ v51 = v44) := f50
                clear f50
                refine ov_goto (tgt := 114) d_132_106 (by decide) ?_
                refine ov_blk (ls2 := [(0, ov_r 36), (1, ov_i gr), (2, ov_i c), (3, ov_i lt), (4, ov_i s), (5, ov_i n), (6, ov_i v51), (7, ov_i v2), (8, ov_i (x8 + 1)), (9, ov_i v44)]) (st2 := []) (pc2 := 119) b_132_114_2 rfl rfl ?_
                refine ov_goto (tgt := 13) d_132_119 (by decide) ?_
                refine ov_sub (ls2 := [(0, ov_r 36), (1, ov_i gr), (2, ov_i c), (3, ov_i lt), (4, ov_i s), (5, ov_i n), (6, ov_i v51), (7, ov_i v2), (8, ov_i (x8 + 1))]) (List.Sublist.subset (by repeat (first | exact List.Sublist.refl _ | apply List.Sublist.cons_cons | apply List.Sublist.cons))) ?_
                exact ih5 v51 (x8 + 1) _ _ I40 (by show ov_g v51 ∧ 1 ≤ (x8 + 1) ∧ (x8 + 1) ≤ 61 ∧ (h39 36 7) = (h 36 7) ∧ (h39 1 1) = (h 1 1) ∧ (h39 90 2) = (h 90 2) ∧ (h39 0 10) = (h 0 10) ∧ (h39 0 11) = (h 0 11) ∧ (h39 0 12) = (h 0 12) ∧ (h39 0 13) = (h 0 13) ∧ (h39 3 1) = (h 3 1) ∧ (h39 36 8) = (h 36 8) ∧ (h39 46 3) = (h 46 3) ∧ (h39 46 4) = (h 46 4) ∧ (h39 49 4) = (h 49 4) ∧ (h39 49 5) = (h 49 5) ∧ (h39 64 0) = (h 64 0) ∧ (h39 76 0) = (h 76 0) ∧ (h39 36 8) = 58; omega) (by omega)
            · skip
              refine ov_blk (ls2 := [(0, ov_r 36), (1, ov_i gr), (2, ov_i c), (3, ov_i lt), (4, ov_i s), (5, ov_i n), (6, ov_i x6), (7, ov_i v2), (8, ov_i x8), (9, ov_i v44)]) (st2 := [ov_i (-1)]) (pc2 := 91) b_132_90_1 rfl rfl ?_
              exact ov_reti (st := []) d_132_91 rfl ⟨_, rfl, I40, (by show -2147483648 ≤ (-1) ∧ (-1) ≤ 2147483647 ∧ (h39 36 7) = (h 36 7) ∧ (h39 1 1) = (h 1 1) ∧ (h39 90 2) = (h 90 2) ∧ (h39 0 10) = (h 0 10) ∧ (h39 0 11) = (h 0 11) ∧ (h39 0 12) = (h 0 12) ∧ (h39 0 13) = (h 0 13) ∧ (h39 3 1) = (h 3 1) ∧ (h39 36 8) = (h 36 8) ∧ (h39 46 3) = (h 46 3) ∧ (h39 46 4) = (h 46 4) ∧ (h39 49 4) = (h 49 4) ∧ (h39 49 5) = (h 49 5) ∧ (h39 64 0) = (h 64 0) ∧ (h39 76 0) = (h 76 0); omega)⟩
          · skip
            refine ov_blk (ls2 := [(0, ov_r 36), (1, ov_i gr), (2, ov_i c), (3, ov_i lt), (4, ov_i s), (5, ov_i n), (6, ov_i x6), (7, ov_i v2), (8, ov_i x8)]) (st2 := [ov_r 36]) (pc2 := 40) b_132_39_1 rfl rfl ?_
            refine ov_getf (v := ov_i (h9 36 11)) d_132_40 fl_Goers_43 (zb_36 I10) (zs_36 I10) rfl ?_
            have g53 := rg_36_11 I10
            refine ov_ifeq (tgt := 55) d_132_43 (by decide) (by omega) (fun c54 => ?_) (fun c54 => ?_)
            · skip
              refine ov_blk (ls2 := [(0, ov_r 36), (1, ov_i gr), (2, ov_i c), (3, ov_i lt), (4, ov_i s), (5, ov_i n), (6, ov_i x6), (7, ov_i v2), (8, ov_i x8)]) (st2 := [ov_i (n - x8), ov_i x6]) (pc2 := 62) b_132_55_4 rfl rfl ?_
              refine ov_hav (fun w55 gw55 => ?_)
              refine ov_blk (ls2 := [(0, ov_r 36), (1, ov_i gr), (2, ov_i c), (3, ov_i lt), (4, ov_i s), (5, ov_i n), (6, ov_i x6), (7, ov_i v2), (8, ov_i x8)]) (st2 := [ov_i (w55 + 1), ov_i x6]) (pc2 := 64) b_132_62_2 rfl rfl ?_
              refine ov_hav (fun w56 gw56 => ?_)
              refine ov_blk (ls2 := [(0, ov_r 36), (1, ov_i gr), (2, ov_i c), (3, ov_i lt), (4, ov_i s), (5, ov_i n), (6, ov_i x6), (7, ov_i v2), (8, ov_i x8)]) (st2 := [ov_i (w56 * gr), ov_i x6]) (pc2 := 66) b_132_64_2 rfl rfl ?_
              refine ov_hav (fun w57 gw57 => ?_)
              refine ov_blk (ls2 := [(0, ov_r 36), (1, ov_i gr), (2, ov_i c), (3, ov_i lt), (4, ov_i s), (5, ov_i n), (6, ov_i x6), (7, ov_i v2), (8, ov_i x8)]) (st2 := [ov_i (x6 + w57)]) (pc2 := 67) b_132_66_1 rfl rfl ?_
              refine ov_hav (fun w58 gw58 => ?_)
              exact ov_reti (st := []) d_132_67 rfl ⟨_, rfl, I10, (by show -2147483648 ≤ w58 ∧ w58 ≤ 2147483647 ∧ (h9 36 7) = (h 36 7) ∧ (h9 1 1) = (h 1 1) ∧ (h9 90 2) = (h 90 2) ∧ (h9 0 10) = (h 0 10) ∧ (h9 0 11) = (h 0 11) ∧ (h9 0 12) = (h 0 12) ∧ (h9 0 13) = (h 0 13) ∧ (h9 3 1) = (h 3 1) ∧ (h9 36 8) = (h 36 8) ∧ (h9 46 3) = (h 46 3) ∧ (h9 46 4) = (h 46 4) ∧ (h9 49 4) = (h 49 4) ∧ (h9 49 5) = (h 49 5) ∧ (h9 64 0) = (h 64 0) ∧ (h9 76 0) = (h 76 0); omega)⟩
            · skip
              refine ov_blk (ls2 := [(0, ov_r 36), (1, ov_i gr), (2, ov_i c), (3, ov_i lt), (4, ov_i s), (5, ov_i n), (6, ov_i x6), (7, ov_i v2), (8, ov_i x8)]) (st2 := [ov_i gr, ov_i x6]) (pc2 := 49) b_132_46_2 rfl rfl ?_
              refine ov_cS (as := [ov_i x6, ov_i gr]) (st := []) (d2 := d - 1) d_132_49 lk_Goers_129 rfl (Nat.le_of_ble_eq_true rfl) (by omega) (c_Math_max (d - 1) (by omega) U I10 x6 gr (by omega) (by omega)) ?_
              rintro _ _ _ ⟨v60, rfl, rfl, rfl, f59⟩
              show ov_R u d ov_m132 52 [(0, ov_r 36), (1, ov_i gr), (2, ov_i c), (3, ov_i lt), (4, ov_i s), (5, ov_i n), (6, ov_i x6), (7, ov_i v2), (8, ov_i x8)] [ov_i v60] z8 h9 (P_Goers_bestWhile_36_k36_8_58 F z h gr c lt s n)
              have f61 : x6 ≤ v60 ∧ gr ≤ v60 ∧ (v60 = x6 ∨ v60 = gr) := f59
              clear f59
              refine ov_goto (tgt := 67) d_132_52 (by decide) ?_
              exact ov_reti (st := []) d_132_67 rfl ⟨_, rfl, I10, (by show -2147483648 ≤ v60 ∧ v60 ≤ 2147483647 ∧ (h9 36 7) = (h 36 7) ∧ (h9 1 1) = (h 1 1) ∧ (h9 90 2) = (h 90 2) ∧ (h9 0 10) = (h 0 10) ∧ (h9 0 11) = (h 0 11) ∧ (h9 0 12) = (h 0 12) ∧ (h9 0 13) = (h 0 13) ∧ (h9 3 1) = (h 3 1) ∧ (h9 36 8) = (h 36 8) ∧ (h9 46 3) = (h 46 3) ∧ (h9 46 4) = (h 46 4) ∧ (h9 49 4) = (h 49 4) ∧ (h9 49 5) = (h 49 5) ∧ (h9 64 0) = (h 64 0) ∧ (h9 76 0) = (h 76 0); omega)⟩
  exact L7 62 0 1 _ _ I (by show ov_g 0 ∧ 1 ≤ 1 ∧ 1 ≤ 61 ∧ (h 36 7) = (h 36 7) ∧ (h 1 1) = (h 1 1) ∧ (h 90 2) = (h 90 2) ∧ (h 0 10) = (h 0 10) ∧ (h 0 11) = (h 0 11) ∧ (h 0 12) = (h 0 12) ∧ (h 0 13) = (h 0 13) ∧ (h 3 1) = (h 3 1) ∧ (h 36 8) = (h 36 8) ∧ (h 46 3) = (h 46 3) ∧ (h 46 4) = (h 46 4) ∧ (h 49 4) = (h 49 4) ∧ (h 49 5) = (h 49 5) ∧ (h 64 0) = (h 64 0) ∧ (h 76 0) = (h 76 0) ∧ (h 36 8) = 58; omega) (by omega)
set_option maxHeartbeats 4000000 in
theorem c_Goers_valueSeen_36_k36_8_58 {u : ov_U} {F : ov_H} (k : Nat) (HV : ∀ k' : Nat, k' < k → ∀ {z : ov_Z} {h : ov_H} (d : Nat) (hd : (10 + 5 * k' + 3) ≤ d) (U : ov_cap u) (I : ov_I F z h) (hw : ov_kw 590295810358705651712 F) (c : Int) (s : Int) (k0 : h 36 8 = 58) (g_c : ov_g c) (g_s : ov_g s) (p0 : 0 ≤ c ∧ c + (k' : Int) = 53) (p1 : F (-5) 58 = 1), ov_T u d ov_m127 [ov_r 36, ov_i c, ov_i s] z h (P_Goers_valueAt_36_k36_8_58 F z h c s)) {z : ov_Z} {h : ov_H} (d : Nat) (hd : (10 + 5 * k + 1) ≤ d) (U : ov_cap u) (I : ov_I F z h) (hw : ov_kw 590295810358705651712 F) (c : Int) (s : Int) (ow : Int) (nw : Int) (k0 : h 36 8 = 58) (g_c : ov_g c) (g_s : ov_g s) (g_ow : ov_g ow) (g_nw : ov_g nw) (p0 : 0 ≤ c ∧ c + (k : Int) = 53) (p1 : F (-5) 58 = 1) : ov_T u d ov_m136 [ov_r 36, ov_i c, ov_i s, ov_i ow, ov_i nw] z h (P_Goers_valueSeen_36_k36_8_58 F z h c s ow nw) := by
  refine ov_en rfl (Nat.le_of_ble_eq_true rfl) ?_
  show ov_R u d ov_m136 0 [(0, ov_r 36), (1, ov_i c), (2, ov_i s), (3, ov_i ow), (4, ov_i nw)] [] z h (P_Goers_valueSeen_36_k36_8_58 F z h c s ow nw)
  refine ov_blk (ls2 := [(0, ov_r 36), (1, ov_i c), (2, ov_i s), (3, ov_i ow), (4, ov_i nw)]) (st2 := [ov_r 36]) (pc2 := 1) b_136_0_1 rfl rfl ?_
  refine ov_getf (v := ov_i (h 36 10)) d_136_1 fl_Goers_39 (zb_36 I) (zs_36 I) rfl ?_
  have g1 := rg_36_10 I
  refine ov_blk (ls2 := [(0, ov_r 36), (1, ov_i c), (2, ov_i s), (3, ov_i ow), (4, ov_i nw)]) (st2 := [ov_i 3, ov_i (h 36 10)]) (pc2 := 5) b_136_4_1 rfl rfl ?_
  refine ov_icne (tgt := 74) d_136_5 (by decide) (by omega) (by omega) (fun c2 => ?_) (fun c2 => ?_)
  · skip
    refine ov_blk (ls2 := [(0, ov_r 36), (1, ov_i c), (2, ov_i s), (3, ov_i ow), (4, ov_i nw)]) (st2 := [ov_i nw, ov_i ow, ov_i c, ov_r 36]) (pc2 := 79) b_136_74_4 rfl rfl ?_
    refine ov_cV (as := [ov_i c, ov_i ow, ov_i nw]) (st := []) (d2 := d - 1) d_136_79 lk_Goers_150 rfl (Nat.le_of_ble_eq_true rfl) (c := 2) (zb_36 I) (zs_36 I) ⟨by decide, rfl⟩ (by omega) (c_Goers_plainWay_36_k36_8_58 (d - 1) (by omega) U I (ov_kws hw (by decide +kernel)) c ow nw k0 (by omega) (by omega) (by omega) (by omega)) ?_
    rintro _ z5 h6 ⟨v4, rfl, I7, f3⟩
    show ov_R u d ov_m136 82 [(0, ov_r 36), (1, ov_i c), (2, ov_i s), (3, ov_i ow), (4, ov_i nw)] [ov_i v4] z5 h6 (P_Goers_valueSeen_36_k36_8_58 F z h c s ow nw)
    have f8 : (v4 = -1 ∨ (v4 = 0 ∧ c ≤ 52) ∨ (v4 = 1 ∧ c ≤ 47)) ∧ (h6 36 7) = (h 36 7) ∧ (h6 1 1) = (h 1 1) ∧ (h6 90 2) = (h 90 2) ∧ (h6 0 10) = (h 0 10) ∧ (h6 0 11) = (h 0 11) ∧ (h6 0 12) = (h 0 12) ∧ (h6 0 13) = (h 0 13) ∧ (h6 3 1) = (h 3 1) ∧ (h6 36 8) = (h 36 8) ∧ (h6 46 3) = (h 46 3) ∧ (h6 46 4) = (h 46 4) ∧ (h6 49 4) = (h 49 4) ∧ (h6 49 5) = (h 49 5) ∧ (h6 64 0) = (h 64 0) ∧ (h6 76 0) = (h 76 0) := f3
    clear f3
    have e9 : h6 36 8 = 58 := by omega
    refine ov_blk (ls2 := [(0, ov_r 36), (1, ov_i c), (2, ov_i s), (3, ov_i ow), (4, ov_i nw), (5, ov_i v4)]) (st2 := [ov_i v4, ov_i s, ov_i v4, ov_i c, ov_r 36]) (pc2 := 91) b_136_82_6 rfl rfl ?_
    refine ov_ifne (tgt := 98) d_136_91 (by decide) (by omega) (fun c10 => ?_) (fun c10 => ?_)
    · skip
      refine ov_blk (ls2 := [(0, ov_r 36), (1, ov_i c), (2, ov_i s), (3, ov_i ow), (4, ov_i nw), (5, ov_i v4)]) (st2 := [ov_i nw, ov_i s, ov_i v4, ov_i c, ov_r 36]) (pc2 := 100) b_136_98_1 rfl rfl ?_
      refine ov_cV (as := [ov_i c, ov_i v4, ov_i s, ov_i nw]) (st := []) (d2 := d - 1) d_136_100 lk_Goers_134 rfl (Nat.le_of_ble_eq_true rfl) (c := 2) (zb_36 I7) (zs_36 I7) ⟨by decide, rfl⟩ (by omega) (c_Goers_valueBy_36_k36_8_58 k HV (d - 1) (by omega) U I7 (ov_kws hw (by decide +kernel)) c v4 s nw e9 (by omega) (by omega) (by omega) (by omega) (by omega) (by omega)) ?_
      rintro _ z13 h14 ⟨v12, rfl, I15, f11⟩
      show ov_R u d ov_m136 103 [(0, ov_r 36), (1, ov_i c), (2, ov_i s), (3, ov_i ow), (4, ov_i nw), (5, ov_i v4)] [ov_i v12] z13 h14 (P_Goers_valueSeen_36_k36_8_58 F z h c s ow nw)
      have f16 : -2147483648 ≤ v12 ∧ v12 ≤ 2147483647 ∧ (¬ v12 = -1 → ((v4 = 0 ∧ c ≤ 52) ∨ (v4 = 1 ∧ c ≤ 47))) ∧ (h14 36 7) = (h6 36 7) ∧ (h14 1 1) = (h6 1 1) ∧ (h14 90 2) = (h6 90 2) ∧ (h14 0 10) = (h6 0 10) ∧ (h14 0 11) = (h6 0 11) ∧ (h14 0 12) = (h6 0 12) ∧ (h14 0 13) = (h6 0 13) ∧ (h14 3 1) = (h6 3 1) ∧ (h14 36 8) = (h6 36 8) ∧ (h14 46 3) = (h6 46 3) ∧ (h14 46 4) = (h6 46 4) ∧ (h14 49 4) = (h6 49 4) ∧ (h14 49 5) = (h6 49 5) ∧ (h14 64 0) = (h6 64 0) ∧ (h14 76 0) = (h6 76 0) := f11
      clear f11
      have e17 : h14 36 8 = 58 := by omega
      exact ov_reti (st := []) d_136_103 rfl ⟨_, rfl, I15, (by show -2147483648 ≤ v12 ∧ v12 ≤ 2147483647 ∧ (h14 36 7) = (h 36 7) ∧ (h14 1 1) = (h 1 1) ∧ (h14 90 2) = (h 90 2) ∧ (h14 0 10) = (h 0 10) ∧ (h14 0 11) = (h 0 11) ∧ (h14 0 12) = (h 0 12) ∧ (h14 0 13) = (h 0 13) ∧ (h14 3 1) = (h 3 1) ∧ (h14 36 8) = (h 36 8) ∧ (h14 46 3) = (h 46 3) ∧ (h14 46 4) = (h 46 4) ∧ (h14 49 4) = (h 49 4) ∧ (h14 49 5) = (h 49 5) ∧ (h14 64 0) = (h 64 0) ∧ (h14 76 0) = (h 76 0); omega)⟩
    · skip
      refine ov_blk (ls2 := [(0, ov_r 36), (1, ov_i c), (2, ov_i s), (3, ov_i ow), (4, ov_i nw), (5, ov_i v4)]) (st2 := [ov_i ow, ov_i s, ov_i v4, ov_i c, ov_r 36]) (pc2 := 95) b_136_94_1 rfl rfl ?_
      refine ov_goto (tgt := 100) d_136_95 (by decide) ?_
      refine ov_cV (as := [ov_i c, ov_i v4, ov_i s, ov_i ow]) (st := []) (d2 := d - 1) d_136_100 lk_Goers_134 rfl (Nat.le_of_ble_eq_true rfl) (c := 2) (zb_36 I7) (zs_36 I7) ⟨by decide, rfl⟩ (by omega) (c_Goers_valueBy_36_k36_8_58 k HV (d - 1) (by omega) U I7 (ov_kws hw (by decide +kernel)) c v4 s ow e9 (by omega) (by omega) (by omega) (by omega) (by omega) (by omega)) ?_
      rintro _ z20 h21 ⟨v19, rfl, I22, f18⟩
      show ov_R u d ov_m136 103 [(0, ov_r 36), (1, ov_i c), (2, ov_i s), (3, ov_i ow), (4, ov_i nw), (5, ov_i v4)] [ov_i v19] z20 h21 (P_Goers_valueSeen_36_k36_8_58 F z h c s ow nw)
      have f23 : -2147483648 ≤ v19 ∧ v19 ≤ 2147483647 ∧ (¬ v19 = -1 → ((v4 = 0 ∧ c ≤ 52) ∨ (v4 = 1 ∧ c ≤ 47))) ∧ (h21 36 7) = (h6 36 7) ∧ (h21 1 1) = (h6 1 1) ∧ (h21 90 2) = (h6 90 2) ∧ (h21 0 10) = (h6 0 10) ∧ (h21 0 11) = (h6 0 11) ∧ (h21 0 12) = (h6 0 12) ∧ (h21 0 13) = (h6 0 13) ∧ (h21 3 1) = (h6 3 1) ∧ (h21 36 8) = (h6 36 8) ∧ (h21 46 3) = (h6 46 3) ∧ (h21 46 4) = (h6 46 4) ∧ (h21 49 4) = (h6 49 4) ∧ (h21 49 5) = (h6 49 5) ∧ (h21 64 0) = (h6 64 0) ∧ (h21 76 0) = (h6 76 0) := f18
      clear f18
      have e24 : h21 36 8 = 58 := by omega
      exact ov_reti (st := []) d_136_103 rfl ⟨_, rfl, I22, (by show -2147483648 ≤ v19 ∧ v19 ≤ 2147483647 ∧ (h21 36 7) = (h 36 7) ∧ (h21 1 1) = (h 1 1) ∧ (h21 90 2) = (h 90 2) ∧ (h21 0 10) = (h 0 10) ∧ (h21 0 11) = (h 0 11) ∧ (h21 0 12) = (h 0 12) ∧ (h21 0 13) = (h 0 13) ∧ (h21 3 1) = (h 3 1) ∧ (h21 36 8) = (h 36 8) ∧ (h21 46 3) = (h 46 3) ∧ (h21 46 4) = (h 46 4) ∧ (h21 49 4) = (h 49 4) ∧ (h21 49 5) = (h 49 5) ∧ (h21 64 0) = (h 64 0) ∧ (h21 76 0) = (h 76 0); omega)⟩
  · skip
    refine ov_blk (ls2 := [(0, ov_r 36), (1, ov_i c), (2, ov_i s), (3, ov_i ow), (4, ov_i nw)]) (st2 := [ov_i ow, ov_i s, ov_i 0, ov_i c, ov_r 36]) (pc2 := 13) b_136_8_5 rfl rfl ?_
    refine ov_cV (as := [ov_i c, ov_i 0, ov_i s, ov_i ow]) (st := []) (d2 := d - 1) d_136_13 lk_Goers_134 rfl (Nat.le_of_ble_eq_true rfl) (c := 2) (zb_36 I) (zs_36 I) ⟨by decide, rfl⟩ (by omega) (c_Goers_valueBy_36_k36_8_58 k HV (d - 1) (by omega) U I (ov_kws hw (by decide +kernel)) c 0 s ow k0 (by omega) (by omega) (by omega) (by omega) (by omega) (by omega)) ?_
    rintro _ z27 h28 ⟨v26, rfl, I29, f25⟩
    show ov_R u d ov_m136 16 [(0, ov_r 36), (1, ov_i c), (2, ov_i s), (3, ov_i ow), (4, ov_i nw)] [ov_i v26] z27 h28 (P_Goers_valueSeen_36_k36_8_58 F z h c s ow nw)
    have f30 : -2147483648 ≤ v26 ∧ v26 ≤ 2147483647 ∧ (¬ v26 = -1 → (((0 : Int) = 0 ∧ c ≤ 52) ∨ ((0 : Int) = 1 ∧ c ≤ 47))) ∧ (h28 36 7) = (h 36 7) ∧ (h28 1 1) = (h 1 1) ∧ (h28 90 2) = (h 90 2) ∧ (h28 0 10) = (h 0 10) ∧ (h28 0 11) = (h 0 11) ∧ (h28 0 12) = (h 0 12) ∧ (h28 0 13) = (h 0 13) ∧ (h28 3 1) = (h 3 1) ∧ (h28 36 8) = (h 36 8) ∧ (h28 46 3) = (h 46 3) ∧ (h28 46 4) = (h 46 4) ∧ (h28 49 4) = (h 49 4) ∧ (h28 49 5) = (h 49 5) ∧ (h28 64 0) = (h 64 0) ∧ (h28 76 0) = (h 76 0) := f25
    clear f25
    have e31 : h28 36 8 = 58 := by omega
    refine ov_blk (ls2 := [(0, ov_r 36), (1, ov_i c), (2, ov_i s), (3, ov_i ow), (4, ov_i nw), (5, ov_i v26)]) (st2 := [ov_i (-1), ov_i v26]) (pc2 := 21) b_136_16_3 rfl rfl ?_
    refine ov_iceq (tgt := 46) d_136_21 (by decide) (by omega) (by omega) (fun c32 => ?_) (fun c32 => ?_)
    · skip
      refine ov_blk (ls2 := [(0, ov_r 36), (1, ov_i c), (2, ov_i s), (3, ov_i ow), (4, ov_i nw), (5, ov_i v26), (6, ov_i 0)]) (st2 := [ov_i 0]) (pc2 := 51) b_136_46_3 rfl rfl ?_
      refine ov_ifeq (tgt := 59) d_136_51 (by decide) (by omega) (fun c33 => ?_) (fun c33 => ?_)
      · skip
        refine ov_blk (ls2 := [(0, ov_r 36), (1, ov_i c), (2, ov_i s), (3, ov_i ow), (4, ov_i nw), (5, ov_i v26), (6, ov_i 0)]) (st2 := [ov_i nw, ov_i s, ov_i 1, ov_i c, ov_r 36, ov_i v26]) (pc2 := 67) b_136_59_6 rfl rfl ?_
        refine ov_cV (as := [ov_i c, ov_i 1, ov_i s, ov_i nw]) (st := [ov_i v26]) (d2 := d - 1) d_136_67 lk_Goers_134 rfl (Nat.le_of_ble_eq_true rfl) (c := 2) (zb_36 I29) (zs_36 I29) ⟨by decide, rfl⟩ (by omega) (c_Goers_valueBy_36_k36_8_58 k HV (d - 1) (by omega) U I29 (ov_kws hw (by decide +kernel)) c 1 s nw e31 (by omega) (by omega) (by omega) (by omega) (by omega) (by omega)) ?_
        rintro _ z36 h37 ⟨v35, rfl, I38, f34⟩
        show ov_R u d ov_m136 70 [(0, ov_r 36), (1, ov_i c), (2, ov_i s), (3, ov_i ow), (4, ov_i nw), (5, ov_i v26), (6, ov_i 0)] [ov_i v35, ov_i v26] z36 h37 (P_Goers_valueSeen_36_k36_8_58 F z h c s ow nw)
        have f39 : -2147483648 ≤ v35 ∧ v35 ≤ 2147483647 ∧ (¬ v35 = -1 → (((1 : Int) = 0 ∧ c ≤ 52) ∨ ((1 : Int) = 1 ∧ c ≤ 47))) ∧ (h37 36 7) = (h28 36 7) ∧ (h37 1 1) = (h28 1 1) ∧ (h37 90 2) = (h28 90 2) ∧ (h37 0 10) = (h28 0 10) ∧ (h37 0 11) = (h28 0 11) ∧ (h37 0 12) = (h28 0 12) ∧ (h37 0 13) = (h28 0 13) ∧ (h37 3 1) = (h28 3 1) ∧ (h37 36 8) = (h28 36 8) ∧ (h37 46 3) = (h28 46 3) ∧ (h37 46 4) = (h28 46 4) ∧ (h37 49 4) = (h28 49 4) ∧ (h37 49 5) = (h28 49 5) ∧ (h37 64 0) = (h28 64 0) ∧ (h37 76 0) = (h28 76 0) := f34
        clear f34
        have e40 : h37 36 8 = 58 := by omega
        refine ov_cSN (as := [ov_i v26, ov_i v35]) (st := []) (d2 := d - 1) d_136_70 lk_Goers_144 rfl (Nat.le_of_ble_eq_true rfl) (by omega) (c_OF_lesser (d - 1) (by omega) U I38 v26 v35 (by omega) (by omega)) ?_
        rintro _ _ _ ⟨v42, rfl, rfl, rfl, f41⟩
        show ov_R u d ov_m136 73 [(0, ov_r 36), (1, ov_i c), (2, ov_i s), (3, ov_i ow), (4, ov_i nw), (5, ov_i v26), (6, ov_i 0)] [ov_i v42] z36 h37 (P_Goers_valueSeen_36_k36_8_58 F z h c s ow nw)
        have f43 : (v42 = v26 ∨ v42 = v35) := f41
        clear f41
        exact ov_reti (st := []) d_136_73 rfl ⟨_, rfl, I38, (by show -2147483648 ≤ v42 ∧ v42 ≤ 2147483647 ∧ (h37 36 7) = (h 36 7) ∧ (h37 1 1) = (h 1 1) ∧ (h37 90 2) = (h 90 2) ∧ (h37 0 10) = (h 0 10) ∧ (h37 0 11) = (h 0 11) ∧ (h37 0 12) = (h 0 12) ∧ (h37 0 13) = (h 0 13) ∧ (h37 3 1) = (h 3 1) ∧ (h37 36 8) = (h 36 8) ∧ (h37 46 3) = (h 46 3) ∧ (h37 46 4) = (h 46 4) ∧ (h37 49 4) = (h 49 4) ∧ (h37 49 5) = (h 49 5) ∧ (h37 64 0) = (h 64 0) ∧ (h37 76 0) = (h 76 0); omega)⟩
      · omega
    · skip
      refine ov_blk (ls2 := [(0, ov_r 36), (1, ov_i c), (2, ov_i s), (3, ov_i ow), (4, ov_i nw), (5, ov_i v26)]) (st2 := [ov_i c, ov_r 36, ov_i v26]) (pc2 := 28) b_136_24_3 rfl rfl ?_
      refine ov_cV (as := [ov_i c]) (st := [ov_i v26]) (d2 := d - 1) d_136_28 lk_Goers_141 rfl (Nat.le_of_ble_eq_true rfl) (c := 2) (zb_36 I29) (zs_36 I29) ⟨by decide, rfl⟩ (by omega) (c_Goers_leastFrom_36_k36_8_58 (d - 1) (by omega) U I29 c e31 (by omega) (by omega) (by omega)) ?_
      rintro _ _ _ ⟨v45, rfl, rfl, rfl, f44⟩
      show ov_R u d ov_m136 31 [(0, ov_r 36), (1, ov_i c), (2, ov_i s), (3, ov_i ow), (4, ov_i nw), (5, ov_i v26)] [ov_i v45, ov_i v26] z27 h28 (P_Goers_valueSeen_36_k36_8_58 F z h c s ow nw)
      have f46 : -2147483648 ≤ v45 ∧ v45 ≤ 2147483647 := f44
      clear f44
      refine ov_blk (ls2 := [(0, ov_r 36), (1, ov_i c), (2, ov_i s), (3, ov_i ow), (4, ov_i nw), (5, ov_i v26)]) (st2 := [ov_r 36, ov_i nw, ov_i v45, ov_i v26]) (pc2 := 34) b_136_31_2 rfl rfl ?_
      refine ov_getf (v := ov_i (h28 36 12)) d_136_34 fl_Goers_50 (zb_36 I29) (zs_36 I29) rfl ?_
      have g47 := rg_36_12 I29
      refine ov_blk (ls2 := [(0, ov_r 36), (1, ov_i c), (2, ov_i s), (3, ov_i ow), (4, ov_i nw), (5, ov_i v26)]) (st2 := [ov_i (nw * (h28 36 12)), ov_i v45, ov_i v26]) (pc2 := 38) b_136_37_1 rfl rfl ?_
      refine ov_hav (fun w48 gw48 => ?_)
      refine ov_blk (ls2 := [(0, ov_r 36), (1, ov_i c), (2, ov_i s), (3, ov_i ow), (4, ov_i nw), (5, ov_i v26)]) (st2 := [ov_i (v45 + w48), ov_i v26]) (pc2 := 39) b_136_38_1 rfl rfl ?_
      refine ov_hav (fun w49 gw49 => ?_)
      refine ov_icgt (tgt := 46) d_136_39 (by decide) (by omega) (by omega) (fun c50 => ?_) (fun c50 => ?_)
      · skip
        refine ov_blk (ls2 := [(0, ov_r 36), (1, ov_i c), (2, ov_i s), (3, ov_i ow), (4, ov_i nw), (5, ov_i v26), (6, ov_i 0)]) (st2 := [ov_i 0]) (pc2 := 51) b_136_46_3 rfl rfl ?_
        refine ov_ifeq (tgt := 59) d_136_51 (by decide) (by omega) (fun c51 => ?_) (fun c51 => ?_)
        · skip
          refine ov_blk (ls2 := [(0, ov_r 36), (1, ov_i c), (2, ov_i s), (3, ov_i ow), (4, ov_i nw), (5, ov_i v26), (6, ov_i 0)]) (st2 := [ov_i nw, ov_i s, ov_i 1, ov_i c, ov_r 36, ov_i v26]) (pc2 := 67) b_136_59_6 rfl rfl ?_
          refine ov_cV (as := [ov_i c, ov_i 1, ov_i s, ov_i nw]) (st := [ov_i v26]) (d2 := d - 1) d_136_67 lk_Goers_134 rfl (Nat.le_of_ble_eq_true rfl) (c := 2) (zb_36 I29) (zs_36 I29) ⟨by decide, rfl⟩ (by omega) (c_Goers_valueBy_36_k36_8_58 k HV (d - 1) (by omega) U I29 (ov_kws hw (by decide +kernel)) c 1 s nw e31 (by omega) (by omega) (by omega) (by omega) (by omega) (by omega)) ?_
          rintro _ z54 h55 ⟨v53, rfl, I56, f52⟩
          show ov_R u d ov_m136 70 [(0, ov_r 36), (1, ov_i c), (2, ov_i s), (3, ov_i ow), (4, ov_i nw), (5, ov_i v26), (6, ov_i 0)] [ov_i v53, ov_i v26] z54 h55 (P_Goers_valueSeen_36_k36_8_58 F z h c s ow nw)
          have f57 : -2147483648 ≤ v53 ∧ v53 ≤ 2147483647 ∧ (¬ v53 = -1 → (((1 : Int) = 0 ∧ c ≤ 52) ∨ ((1 : Int) = 1 ∧ c ≤ 47))) ∧ (h55 36 7) = (h28 36 7) ∧ (h55 1 1) = (h28 1 1) ∧ (h55 90 2) = (h28 90 2) ∧ (h55 0 10) = (h28 0 10) ∧ (h55 0 11) = (h28 0 11) ∧ (h55 0 12) = (h28 0 12) ∧ (h55 0 13) = (h28 0 13) ∧ (h55 3 1) = (h28 3 1) ∧ (h55 36 8) = (h28 36 8) ∧ (h55 46 3) = (h28 46 3) ∧ (h55 46 4) = (h28 46 4) ∧ (h55 49 4) = (h28 49 4) ∧ (h55 49 5) = (h28 49 5) ∧ (h55 64 0) = (h28 64 0) ∧ (h55 76 0) = (h28 76 0) := f52
          clear f52
          have e58 : h55 36 8 = 58 := by omega
          refine ov_cSN (as := [ov_i v26, ov_i v53]) (st := []) (d2 := d - 1) d_136_70 lk_Goers_144 rfl (Nat.le_of_ble_eq_true rfl) (by omega) (c_OF_lesser (d - 1) (by omega) U I56 v26 v53 (by omega) (by omega)) ?_
          rintro _ _ _ ⟨v60, rfl, rfl, rfl, f59⟩
          show ov_R u d ov_m136 73 [(0, ov_r 36), (1, ov_i c), (2, ov_i s), (3, ov_i ow), (4, ov_i nw), (5, ov_i v26), (6, ov_i 0)] [ov_i v60] z54 h55 (P_Goers_valueSeen_36_k36_8_58 F z h c s ow nw)
          have f61 : (v60 = v26 ∨ v60 = v53) := f59
          clear f59
          exact ov_reti (st := []) d_136_73 rfl ⟨_, rfl, I56, (by show -2147483648 ≤ v60 ∧ v60 ≤ 2147483647 ∧ (h55 36 7) = (h 36 7) ∧ (h55 1 1) = (h 1 1) ∧ (h55 90 2) = (h 90 2) ∧ (h55 0 10) = (h 0 10) ∧ (h55 0 11) = (h 0 11) ∧ (h55 0 12) = (h 0 12) ∧ (h55 0 13) = (h 0 13) ∧ (h55 3 1) = (h 3 1) ∧ (h55 36 8) = (h 36 8) ∧ (h55 46 3) = (h 46 3) ∧ (h55 46 4) = (h 46 4) ∧ (h55 49 4) = (h 49 4) ∧ (h55 49 5) = (h 49 5) ∧ (h55 64 0) = (h 64 0) ∧ (h55 76 0) = (h 76 0); omega)⟩
        · omega
      · skip
        refine ov_blk (ls2 := [(0, ov_r 36), (1, ov_i c), (2, ov_i s), (3, ov_i ow), (4, ov_i nw), (5, ov_i v26)]) (st2 := [ov_i 1]) (pc2 := 43) b_136_42_1 rfl rfl ?_
        refine ov_goto (tgt := 47) d_136_43 (by decide) ?_
        refine ov_blk (ls2 := [(0, ov_r 36), (1, ov_i c), (2, ov_i s), (3, ov_i ow), (4, ov_i nw), (5, ov_i v26), (6, ov_i 1)]) (st2 := [ov_i 1]) (pc2 := 51) b_136_47_2 rfl rfl ?_
        refine ov_ifeq (tgt := 59) d_136_51 (by decide) (by omega) (fun c62 => ?_) (fun c62 => ?_)
        · omega
        · skip
          refine ov_blk (ls2 := [(0, ov_r 36), (1, ov_i c), (2, ov_i s), (3, ov_i ow), (4, ov_i nw), (5, ov_i v26), (6, ov_i 1)]) (st2 := [ov_i v26]) (pc2 := 56) b_136_54_1 rfl rfl ?_
          refine ov_goto (tgt := 73) d_136_56 (by decide) ?_
          exact ov_reti (st := []) d_136_73 rfl ⟨_, rfl, I29, (by show -2147483648 ≤ v26 ∧ v26 ≤ 2147483647 ∧ (h28 36 7) = (h 36 7) ∧ (h28 1 1) = (h 1 1) ∧ (h28 90 2) = (h 90 2) ∧ (h28 0 10) = (h 0 10) ∧ (h28 0 11) = (h 0 11) ∧ (h28 0 12) = (h 0 12) ∧ (h28 0 13) = (h 0 13) ∧ (h28 3 1) = (h 3 1) ∧ (h28 36 8) = (h 36 8) ∧ (h28 46 3) = (h 46 3) ∧ (h28 46 4) = (h 46 4) ∧ (h28 49 4) = (h 49 4) ∧ (h28 49 5) = (h 49 5) ∧ (h28 64 0) = (h 64 0) ∧ (h28 76 0) = (h 76 0); omega)⟩
set_option maxHeartbeats 4000000 in
theorem c_Goers_wayOf_36_k36_8_58 {u : ov_U} {F : ov_H} (k : Nat) (HV : ∀ k' : Nat, k' < k → ∀ {z : ov_Z} {h : ov_H} (d : Nat) (hd : (10 + 5 * k' + 3) ≤ d) (U : ov_cap u) (I : ov_I F z h) (hw : ov_kw 590295810358705651712 F) (c : Int) (s : Int) (k0 : h 36 8 = 58) (g_c : ov_g c) (g_s : ov_g s) (p0 : 0 ≤ c ∧ c + (k' : Int) = 53) (p1 : F (-5) 58 = 1), ov_T u d ov_m127 [ov_r 36, ov_i c, ov_i s] z h (P_Goers_valueAt_36_k36_8_58 F z h c s)) {z : ov_Z} {h : ov_H} (d : Nat) (hd : (10 + 5 * k + 1) ≤ d) (U : ov_cap u) (I : ov_I F z h) (hw : ov_kw 590295810358705651712 F) (c : Int) (s : Int) (sn : Int) (k0 : h 36 8 = 58) (g_c : ov_g c) (g_s : ov_g s) (g_sn : ov_g sn) (p0 : 0 ≤ c ∧ c + (k : Int) = 53) (p1 : F (-5) 58 = 1) : ov_T u d ov_m144 [ov_r 36, ov_i c, ov_i s, ov_i sn] z h (P_Goers_wayOf_36_k36_8_58 F z h c s sn) := by
  refine ov_en rfl (Nat.le_of_ble_eq_true rfl) ?_
  show ov_R u d ov_m144 0 [(0, ov_r 36), (1, ov_i c), (2, ov_i s), (3, ov_i sn)] [] z h (P_Goers_wayOf_36_k36_8_58 F z h c s sn)
  refine ov_blk (ls2 := [(0, ov_r 36), (1, ov_i c), (2, ov_i s), (3, ov_i sn)]) (st2 := [ov_r 36]) (pc2 := 1) b_144_0_1 rfl rfl ?_
  refine ov_getf (v := ov_r 58) d_144_1 fl_Goers_46 (zb_36 I) (zs_36 I) (congrArg ov_r k0) ?_
  refine ov_blk (ls2 := [(0, ov_r 36), (1, ov_i c), (2, ov_i s), (3, ov_i sn)]) (st2 := [ov_i sn, ov_i 0, ov_i c, ov_r 58]) (pc2 := 7) b_144_4_3 rfl rfl ?_
  refine ov_cV (as := [ov_i c, ov_i 0, ov_i sn]) (st := []) (d2 := d - 1) d_144_7 lk_Goers_114 rfl (Nat.le_of_ble_eq_true rfl) (c := 9) (zb_58 I) (zs_58 I) ⟨by decide, rfl⟩ (by omega) (c_Town_waitFor_58 (d - 1) (by omega) U I c 0 sn (by omega) (by omega) (by omega) (by omega)) ?_
  rintro _ _ _ ⟨v2, rfl, rfl, rfl, f1⟩
  show ov_R u d ov_m144 10 [(0, ov_r 36), (1, ov_i c), (2, ov_i s), (3, ov_i sn)] [ov_i v2] z h (P_Goers_wayOf_36_k36_8_58 F z h c s sn)
  have f3 : 0 ≤ v2 ∧ v2 ≤ 60 := f1
  clear f1
  refine ov_blk (ls2 := [(0, ov_r 36), (1, ov_i c), (2, ov_i s), (3, ov_i sn), (4, ov_i v2)]) (st2 := [ov_r 36]) (pc2 := 13) b_144_10_2 rfl rfl ?_
  refine ov_getf (v := ov_r 58) d_144_13 fl_Goers_46 (zb_36 I) (zs_36 I) (congrArg ov_r k0) ?_
  refine ov_blk (ls2 := [(0, ov_r 36), (1, ov_i c), (2, ov_i s), (3, ov_i sn), (4, ov_i v2)]) (st2 := [ov_i sn, ov_i 1, ov_i c, ov_r 58]) (pc2 := 19) b_144_16_3 rfl rfl ?_
  refine ov_cV (as := [ov_i c, ov_i 1, ov_i sn]) (st := []) (d2 := d - 1) d_144_19 lk_Goers_114 rfl (Nat.le_of_ble_eq_true rfl) (c := 9) (zb_58 I) (zs_58 I) ⟨by decide, rfl⟩ (by omega) (c_Town_waitFor_58 (d - 1) (by omega) U I c 1 sn (by omega) (by omega) (by omega) (by omega)) ?_
  rintro _ _ _ ⟨v5, rfl, rfl, rfl, f4⟩
  show ov_R u d ov_m144 22 [(0, ov_r 36), (1, ov_i c), (2, ov_i s), (3, ov_i sn), (4, ov_i v2)] [ov_i v5] z h (P_Goers_wayOf_36_k36_8_58 F z h c s sn)
  have f6 : 0 ≤ v5 ∧ v5 ≤ 60 := f4
  clear f4
  refine ov_blk (ls2 := [(0, ov_r 36), (1, ov_i c), (2, ov_i s), (3, ov_i sn), (4, ov_i v2), (5, ov_i v5)]) (st2 := [ov_r 36]) (pc2 := 25) b_144_22_2 rfl rfl ?_
  refine ov_getf (v := ov_i (h 36 10)) d_144_25 fl_Goers_39 (zb_36 I) (zs_36 I) rfl ?_
  have g7 := rg_36_10 I
  refine ov_blk (ls2 := [(0, ov_r 36), (1, ov_i c), (2, ov_i s), (3, ov_i sn), (4, ov_i v2), (5, ov_i v5)]) (st2 := [ov_i 3, ov_i (h 36 10)]) (pc2 := 29) b_144_28_1 rfl rfl ?_
  refine ov_iceq (tgt := 42) d_144_29 (by decide) (by omega) (by omega) (fun c8 => ?_) (fun c8 => ?_)
  · skip
    refine ov_blk (ls2 := [(0, ov_r 36), (1, ov_i c), (2, ov_i s), (3, ov_i sn), (4, ov_i v2), (5, ov_i v5)]) (st2 := [ov_i v2, ov_i s, ov_i 0, ov_i c, ov_r 36]) (pc2 := 48) b_144_42_5 rfl rfl ?_
    refine ov_cV (as := [ov_i c, ov_i 0, ov_i s, ov_i v2]) (st := []) (d2 := d - 1) d_144_48 lk_Goers_134 rfl (Nat.le_of_ble_eq_true rfl) (c := 2) (zb_36 I) (zs_36 I) ⟨by decide, rfl⟩ (by omega) (c_Goers_valueBy_36_k36_8_58 k HV (d - 1) (by omega) U I (ov_kws hw (by decide +kernel)) c 0 s v2 k0 (by omega) (by omega) (by omega) (by omega) (by omega) (by omega)) ?_
    rintro _ z11 h12 ⟨v10, rfl, I13, f9⟩
    show ov_R u d ov_m144 51 [(0, ov_r 36), (1, ov_i c), (2, ov_i s), (3, ov_i sn), (4, ov_i v2), (5, ov_i v5)] [ov_i v10] z11 h12 (P_Goers_wayOf_36_k36_8_58 F z h c s sn)
    have f14 : -2147483648 ≤ v10 ∧ v10 ≤ 2147483647 ∧ (¬ v10 = -1 → (((0 : Int) = 0 ∧ c ≤ 52) ∨ ((0 : Int) = 1 ∧ c ≤ 47))) ∧ (h12 36 7) = (h 36 7) ∧ (h12 1 1) = (h 1 1) ∧ (h12 90 2) = (h 90 2) ∧ (h12 0 10) = (h 0 10) ∧ (h12 0 11) = (h 0 11) ∧ (h12 0 12) = (h 0 12) ∧ (h12 0 13) = (h 0 13) ∧ (h12 3 1) = (h 3 1) ∧ (h12 36 8) = (h 36 8) ∧ (h12 46 3) = (h 46 3) ∧ (h12 46 4) = (h 46 4) ∧ (h12 49 4) = (h 49 4) ∧ (h12 49 5) = (h 49 5) ∧ (h12 64 0) = (h 64 0) ∧ (h12 76 0) = (h 76 0) := f9
    clear f9
    have e15 : h12 36 8 = 58 := by omega
    refine ov_blk (ls2 := [(0, ov_r 36), (1, ov_i c), (2, ov_i s), (3, ov_i sn), (4, ov_i v2), (5, ov_i v5), (6, ov_i v10)]) (st2 := [ov_i v5, ov_i s, ov_i 1, ov_i c, ov_r 36]) (pc2 := 59) b_144_51_6 rfl rfl ?_
    refine ov_cV (as := [ov_i c, ov_i 1, ov_i s, ov_i v5]) (st := []) (d2 := d - 1) d_144_59 lk_Goers_134 rfl (Nat.le_of_ble_eq_true rfl) (c := 2) (zb_36 I13) (zs_36 I13) ⟨by decide, rfl⟩ (by omega) (c_Goers_valueBy_36_k36_8_58 k HV (d - 1) (by omega) U I13 (ov_kws hw (by decide +kernel)) c 1 s v5 e15 (by omega) (by omega) (by omega) (by omega) (by omega) (by omega)) ?_
    rintro _ z18 h19 ⟨v17, rfl, I20, f16⟩
    show ov_R u d ov_m144 62 [(0, ov_r 36), (1, ov_i c), (2, ov_i s), (3, ov_i sn), (4, ov_i v2), (5, ov_i v5), (6, ov_i v10)] [ov_i v17] z18 h19 (P_Goers_wayOf_36_k36_8_58 F z h c s sn)
    have f21 : -2147483648 ≤ v17 ∧ v17 ≤ 2147483647 ∧ (¬ v17 = -1 → (((1 : Int) = 0 ∧ c ≤ 52) ∨ ((1 : Int) = 1 ∧ c ≤ 47))) ∧ (h19 36 7) = (h12 36 7) ∧ (h19 1 1) = (h12 1 1) ∧ (h19 90 2) = (h12 90 2) ∧ (h19 0 10) = (h12 0 10) ∧ (h19 0 11) = (h12 0 11) ∧ (h19 0 12) = (h12 0 12) ∧ (h19 0 13) = (h12 0 13) ∧ (h19 3 1) = (h12 3 1) ∧ (h19 36 8) = (h12 36 8) ∧ (h19 46 3) = (h12 46 3) ∧ (h19 46 4) = (h12 46 4) ∧ (h19 49 4) = (h12 49 4) ∧ (h19 49 5) = (h12 49 5) ∧ (h19 64 0) = (h12 64 0) ∧ (h19 76 0) = (h12 76 0) := f16
    clear f16
    have e22 : h19 36 8 = 58 := by omega
    refine ov_blk (ls2 := [(0, ov_r 36), (1, ov_i c), (2, ov_i s), (3, ov_i sn), (4, ov_i v2), (5, ov_i v5), (6, ov_i v10), (7, ov_i v17)]) (st2 := [ov_i (-1), ov_i v10]) (pc2 := 67) b_144_62_3 rfl rfl ?_
    refine ov_icne (tgt := 78) d_144_67 (by decide) (by omega) (by omega) (fun c23 => ?_) (fun c23 => ?_)
    · skip
      refine ov_blk (ls2 := [(0, ov_r 36), (1, ov_i c), (2, ov_i s), (3, ov_i sn), (4, ov_i v2), (5, ov_i v5), (6, ov_i v10), (7, ov_i v17)]) (st2 := [ov_i (-1), ov_i v17]) (pc2 := 81) b_144_78_2 rfl rfl ?_
      refine ov_iceq (tgt := 97) d_144_81 (by decide) (by omega) (by omega) (fun c24 => ?_) (fun c24 => ?_)
      · skip
        refine ov_blk (ls2 := [(0, ov_r 36), (1, ov_i c), (2, ov_i s), (3, ov_i sn), (4, ov_i v2), (5, ov_i v5), (6, ov_i v10), (7, ov_i v17)]) (st2 := [ov_i 0]) (pc2 := 98) b_144_97_1 rfl rfl ?_
        refine ov_goto (tgt := 102) d_144_98 (by decide) ?_
        exact ov_reti (st := []) d_144_102 rfl ⟨_, rfl, I20, (by show (0 = -1 ∨ (0 = 0 ∧ c ≤ 52) ∨ (0 = 1 ∧ c ≤ 47)) ∧ (h19 36 7) = (h 36 7) ∧ (h19 1 1) = (h 1 1) ∧ (h19 90 2) = (h 90 2) ∧ (h19 0 10) = (h 0 10) ∧ (h19 0 11) = (h 0 11) ∧ (h19 0 12) = (h 0 12) ∧ (h19 0 13) = (h 0 13) ∧ (h19 3 1) = (h 3 1) ∧ (h19 36 8) = (h 36 8) ∧ (h19 46 3) = (h 46 3) ∧ (h19 46 4) = (h 46 4) ∧ (h19 49 4) = (h 49 4) ∧ (h19 49 5) = (h 49 5) ∧ (h19 64 0) = (h 64 0) ∧ (h19 76 0) = (h 76 0); omega)⟩
      · skip
        refine ov_blk (ls2 := [(0, ov_r 36), (1, ov_i c), (2, ov_i s), (3, ov_i sn), (4, ov_i v2), (5, ov_i v5), (6, ov_i v10), (7, ov_i v17)]) (st2 := [ov_i (-1), ov_i v10]) (pc2 := 87) b_144_84_2 rfl rfl ?_
        refine ov_iceq (tgt := 101) d_144_87 (by decide) (by omega) (by omega) (fun c25 => ?_) (fun c25 => ?_)
        · skip
          refine ov_blk (ls2 := [(0, ov_r 36), (1, ov_i c), (2, ov_i s), (3, ov_i sn), (4, ov_i v2), (5, ov_i v5), (6, ov_i v10), (7, ov_i v17)]) (st2 := [ov_i 1]) (pc2 := 102) b_144_101_1 rfl rfl ?_
          exact ov_reti (st := []) d_144_102 rfl ⟨_, rfl, I20, (by show (1 = -1 ∨ (1 = 0 ∧ c ≤ 52) ∨ (1 = 1 ∧ c ≤ 47)) ∧ (h19 36 7) = (h 36 7) ∧ (h19 1 1) = (h 1 1) ∧ (h19 90 2) = (h 90 2) ∧ (h19 0 10) = (h 0 10) ∧ (h19 0 11) = (h 0 11) ∧ (h19 0 12) = (h 0 12) ∧ (h19 0 13) = (h 0 13) ∧ (h19 3 1) = (h 3 1) ∧ (h19 36 8) = (h 36 8) ∧ (h19 46 3) = (h 46 3) ∧ (h19 46 4) = (h 46 4) ∧ (h19 49 4) = (h 49 4) ∧ (h19 49 5) = (h 49 5) ∧ (h19 64 0) = (h 64 0) ∧ (h19 76 0) = (h 76 0); omega)⟩
        · skip
          refine ov_blk (ls2 := [(0, ov_r 36), (1, ov_i c), (2, ov_i s), (3, ov_i sn), (4, ov_i v2), (5, ov_i v5), (6, ov_i v10), (7, ov_i v17)]) (st2 := [ov_i v17, ov_i v10]) (pc2 := 94) b_144_90_2 rfl rfl ?_
          refine ov_icgt (tgt := 101) d_144_94 (by decide) (by omega) (by omega) (fun c26 => ?_) (fun c26 => ?_)
          · skip
            refine ov_blk (ls2 := [(0, ov_r 36), (1, ov_i c), (2, ov_i s), (3, ov_i sn), (4, ov_i v2), (5, ov_i v5), (6, ov_i v10), (7, ov_i v17)]) (st2 := [ov_i 1]) (pc2 := 102) b_144_101_1 rfl rfl ?_
            exact ov_reti (st := []) d_144_102 rfl ⟨_, rfl, I20, (by show (1 = -1 ∨ (1 = 0 ∧ c ≤ 52) ∨ (1 = 1 ∧ c ≤ 47)) ∧ (h19 36 7) = (h 36 7) ∧ (h19 1 1) = (h 1 1) ∧ (h19 90 2) = (h 90 2) ∧ (h19 0 10) = (h 0 10) ∧ (h19 0 11) = (h 0 11) ∧ (h19 0 12) = (h 0 12) ∧ (h19 0 13) = (h 0 13) ∧ (h19 3 1) = (h 3 1) ∧ (h19 36 8) = (h 36 8) ∧ (h19 46 3) = (h 46 3) ∧ (h19 46 4) = (h 46 4) ∧ (h19 49 4) = (h 49 4) ∧ (h19 49 5) = (h 49 5) ∧ (h19 64 0) = (h 64 0) ∧ (h19 76 0) = (h 76 0); omega)⟩
          · skip
            refine ov_blk (ls2 := [(0, ov_r 36), (1, ov_i c), (2, ov_i s), (3, ov_i sn), (4, ov_i v2), (5, ov_i v5), (6, ov_i v10), (7, ov_i v17)]) (st2 := [ov_i 0]) (pc2 := 98) b_144_97_1 rfl rfl ?_
            refine ov_goto (tgt := 102) d_144_98 (by decide) ?_
            exact ov_reti (st := []) d_144_102 rfl ⟨_, rfl, I20, (by show (0 = -1 ∨ (0 = 0 ∧ c ≤ 52) ∨ (0 = 1 ∧ c ≤ 47)) ∧ (h19 36 7) = (h 36 7) ∧ (h19 1 1) = (h 1 1) ∧ (h19 90 2) = (h 90 2) ∧ (h19 0 10) = (h 0 10) ∧ (h19 0 11) = (h 0 11) ∧ (h19 0 12) = (h 0 12) ∧ (h19 0 13) = (h 0 13) ∧ (h19 3 1) = (h 3 1) ∧ (h19 36 8) = (h 36 8) ∧ (h19 46 3) = (h 46 3) ∧ (h19 46 4) = (h 46 4) ∧ (h19 49 4) = (h 49 4) ∧ (h19 49 5) = (h 49 5) ∧ (h19 64 0) = (h 64 0) ∧ (h19 76 0) = (h 76 0); omega)⟩
    · skip
      refine ov_blk (ls2 := [(0, ov_r 36), (1, ov_i c), (2, ov_i s), (3, ov_i sn), (4, ov_i v2), (5, ov_i v5), (6, ov_i v10), (7, ov_i v17)]) (st2 := [ov_i (-1), ov_i v17]) (pc2 := 73) b_144_70_2 rfl rfl ?_
      refine ov_icne (tgt := 78) d_144_73 (by decide) (by omega) (by omega) (fun c27 => ?_) (fun c27 => ?_)
      · skip
        refine ov_blk (ls2 := [(0, ov_r 36), (1, ov_i c), (2, ov_i s), (3, ov_i sn), (4, ov_i v2), (5, ov_i v5), (6, ov_i v10), (7, ov_i v17)]) (st2 := [ov_i (-1), ov_i v17]) (pc2 := 81) b_144_78_2 rfl rfl ?_
        refine ov_iceq (tgt := 97) d_144_81 (by decide) (by omega) (by omega) (fun c28 => ?_) (fun c28 => ?_)
        · skip
          refine ov_blk (ls2 := [(0, ov_r 36), (1, ov_i c), (2, ov_i s), (3, ov_i sn), (4, ov_i v2), (5, ov_i v5), (6, ov_i v10), (7, ov_i v17)]) (st2 := [ov_i 0]) (pc2 := 98) b_144_97_1 rfl rfl ?_
          refine ov_goto (tgt := 102) d_144_98 (by decide) ?_
          exact ov_reti (st := []) d_144_102 rfl ⟨_, rfl, I20, (by show (0 = -1 ∨ (0 = 0 ∧ c ≤ 52) ∨ (0 = 1 ∧ c ≤ 47)) ∧ (h19 36 7) = (h 36 7) ∧ (h19 1 1) = (h 1 1) ∧ (h19 90 2) = (h 90 2) ∧ (h19 0 10) = (h 0 10) ∧ (h19 0 11) = (h 0 11) ∧ (h19 0 12) = (h 0 12) ∧ (h19 0 13) = (h 0 13) ∧ (h19 3 1) = (h 3 1) ∧ (h19 36 8) = (h 36 8) ∧ (h19 46 3) = (h 46 3) ∧ (h19 46 4) = (h 46 4) ∧ (h19 49 4) = (h 49 4) ∧ (h19 49 5) = (h 49 5) ∧ (h19 64 0) = (h 64 0) ∧ (h19 76 0) = (h 76 0); omega)⟩
        · skip
          refine ov_blk (ls2 := [(0, ov_r 36), (1, ov_i c), (2, ov_i s), (3, ov_i sn), (4, ov_i v2), (5, ov_i v5), (6, ov_i v10), (7, ov_i v17)]) (st2 := [ov_i (-1), ov_i v10]) (pc2 := 87) b_144_84_2 rfl rfl ?_
          refine ov_iceq (tgt := 101) d_144_87 (by decide) (by omega) (by omega) (fun c29 => ?_) (fun c29 => ?_)
          · skip
            refine ov_blk (ls2 := [(0, ov_r 36), (1, ov_i c), (2, ov_i s), (3, ov_i sn), (4, ov_i v2), (5, ov_i v5), (6, ov_i v10), (7, ov_i v17)]) (st2 := [ov_i 1]) (pc2 := 102) b_144_101_1 rfl rfl ?_
            exact ov_reti (st := []) d_144_102 rfl ⟨_, rfl, I20, (by show (1 = -1 ∨ (1 = 0 ∧ c ≤ 52) ∨ (1 = 1 ∧ c ≤ 47)) ∧ (h19 36 7) = (h 36 7) ∧ (h19 1 1) = (h 1 1) ∧ (h19 90 2) = (h 90 2) ∧ (h19 0 10) = (h 0 10) ∧ (h19 0 11) = (h 0 11) ∧ (h19 0 12) = (h 0 12) ∧ (h19 0 13) = (h 0 13) ∧ (h19 3 1) = (h 3 1) ∧ (h19 36 8) = (h 36 8) ∧ (h19 46 3) = (h 46 3) ∧ (h19 46 4) = (h 46 4) ∧ (h19 49 4) = (h 49 4) ∧ (h19 49 5) = (h 49 5) ∧ (h19 64 0) = (h 64 0) ∧ (h19 76 0) = (h 76 0); omega)⟩
          · skip
            refine ov_blk (ls2 := [(0, ov_r 36), (1, ov_i c), (2, ov_i s), (3, ov_i sn), (4, ov_i v2), (5, ov_i v5), (6, ov_i v10), (7, ov_i v17)]) (st2 := [ov_i v17, ov_i v10]) (pc2 := 94) b_144_90_2 rfl rfl ?_
            refine ov_icgt (tgt := 101) d_144_94 (by decide) (by omega) (by omega) (fun c30 => ?_) (fun c30 => ?_)
            · skip
              refine ov_blk (ls2 := [(0, ov_r 36), (1, ov_i c), (2, ov_i s), (3, ov_i sn), (4, ov_i v2), (5, ov_i v5), (6, ov_i v10), (7, ov_i v17)]) (st2 := [ov_i 1]) (pc2 := 102) b_144_101_1 rfl rfl ?_
              exact ov_reti (st := []) d_144_102 rfl ⟨_, rfl, I20, (by show (1 = -1 ∨ (1 = 0 ∧ c ≤ 52) ∨ (1 = 1 ∧ c ≤ 47)) ∧ (h19 36 7) = (h 36 7) ∧ (h19 1 1) = (h 1 1) ∧ (h19 90 2) = (h 90 2) ∧ (h19 0 10) = (h 0 10) ∧ (h19 0 11) = (h 0 11) ∧ (h19 0 12) = (h 0 12) ∧ (h19 0 13) = (h 0 13) ∧ (h19 3 1) = (h 3 1) ∧ (h19 36 8) = (h 36 8) ∧ (h19 46 3) = (h 46 3) ∧ (h19 46 4) = (h 46 4) ∧ (h19 49 4) = (h 49 4) ∧ (h19 49 5) = (h 49 5) ∧ (h19 64 0) = (h 64 0) ∧ (h19 76 0) = (h 76 0); omega)⟩
            · skip
              refine ov_blk (ls2 := [(0, ov_r 36), (1, ov_i c), (2, ov_i s), (3, ov_i sn), (4, ov_i v2), (5, ov_i v5), (6, ov_i v10), (7, ov_i v17)]) (st2 := [ov_i 0]) (pc2 := 98) b_144_97_1 rfl rfl ?_
              refine ov_goto (tgt := 102) d_144_98 (by decide) ?_
              exact ov_reti (st := []) d_144_102 rfl ⟨_, rfl, I20, (by show (0 = -1 ∨ (0 = 0 ∧ c ≤ 52) ∨ (0 = 1 ∧ c ≤ 47)) ∧ (h19 36 7) = (h 36 7) ∧ (h19 1 1) = (h 1 1) ∧ (h19 90 2) = (h 90 2) ∧ (h19 0 10) = (h 0 10) ∧ (h19 0 11) = (h 0 11) ∧ (h19 0 12) = (h 0 12) ∧ (h19 0 13) = (h 0 13) ∧ (h19 3 1) = (h 3 1) ∧ (h19 36 8) = (h 36 8) ∧ (h19 46 3) = (h 46 3) ∧ (h19 46 4) = (h 46 4) ∧ (h19 49 4) = (h 49 4) ∧ (h19 49 5) = (h 49 5) ∧ (h19 64 0) = (h 64 0) ∧ (h19 76 0) = (h 76 0); omega)⟩
      · skip
        refine ov_blk (ls2 := [(0, ov_r 36), (1, ov_i c), (2, ov_i s), (3, ov_i sn), (4, ov_i v2), (5, ov_i v5), (6, ov_i v10), (7, ov_i v17)]) (st2 := [ov_i (-1)]) (pc2 := 77) b_144_76_1 rfl rfl ?_
        exact ov_reti (st := []) d_144_77 rfl ⟨_, rfl, I20, (by show ((-1) = -1 ∨ ((-1) = 0 ∧ c ≤ 52) ∨ ((-1) = 1 ∧ c ≤ 47)) ∧ (h19 36 7) = (h 36 7) ∧ (h19 1 1) = (h 1 1) ∧ (h19 90 2) = (h 90 2) ∧ (h19 0 10) = (h 0 10) ∧ (h19 0 11) = (h 0 11) ∧ (h19 0 12) = (h 0 12) ∧ (h19 0 13) = (h 0 13) ∧ (h19 3 1) = (h 3 1) ∧ (h19 36 8) = (h 36 8) ∧ (h19 46 3) = (h 46 3) ∧ (h19 46 4) = (h 46 4) ∧ (h19 49 4) = (h 49 4) ∧ (h19 49 5) = (h 49 5) ∧ (h19 64 0) = (h 64 0) ∧ (h19 76 0) = (h 76 0); omega)⟩
  · skip
    refine ov_blk (ls2 := [(0, ov_r 36), (1, ov_i c), (2, ov_i s), (3, ov_i sn), (4, ov_i v2), (5, ov_i v5)]) (st2 := [ov_i v5, ov_i v2, ov_i c, ov_r 36]) (pc2 := 38) b_144_32_4 rfl rfl ?_
    refine ov_cV (as := [ov_i c, ov_i v2, ov_i v5]) (st := []) (d2 := d - 1) d_144_38 lk_Goers_150 rfl (Nat.le_of_ble_eq_true rfl) (c := 2) (zb_36 I) (zs_36 I) ⟨by decide, rfl⟩ (by omega) (c_Goers_plainWay_36_k36_8_58 (d - 1) (by omega) U I (ov_kws hw (by decide +kernel)) c v2 v5 k0 (by omega) (by omega) (by omega) (by omega)) ?_
    rintro _ z33 h34 ⟨v32, rfl, I35, f31⟩
    show ov_R u d ov_m144 41 [(0, ov_r 36), (1, ov_i c), (2, ov_i s), (3, ov_i sn), (4, ov_i v2), (5, ov_i v5)] [ov_i v32] z33 h34 (P_Goers_wayOf_36_k36_8_58 F z h c s sn)
    have f36 : (v32 = -1 ∨ (v32 = 0 ∧ c ≤ 52) ∨ (v32 = 1 ∧ c ≤ 47)) ∧ (h34 36 7) = (h 36 7) ∧ (h34 1 1) = (h 1 1) ∧ (h34 90 2) = (h 90 2) ∧ (h34 0 10) = (h 0 10) ∧ (h34 0 11) = (h 0 11) ∧ (h34 0 12) = (h 0 12) ∧ (h34 0 13) = (h 0 13) ∧ (h34 3 1) = (h 3 1) ∧ (h34 36 8) = (h 36 8) ∧ (h34 46 3) = (h 46 3) ∧ (h34 46 4) = (h 46 4) ∧ (h34 49 4) = (h 49 4) ∧ (h34 49 5) = (h 49 5) ∧ (h34 64 0) = (h 64 0) ∧ (h34 76 0) = (h 76 0) := f31
    clear f31
    have e37 : h34 36 8 = 58 := by omega
    exact ov_reti (st := []) d_144_41 rfl ⟨_, rfl, I35, (by show (v32 = -1 ∨ (v32 = 0 ∧ c ≤ 52) ∨ (v32 = 1 ∧ c ≤ 47)) ∧ (h34 36 7) = (h 36 7) ∧ (h34 1 1) = (h 1 1) ∧ (h34 90 2) = (h 90 2) ∧ (h34 0 10) = (h 0 10) ∧ (h34 0 11) = (h 0 11) ∧ (h34 0 12) = (h 0 12) ∧ (h34 0 13) = (h 0 13) ∧ (h34 3 1) = (h 3 1) ∧ (h34 36 8) = (h 36 8) ∧ (h34 46 3) = (h 46 3) ∧ (h34 46 4) = (h 46 4) ∧ (h34 49 4) = (h 49 4) ∧ (h34 49 5) = (h 49 5) ∧ (h34 64 0) = (h 64 0) ∧ (h34 76 0) = (h 76 0); omega)⟩
set_option maxHeartbeats 4000000 in
theorem c_Goers_bestOverRound_36_k36_8_58 {u : ov_U} {F : ov_H} (k : Nat) (HV : ∀ k' : Nat, k' < k → ∀ {z : ov_Z} {h : ov_H} (d : Nat) (hd : (10 + 5 * k' + 3) ≤ d) (U : ov_cap u) (I : ov_I F z h) (hw : ov_kw 590295810358705651712 F) (c : Int) (s : Int) (k0 : h 36 8 = 58) (g_c : ov_g c) (g_s : ov_g s) (p0 : 0 ≤ c ∧ c + (k' : Int) = 53) (p1 : F (-5) 58 = 1), ov_T u d ov_m127 [ov_r 36, ov_i c, ov_i s] z h (P_Goers_valueAt_36_k36_8_58 F z h c s)) {z : ov_Z} {h : ov_H} (d : Nat) (hd : (10 + 5 * k + 2) ≤ d) (U : ov_cap u) (I : ov_I F z h) (hw : ov_kw 590295810358705651712 F) (c : Int) (s : Int) (k0 : h 36 8 = 58) (g_c : ov_g c) (g_s : ov_g s) (p0 : 0 ≤ c ∧ c + (k : Int) = 53) (p1 : F (-5) 58 = 1) : ov_T u d ov_m130 [ov_r 36, ov_i c, ov_i s] z h (P_Goers_bestOverRound_36_k36_8_58 F z h c s) := by
  refine ov_en rfl (Nat.le_of_ble_eq_true rfl) ?_
  show ov_R u d ov_m130 0 [(0, ov_r 36), (1, ov_i c), (2, ov_i s)] [] z h (P_Goers_bestOverRound_36_k36_8_58 F z h c s)
  refine ov_blk (ls2 := [(0, ov_r 36), (1, ov_i c), (2, ov_i s)]) (st2 := [ov_r 36]) (pc2 := 1) b_130_0_1 rfl rfl ?_
  refine ov_getf (v := ov_r 58) d_130_1 fl_Goers_46 (zb_36 I) (zs_36 I) (congrArg ov_r k0) ?_
  refine ov_getf (v := ov_r 60) d_130_4 fl_Goers_84 (zb_58 I) (zs_58 I) (congrArg ov_r (rg_58_3 I)) ?_
  refine ov_blk (ls2 := [(0, ov_r 36), (1, ov_i c), (2, ov_i s)]) (st2 := [ov_i c, ov_r 60]) (pc2 := 8) b_130_7_1 rfl rfl ?_
  refine ov_iald d_130_8 (zb_60 I) (zs_60 I) (by omega) ?_
  have g1 := ra_60 I c
  refine ov_blk (ls2 := [(0, ov_r 36), (1, ov_i c), (2, ov_i s), (3, ov_i (h 60 c))]) (st2 := [ov_r 36]) (pc2 := 11) b_130_9_2 rfl rfl ?_
  refine ov_getf (v := ov_r 58) d_130_11 fl_Goers_46 (zb_36 I) (zs_36 I) (congrArg ov_r k0) ?_
  refine ov_getf (v := ov_r 62) d_130_14 fl_Goers_126 (zb_58 I) (zs_58 I) (congrArg ov_r (rg_58_5 I)) ?_
  refine ov_blk (ls2 := [(0, ov_r 36), (1, ov_i c), (2, ov_i s), (3, ov_i (h 60 c))]) (st2 := [ov_i c, ov_r 62]) (pc2 := 18) b_130_17_1 rfl rfl ?_
  refine ov_iald d_130_18 (zb_62 I) (zs_62 I) (by omega) ?_
  have g2 := ra_62 I c
  refine ov_blk (ls2 := [(0, ov_r 36), (1, ov_i c), (2, ov_i s), (3, ov_i (h 60 c)), (4, ov_i (h 62 c))]) (st2 := [ov_i 0, ov_i s, ov_i 0, ov_i c, ov_r 36, ov_r 36]) (pc2 := 27) b_130_19_7 rfl rfl ?_
  refine ov_cV (as := [ov_i c, ov_i 0, ov_i s, ov_i 0]) (st := [ov_r 36]) (d2 := d - 1) d_130_27 lk_Goers_134 rfl (Nat.le_of_ble_eq_true rfl) (c := 2) (zb_36 I) (zs_36 I) ⟨by decide, rfl⟩ (by omega) (c_Goers_valueBy_36_k36_8_58 k HV (d - 1) (by omega) U I (ov_kws hw (by decide +kernel)) c 0 s 0 k0 (by omega) (by omega) (by omega) (by omega) (by omega) (by omega)) ?_
  rintro _ z5 h6 ⟨v4, rfl, I7, f3⟩
  show ov_R u d ov_m130 30 [(0, ov_r 36), (1, ov_i c), (2, ov_i s), (3, ov_i (h 60 c)), (4, ov_i (h 62 c))] [ov_i v4, ov_r 36] z5 h6 (P_Goers_bestOverRound_36_k36_8_58 F z h c s)
  have f8 : -2147483648 ≤ v4 ∧ v4 ≤ 2147483647 ∧ (¬ v4 = -1 → (((0 : Int) = 0 ∧ c ≤ 52) ∨ ((0 : Int) = 1 ∧ c ≤ 47))) ∧ (h6 36 7) = (h 36 7) ∧ (h6 1 1) = (h 1 1) ∧ (h6 90 2) = (h 90 2) ∧ (h6 0 10) = (h 0 10) ∧ (h6 0 11) = (h 0 11) ∧ (h6 0 12) = (h 0 12) ∧ (h6 0 13) = (h 0 13) ∧ (h6 3 1) = (h 3 1) ∧ (h6 36 8) = (h 36 8) ∧ (h6 46 3) = (h 46 3) ∧ (h6 46 4) = (h 46 4) ∧ (h6 49 4) = (h 49 4) ∧ (h6 49 5) = (h 49 5) ∧ (h6 64 0) = (h 64 0) ∧ (h6 76 0) = (h 76 0) := f3
  clear f3
  have e9 : h6 36 8 = 58 := by omega
  refine ov_blk (ls2 := [(0, ov_r 36), (1, ov_i c), (2, ov_i s), (3, ov_i (h 60 c)), (4, ov_i (h 62 c))]) (st2 := [ov_i (h 62 c), ov_i s, ov_i 1, ov_i c, ov_i v4, ov_r 36]) (pc2 := 35) b_130_30_4 rfl rfl ?_
  refine ov_cV (as := [ov_i v4, ov_i c, ov_i 1, ov_i s, ov_i (h 62 c)]) (st := []) (d2 := d - 1) d_130_35 lk_Goers_137 rfl (Nat.le_of_ble_eq_true rfl) (c := 2) (zb_36 I7) (zs_36 I7) ⟨by decide, rfl⟩ (by omega) (c_Goers_bestWhile_36_k36_8_58 k HV (d - 1) (by omega) U I7 (ov_kws hw (by decide +kernel)) v4 c 1 s (h 62 c) e9 (by omega) (by omega) (by omega) (by omega) (by omega) (by omega) (by omega) (by omega)) ?_
  rintro _ z12 h13 ⟨v11, rfl, I14, f10⟩
  show ov_R u d ov_m130 38 [(0, ov_r 36), (1, ov_i c), (2, ov_i s), (3, ov_i (h 60 c)), (4, ov_i (h 62 c))] [ov_i v11] z12 h13 (P_Goers_bestOverRound_36_k36_8_58 F z h c s)
  have f15 : -2147483648 ≤ v11 ∧ v11 ≤ 2147483647 ∧ (h13 36 7) = (h6 36 7) ∧ (h13 1 1) = (h6 1 1) ∧ (h13 90 2) = (h6 90 2) ∧ (h13 0 10) = (h6 0 10) ∧ (h13 0 11) = (h6 0 11) ∧ (h13 0 12) = (h6 0 12) ∧ (h13 0 13) = (h6 0 13) ∧ (h13 3 1) = (h6 3 1) ∧ (h13 36 8) = (h6 36 8) ∧ (h13 46 3) = (h6 46 3) ∧ (h13 46 4) = (h6 46 4) ∧ (h13 49 4) = (h6 49 4) ∧ (h13 49 5) = (h6 49 5) ∧ (h13 64 0) = (h6 64 0) ∧ (h13 76 0) = (h6 76 0) := f10
  clear f10
  have e16 : h13 36 8 = 58 := by omega
  refine ov_blk (ls2 := [(0, ov_r 36), (1, ov_i c), (2, ov_i s), (3, ov_i (h 60 c)), (4, ov_i (h 62 c)), (5, ov_i v11)]) (st2 := [ov_i 0, ov_i s, ov_i 1, ov_i c, ov_r 36, ov_r 36]) (pc2 := 46) b_130_38_7 rfl rfl ?_
  refine ov_cV (as := [ov_i c, ov_i 1, ov_i s, ov_i 0]) (st := [ov_r 36]) (d2 := d - 1) d_130_46 lk_Goers_134 rfl (Nat.le_of_ble_eq_true rfl) (c := 2) (zb_36 I14) (zs_36 I14) ⟨by decide, rfl⟩ (by omega) (c_Goers_valueBy_36_k36_8_58 k HV (d - 1) (by omega) U I14 (ov_kws hw (by decide +kernel)) c 1 s 0 e16 (by omega) (by omega) (by omega) (by omega) (by omega) (by omega)) ?_
  rintro _ z19 h20 ⟨v18, rfl, I21, f17⟩
  show ov_R u d ov_m130 49 [(0, ov_r 36), (1, ov_i c), (2, ov_i s), (3, ov_i (h 60 c)), (4, ov_i (h 62 c)), (5, ov_i v11)] [ov_i v18, ov_r 36] z19 h20 (P_Goers_bestOverRound_36_k36_8_58 F z h c s)
  have f22 : -2147483648 ≤ v18 ∧ v18 ≤ 2147483647 ∧ (¬ v18 = -1 → (((1 : Int) = 0 ∧ c ≤ 52) ∨ ((1 : Int) = 1 ∧ c ≤ 47))) ∧ (h20 36 7) = (h13 36 7) ∧ (h20 1 1) = (h13 1 1) ∧ (h20 90 2) = (h13 90 2) ∧ (h20 0 10) = (h13 0 10) ∧ (h20 0 11) = (h13 0 11) ∧ (h20 0 12) = (h13 0 12) ∧ (h20 0 13) = (h13 0 13) ∧ (h20 3 1) = (h13 3 1) ∧ (h20 36 8) = (h13 36 8) ∧ (h20 46 3) = (h13 46 3) ∧ (h20 46 4) = (h13 46 4) ∧ (h20 49 4) = (h13 49 4) ∧ (h20 49 5) = (h13 49 5) ∧ (h20 64 0) = (h13 64 0) ∧ (h20 76 0) = (h13 76 0) := f17
  clear f17
  have e23 : h20 36 8 = 58 := by omega
  refine ov_blk (ls2 := [(0, ov_r 36), (1, ov_i c), (2, ov_i s), (3, ov_i (h 60 c)), (4, ov_i (h 62 c)), (5, ov_i v11)]) (st2 := [ov_i ((h 60 c) - (h 62 c)), ov_i s, ov_i 0, ov_i c, ov_i v18, ov_r 36]) (pc2 := 56) b_130_49_6 rfl rfl ?_
  refine ov_cV (as := [ov_i v18, ov_i c, ov_i 0, ov_i s, ov_i ((h 60 c) - (h 62 c))]) (st := []) (d2 := d - 1) d_130_56 lk_Goers_137 rfl (Nat.le_of_ble_eq_true rfl) (c := 2) (zb_36 I21) (zs_36 I21) ⟨by decide, rfl⟩ (by omega) (c_Goers_bestWhile_36_k36_8_58 k HV (d - 1) (by omega) U I21 (ov_kws hw (by decide +kernel)) v18 c 0 s ((h 60 c) - (h 62 c)) e23 (by omega) (by omega) (by omega) (by omega) (by omega) (by omega) (by omega) (by omega)) ?_
  rintro _ z26 h27 ⟨v25, rfl, I28, f24⟩
  show ov_R u d ov_m130 59 [(0, ov_r 36), (1, ov_i c), (2, ov_i s), (3, ov_i (h 60 c)), (4, ov_i (h 62 c)), (5, ov_i v11)] [ov_i v25] z26 h27 (P_Goers_bestOverRound_36_k36_8_58 F z h c s)
  have f29 : -2147483648 ≤ v25 ∧ v25 ≤ 2147483647 ∧ (h27 36 7) = (h20 36 7) ∧ (h27 1 1) = (h20 1 1) ∧ (h27 90 2) = (h20 90 2) ∧ (h27 0 10) = (h20 0 10) ∧ (h27 0 11) = (h20 0 11) ∧ (h27 0 12) = (h20 0 12) ∧ (h27 0 13) = (h20 0 13) ∧ (h27 3 1) = (h20 3 1) ∧ (h27 36 8) = (h20 36 8) ∧ (h27 46 3) = (h20 46 3) ∧ (h27 46 4) = (h20 46 4) ∧ (h27 49 4) = (h20 49 4) ∧ (h27 49 5) = (h20 49 5) ∧ (h27 64 0) = (h20 64 0) ∧ (h27 76 0) = (h20 76 0) := f24
  clear f24
  have e30 : h27 36 8 = 58 := by omega
  refine ov_blk (ls2 := [(0, ov_r 36), (1, ov_i c), (2, ov_i s), (3, ov_i (h 60 c)), (4, ov_i (h 62 c)), (5, ov_i v11), (6, ov_i v25)]) (st2 := [ov_i (-1), ov_i v11]) (pc2 := 64) b_130_59_3 rfl rfl ?_
  refine ov_iceq (tgt := 73) d_130_64 (by decide) (by omega) (by omega) (fun c31 => ?_) (fun c31 => ?_)
  · skip
    refine ov_blk (ls2 := [(0, ov_r 36), (1, ov_i c), (2, ov_i s), (3, ov_i (h 60 c)), (4, ov_i (h 62 c)), (5, ov_i v11), (6, ov_i v25)]) (st2 := [ov_i (-1)]) (pc2 := 74) b_130_73_1 rfl rfl ?_
    exact ov_reti (st := []) d_130_74 rfl ⟨_, rfl, I28, (by show -2147483648 ≤ (-1) ∧ (-1) ≤ 2147483647 ∧ (h27 36 7) = (h 36 7) ∧ (h27 1 1) = (h 1 1) ∧ (h27 90 2) = (h 90 2) ∧ (h27 0 10) = (h 0 10) ∧ (h27 0 11) = (h 0 11) ∧ (h27 0 12) = (h 0 12) ∧ (h27 0 13) = (h 0 13) ∧ (h27 3 1) = (h 3 1) ∧ (h27 36 8) = (h 36 8) ∧ (h27 46 3) = (h 46 3) ∧ (h27 46 4) = (h 46 4) ∧ (h27 49 4) = (h 49 4) ∧ (h27 49 5) = (h 49 5) ∧ (h27 64 0) = (h 64 0) ∧ (h27 76 0) = (h 76 0); omega)⟩
  · skip
    refine ov_blk (ls2 := [(0, ov_r 36), (1, ov_i c), (2, ov_i s), (3, ov_i (h 60 c)), (4, ov_i (h 62 c)), (5, ov_i v11), (6, ov_i v25)]) (st2 := [ov_i (-1), ov_i v25]) (pc2 := 70) b_130_67_2 rfl rfl ?_
    refine ov_icne (tgt := 75) d_130_70 (by decide) (by omega) (by omega) (fun c32 => ?_) (fun c32 => ?_)
    · skip
      refine ov_blk (ls2 := [(0, ov_r 36), (1, ov_i c), (2, ov_i s), (3, ov_i (h 60 c)), (4, ov_i (h 62 c)), (5, ov_i v11), (6, ov_i v25)]) (st2 := [ov_r 36]) (pc2 := 76) b_130_75_1 rfl rfl ?_
      refine ov_getf (v := ov_i (h27 36 11)) d_130_76 fl_Goers_43 (zb_36 I28) (zs_36 I28) rfl ?_
      have g33 := rg_36_11 I28
      refine ov_ifne (tgt := 87) d_130_79 (by decide) (by omega) (fun c34 => ?_) (fun c34 => ?_)
      · skip
        refine ov_blk (ls2 := [(0, ov_r 36), (1, ov_i c), (2, ov_i s), (3, ov_i (h 60 c)), (4, ov_i (h 62 c)), (5, ov_i v11), (6, ov_i v25)]) (st2 := [ov_i v25, ov_i v11]) (pc2 := 91) b_130_87_2 rfl rfl ?_
        refine ov_cS (as := [ov_i v11, ov_i v25]) (st := []) (d2 := d - 1) d_130_91 lk_Goers_129 rfl (Nat.le_of_ble_eq_true rfl) (by omega) (c_Math_max (d - 1) (by omega) U I28 v11 v25 (by omega) (by omega)) ?_
        rintro _ _ _ ⟨v36, rfl, rfl, rfl, f35⟩
        show ov_R u d ov_m130 94 [(0, ov_r 36), (1, ov_i c), (2, ov_i s), (3, ov_i (h 60 c)), (4, ov_i (h 62 c)), (5, ov_i v11), (6, ov_i v25)] [ov_i v36] z26 h27 (P_Goers_bestOverRound_36_k36_8_58 F z h c s)
        have f37 : v11 ≤ v36 ∧ v25 ≤ v36 ∧ (v36 = v11 ∨ v36 = v25) := f35
        clear f35
        refine ov_goto (tgt := 104) d_130_94 (by decide) ?_
        exact ov_reti (st := []) d_130_104 rfl ⟨_, rfl, I28, (by show -2147483648 ≤ v36 ∧ v36 ≤ 2147483647 ∧ (h27 36 7) = (h 36 7) ∧ (h27 1 1) = (h 1 1) ∧ (h27 90 2) = (h 90 2) ∧ (h27 0 10) = (h 0 10) ∧ (h27 0 11) = (h 0 11) ∧ (h27 0 12) = (h 0 12) ∧ (h27 0 13) = (h 0 13) ∧ (h27 3 1) = (h 3 1) ∧ (h27 36 8) = (h 36 8) ∧ (h27 46 3) = (h 46 3) ∧ (h27 46 4) = (h 46 4) ∧ (h27 49 4) = (h 49 4) ∧ (h27 49 5) = (h 49 5) ∧ (h27 64 0) = (h 64 0) ∧ (h27 76 0) = (h 76 0); omega)⟩
      · skip
        refine ov_blk (ls2 := [(0, ov_r 36), (1, ov_i c), (2, ov_i s), (3, ov_i (h 60 c)), (4, ov_i (h 62 c)), (5, ov_i v11), (6, ov_i v25)]) (st2 := [ov_i 1, ov_i (h 60 c)]) (pc2 := 84) b_130_82_2 rfl rfl ?_
        refine ov_icge (tgt := 97) d_130_84 (by decide) (by omega) (by omega) (fun c38 => ?_) (fun c38 => ?_)
        · skip
          refine ov_blk (ls2 := [(0, ov_r 36), (1, ov_i c), (2, ov_i s), (3, ov_i (h 60 c)), (4, ov_i (h 62 c)), (5, ov_i v11), (6, ov_i v25)]) (st2 := [ov_i (v11 + v25)]) (pc2 := 102) b_130_97_3 rfl rfl ?_
          refine ov_hav (fun w39 gw39 => ?_)
          refine ov_blk (ls2 := [(0, ov_r 36), (1, ov_i c), (2, ov_i s), (3, ov_i (h 60 c)), (4, ov_i (h 62 c)), (5, ov_i v11), (6, ov_i v25)]) (st2 := [ov_i (h 60 c), ov_i w39]) (pc2 := 103) b_130_102_1 rfl rfl ?_
          refine ov_idiv d_130_103 (by omega) (by omega) (by omega) ?_
          refine ov_hav (fun w40 gw40 => ?_)
          exact ov_reti (st := []) d_130_104 rfl ⟨_, rfl, I28, (by show -2147483648 ≤ w40 ∧ w40 ≤ 2147483647 ∧ (h27 36 7) = (h 36 7) ∧ (h27 1 1) = (h 1 1) ∧ (h27 90 2) = (h 90 2) ∧ (h27 0 10) = (h 0 10) ∧ (h27 0 11) = (h 0 11) ∧ (h27 0 12) = (h 0 12) ∧ (h27 0 13) = (h 0 13) ∧ (h27 3 1) = (h 3 1) ∧ (h27 36 8) = (h 36 8) ∧ (h27 46 3) = (h 46 3) ∧ (h27 46 4) = (h 46 4) ∧ (h27 49 4) = (h 49 4) ∧ (h27 49 5) = (h 49 5) ∧ (h27 64 0) = (h 64 0) ∧ (h27 76 0) = (h 76 0); omega)⟩
        · skip
          refine ov_blk (ls2 := [(0, ov_r 36), (1, ov_i c), (2, ov_i s), (3, ov_i (h 60 c)), (4, ov_i (h 62 c)), (5, ov_i v11), (6, ov_i v25)]) (st2 := [ov_i v25, ov_i v11]) (pc2 := 91) b_130_87_2 rfl rfl ?_
          refine ov_cS (as := [ov_i v11, ov_i v25]) (st := []) (d2 := d - 1) d_130_91 lk_Goers_129 rfl (Nat.le_of_ble_eq_true rfl) (by omega) (c_Math_max (d - 1) (by omega) U I28 v11 v25 (by omega) (by omega)) ?_
          rintro _ _ _ ⟨v42, rfl, rfl, rfl, f41⟩
          show ov_R u d ov_m130 94 [(0, ov_r 36), (1, ov_i c), (2, ov_i s), (3, ov_i (h 60 c)), (4, ov_i (h 62 c)), (5, ov_i v11), (6, ov_i v25)] [ov_i v42] z26 h27 (P_Goers_bestOverRound_36_k36_8_58 F z h c s)
          have f43 : v11 ≤ v42 ∧ v25 ≤ v42 ∧ (v42 = v11 ∨ v42 = v25) := f41
          clear f41
          refine ov_goto (tgt := 104) d_130_94 (by decide) ?_
          exact ov_reti (st := []) d_130_104 rfl ⟨_, rfl, I28, (by show -2147483648 ≤ v42 ∧ v42 ≤ 2147483647 ∧ (h27 36 7) = (h 36 7) ∧ (h27 1 1) = (h 1 1) ∧ (h27 90 2) = (h 90 2) ∧ (h27 0 10) = (h 0 10) ∧ (h27 0 11) = (h 0 11) ∧ (h27 0 12) = (h 0 12) ∧ (h27 0 13) = (h 0 13) ∧ (h27 3 1) = (h 3 1) ∧ (h27 36 8) = (h 36 8) ∧ (h27 46 3) = (h 46 3) ∧ (h27 46 4) = (h 46 4) ∧ (h27 49 4) = (h 49 4) ∧ (h27 49 5) = (h 49 5) ∧ (h27 64 0) = (h 64 0) ∧ (h27 76 0) = (h 76 0); omega)⟩
    · skip
      refine ov_blk (ls2 := [(0, ov_r 36), (1, ov_i c), (2, ov_i s), (3, ov_i (h 60 c)), (4, ov_i (h 62 c)), (5, ov_i v11), (6, ov_i v25)]) (st2 := [ov_i (-1)]) (pc2 := 74) b_130_73_1 rfl rfl ?_
      exact ov_reti (st := []) d_130_74 rfl ⟨_, rfl, I28, (by show -2147483648 ≤ (-1) ∧ (-1) ≤ 2147483647 ∧ (h27 36 7) = (h 36 7) ∧ (h27 1 1) = (h 1 1) ∧ (h27 90 2) = (h 90 2) ∧ (h27 0 10) = (h 0 10) ∧ (h27 0 11) = (h 0 11) ∧ (h27 0 12) = (h 0 12) ∧ (h27 0 13) = (h 0 13) ∧ (h27 3 1) = (h 3 1) ∧ (h27 36 8) = (h 36 8) ∧ (h27 46 3) = (h 46 3) ∧ (h27 46 4) = (h 46 4) ∧ (h27 49 4) = (h 49 4) ∧ (h27 49 5) = (h 49 5) ∧ (h27 64 0) = (h 64 0) ∧ (h27 76 0) = (h 76 0); omega)⟩
set_option maxHeartbeats 4000000 in
theorem c_Goers_valueOverRound_36_k36_8_58 {u : ov_U} {F : ov_H} (k : Nat) (HV : ∀ k' : Nat, k' < k → ∀ {z : ov_Z} {h : ov_H} (d : Nat) (hd : (10 + 5 * k' + 3) ≤ d) (U : ov_cap u) (I : ov_I F z h) (hw : ov_kw 590295810358705651712 F) (c : Int) (s : Int) (k0 : h 36 8 = 58) (g_c : ov_g c) (g_s : ov_g s) (p0 : 0 ≤ c ∧ c + (k' : Int) = 53) (p1 : F (-5) 58 = 1), ov_T u d ov_m127 [ov_r 36, ov_i c, ov_i s] z h (P_Goers_valueAt_36_k36_8_58 F z h c s)) {z : ov_Z} {h : ov_H} (d : Nat) (hd : (10 + 5 * k + 2) ≤ d) (U : ov_cap u) (I : ov_I F z h) (hw : ov_kw 590295810358705651712 F) (c : Int) (s : Int) (k0 : h 36 8 = 58) (g_c : ov_g c) (g_s : ov_g s) (p0 : 0 ≤ c ∧ c + (k : Int) = 53) (p1 : F (-5) 58 = 1) : ov_T u d ov_m135 [ov_r 36, ov_i c, ov_i s] z h (P_Goers_valueOverRound_36_k36_8_58 F z h c s) := by
  refine ov_en rfl (Nat.le_of_ble_eq_true rfl) ?_
  show ov_R u d ov_m135 0 [(0, ov_r 36), (1, ov_i c), (2, ov_i s)] [] z h (P_Goers_valueOverRound_36_k36_8_58 F z h c s)
  refine ov_blk (ls2 := [(0, ov_r 36), (1, ov_i c), (2, ov_i s)]) (st2 := [ov_r 36]) (pc2 := 1) b_135_0_1 rfl rfl ?_
  refine ov_getf (v := ov_r 58) d_135_1 fl_Goers_46 (zb_36 I) (zs_36 I) (congrArg ov_r k0) ?_
  refine ov_getf (v := ov_r 60) d_135_4 fl_Goers_84 (zb_58 I) (zs_58 I) (congrArg ov_r (rg_58_3 I)) ?_
  refine ov_blk (ls2 := [(0, ov_r 36), (1, ov_i c), (2, ov_i s)]) (st2 := [ov_i c, ov_r 60]) (pc2 := 8) b_135_7_1 rfl rfl ?_
  refine ov_iald d_135_8 (zb_60 I) (zs_60 I) (by omega) ?_
  have g1 := ra_60 I c
  refine ov_blk (ls2 := [(0, ov_r 36), (1, ov_i c), (2, ov_i s), (3, ov_i (h 60 c))]) (st2 := [ov_r 36]) (pc2 := 11) b_135_9_2 rfl rfl ?_
  refine ov_getf (v := ov_r 58) d_135_11 fl_Goers_46 (zb_36 I) (zs_36 I) (congrArg ov_r k0) ?_
  refine ov_getf (v := ov_r 62) d_135_14 fl_Goers_126 (zb_58 I) (zs_58 I) (congrArg ov_r (rg_58_5 I)) ?_
  refine ov_blk (ls2 := [(0, ov_r 36), (1, ov_i c), (2, ov_i s), (3, ov_i (h 60 c))]) (st2 := [ov_i c, ov_r 62]) (pc2 := 18) b_135_17_1 rfl rfl ?_
  refine ov_iald d_135_18 (zb_62 I) (zs_62 I) (by omega) ?_
  have g2 := ra_62 I c
  refine ov_blk (ls2 := [(0, ov_r 36), (1, ov_i c), (2, ov_i s), (3, ov_i (h 60 c)), (4, ov_i (h 62 c)), (5, ov_i 0), (6, ov_i 0), (7, ov_i 0)]) (st2 := []) (pc2 := 30) b_135_19_7 rfl rfl ?_
  have L6 : ∀ (n3 : Nat) (x5 : Int) (x6 : Int) (x7 : Int) (z7 : ov_Z) (h8 : ov_H) (I9 : ov_I F z7 h8) (q5 : ov_g x5 ∧ ov_g x6 ∧ 0 ≤ x7 ∧ x7 ≤ 60 ∧ (h8 36 7) = (h 36 7) ∧ (h8 1 1) = (h 1 1) ∧ (h8 90 2) = (h 90 2) ∧ (h8 0 10) = (h 0 10) ∧ (h8 0 11) = (h 0 11) ∧ (h8 0 12) = (h 0 12) ∧ (h8 0 13) = (h 0 13) ∧ (h8 3 1) = (h 3 1) ∧ (h8 36 8) = (h 36 8) ∧ (h8 46 3) = (h 46 3) ∧ (h8 46 4) = (h 46 4) ∧ (h8 49 4) = (h 49 4) ∧ (h8 49 5) = (h 49 5) ∧ (h8 64 0) = (h 64 0) ∧ (h8 76 0) = (h 76 0) ∧ h8 36 8 = 58), 60 - x7 < (n3 : Int) → ov_R u d ov_m135 30 [(0, ov_r 36), (1, ov_i c), (2, ov_i s), (3, ov_i (h 60 c)), (4, ov_i (h 62 c)), (5, ov_i x5), (6, ov_i x6), (7, ov_i x7)] [] z7 h8 (P_Goers_valueOverRound_36_k36_8_58 F z h c s) := by
    intro n3
    induction n3 with
    | zero =>
      intro x5 x6 x7 z7 h8 I9 q5 hn10
      exact absurd hn10 (by omega)
    | succ n3 ih4 =>
      intro x5 x6 x7 z7 h8 I9 q5 hn10
      have e11 : h8 36 8 = 58 := by omega
      refine ov_blk (ls2 := [(0, ov_r 36), (1, ov_i c), (2, ov_i s), (3, ov_i (h 60 c)), (4, ov_i (h 62 c)), (5, ov_i x5), (6, ov_i x6), (7, ov_i x7)]) (st2 := [ov_i (h 60 c), ov_i x7]) (pc2 := 33) b_135_30_2 rfl rfl ?_
      refine ov_icge (tgt := 113) d_135_33 (by decide) (by omega) (by omega) (fun c12 => ?_) (fun c12 => ?_)
      · skip
        refine ov_blk (ls2 := [(0, ov_r 36), (1, ov_i c), (2, ov_i s), (3, ov_i (h 60 c)), (4, ov_i (h 62 c)), (5, ov_i x5), (6, ov_i x6), (7, ov_i x7)]) (st2 := [ov_r 36]) (pc2 := 114) b_135_113_1 rfl rfl ?_
        refine ov_getf (v := ov_i (h8 36 11)) d_135_114 fl_Goers_43 (zb_36 I9) (zs_36 I9) rfl ?_
        have g13 := rg_36_11 I9
        refine ov_ifne (tgt := 125) d_135_117 (by decide) (by omega) (fun c14 => ?_) (fun c14 => ?_)
        · skip
          refine ov_blk (ls2 := [(0, ov_r 36), (1, ov_i c), (2, ov_i s), (3, ov_i (h 60 c)), (4, ov_i (h 62 c)), (5, ov_i x5), (6, ov_i x6), (7, ov_i x7)]) (st2 := [ov_i x6]) (pc2 := 127) b_135_125_1 rfl rfl ?_
          refine ov_goto (tgt := 134) d_135_127 (by decide) ?_
          exact ov_reti (st := []) d_135_134 rfl ⟨_, rfl, I9, (by show -2147483648 ≤ x6 ∧ x6 ≤ 2147483647 ∧ (h8 36 7) = (h 36 7) ∧ (h8 1 1) = (h 1 1) ∧ (h8 90 2) = (h 90 2) ∧ (h8 0 10) = (h 0 10) ∧ (h8 0 11) = (h 0 11) ∧ (h8 0 12) = (h 0 12) ∧ (h8 0 13) = (h 0 13) ∧ (h8 3 1) = (h 3 1) ∧ (h8 36 8) = (h 36 8) ∧ (h8 46 3) = (h 46 3) ∧ (h8 46 4) = (h 46 4) ∧ (h8 49 4) = (h 49 4) ∧ (h8 49 5) = (h 49 5) ∧ (h8 64 0) = (h 64 0) ∧ (h8 76 0) = (h 76 0); omega)⟩
        · skip
          refine ov_blk (ls2 := [(0, ov_r 36), (1, ov_i c), (2, ov_i s), (3, ov_i (h 60 c)), (4, ov_i (h 62 c)), (5, ov_i x5), (6, ov_i x6), (7, ov_i x7)]) (st2 := [ov_i 1, ov_i (h 60 c)]) (pc2 := 122) b_135_120_2 rfl rfl ?_
          refine ov_icge (tgt := 130) d_135_122 (by decide) (by omega) (by omega) (fun c15 => ?_) (fun c15 => ?_)
          · skip
            refine ov_blk (ls2 := [(0, ov_r 36), (1, ov_i c), (2, ov_i s), (3, ov_i (h 60 c)), (4, ov_i (h 62 c)), (5, ov_i x5), (6, ov_i x6), (7, ov_i x7)]) (st2 := [ov_i (h 60 c), ov_i x5]) (pc2 := 133) b_135_130_2 rfl rfl ?_
            refine ov_idiv d_135_133 (by omega) (by omega) (by omega) ?_
            refine ov_hav (fun w16 gw16 => ?_)
            exact ov_reti (st := []) d_135_134 rfl ⟨_, rfl, I9, (by show -2147483648 ≤ w16 ∧ w16 ≤ 2147483647 ∧ (h8 36 7) = (h 36 7) ∧ (h8 1 1) = (h 1 1) ∧ (h8 90 2) = (h 90 2) ∧ (h8 0 10) = (h 0 10) ∧ (h8 0 11) = (h 0 11) ∧ (h8 0 12) = (h 0 12) ∧ (h8 0 13) = (h 0 13) ∧ (h8 3 1) = (h 3 1) ∧ (h8 36 8) = (h 36 8) ∧ (h8 46 3) = (h 46 3) ∧ (h8 46 4) = (h 46 4) ∧ (h8 49 4) = (h 49 4) ∧ (h8 49 5) = (h 49 5) ∧ (h8 64 0) = (h 64 0) ∧ (h8 76 0) = (h 76 0); omega)⟩
          · skip
            refine ov_blk (ls2 := [(0, ov_r 36), (1, ov_i c), (2, ov_i s), (3, ov_i (h 60 c)), (4, ov_i (h 62 c)), (5, ov_i x5), (6, ov_i x6), (7, ov_i x7)]) (st2 := [ov_i x6]) (pc2 := 127) b_135_125_1 rfl rfl ?_
            refine ov_goto (tgt := 134) d_135_127 (by decide) ?_
            exact ov_reti (st := []) d_135_134 rfl ⟨_, rfl, I9, (by show -2147483648 ≤ x6 ∧ x6 ≤ 2147483647 ∧ (h8 36 7) = (h 36 7) ∧ (h8 1 1) = (h 1 1) ∧ (h8 90 2) = (h 90 2) ∧ (h8 0 10) = (h 0 10) ∧ (h8 0 11) = (h 0 11) ∧ (h8 0 12) = (h 0 12) ∧ (h8 0 13) = (h 0 13) ∧ (h8 3 1) = (h 3 1) ∧ (h8 36 8) = (h 36 8) ∧ (h8 46 3) = (h 46 3) ∧ (h8 46 4) = (h 46 4) ∧ (h8 49 4) = (h 49 4) ∧ (h8 49 5) = (h 49 5) ∧ (h8 64 0) = (h 64 0) ∧ (h8 76 0) = (h 76 0); omega)⟩
      · skip
        refine ov_blk (ls2 := [(0, ov_r 36), (1, ov_i c), (2, ov_i s), (3, ov_i (h 60 c)), (4, ov_i (h 62 c)), (5, ov_i x5), (6, ov_i x6), (7, ov_i x7)]) (st2 := [ov_i (h 62 c), ov_i x7]) (pc2 := 40) b_135_36_2 rfl rfl ?_
        refine ov_icge (tgt := 47) d_135_40 (by decide) (by omega) (by omega) (fun c17 => ?_) (fun c17 => ?_)
        · skip
          refine ov_blk (ls2 := [(0, ov_r 36), (1, ov_i c), (2, ov_i s), (3, ov_i (h 60 c)), (4, ov_i (h 62 c)), (5, ov_i x5), (6, ov_i x6), (7, ov_i x7)]) (st2 := [ov_i ((h 60 c) - x7)]) (pc2 := 51) b_135_47_3 rfl rfl ?_
          refine ov_hav (fun w18 gw18 => ?_)
          refine ov_blk (ls2 := [(0, ov_r 36), (1, ov_i c), (2, ov_i s), (3, ov_i (h 60 c)), (4, ov_i (h 62 c)), (5, ov_i x5), (6, ov_i x6), (7, ov_i x7), (8, ov_i w18)]) (st2 := [ov_i (h 62 c), ov_i x7]) (pc2 := 57) b_135_51_3 rfl rfl ?_
          refine ov_icge (tgt := 68) d_135_57 (by decide) (by omega) (by omega) (fun c19 => ?_) (fun c19 => ?_)
          · skip
            refine ov_blk (ls2 := [(0, ov_r 36), (1, ov_i c), (2, ov_i s), (3, ov_i (h 60 c)), (4, ov_i (h 62 c)), (5, ov_i x5), (6, ov_i x6), (7, ov_i x7), (8, ov_i w18), (9, ov_i 0)]) (st2 := [ov_i 0, ov_i w18, ov_i s, ov_i c, ov_r 36]) (pc2 := 78) b_135_68_7 rfl rfl ?_
            refine ov_cV (as := [ov_i c, ov_i s, ov_i w18, ov_i 0]) (st := []) (d2 := d - 1) d_135_78 lk_Goers_118 rfl (Nat.le_of_ble_eq_true rfl) (c := 2) (zb_36 I9) (zs_36 I9) ⟨by decide, rfl⟩ (by omega) (c_Goers_valueSeen_36_k36_8_58 k HV (d - 1) (by omega) U I9 (ov_kws hw (by decide +kernel)) c s w18 0 e11 (by omega) (by omega) (by omega) (by omega) (by omega) (by omega)) ?_
            rintro _ z22 h23 ⟨v21, rfl, I24, f20⟩
            show ov_R u d ov_m135 81 [(0, ov_r 36), (1, ov_i c), (2, ov_i s), (3, ov_i (h 60 c)), (4, ov_i (h 62 c)), (5, ov_i x5), (6, ov_i x6), (7, ov_i x7), (8, ov_i w18), (9, ov_i 0)] [ov_i v21] z22 h23 (P_Goers_valueOverRound_36_k36_8_58 F z h c s)
            have f25 : -2147483648 ≤ v21 ∧ v21 ≤ 2147483647 ∧ (h23 36 7) = (h8 36 7) ∧ (h23 1 1) = (h8 1 1) ∧ (h23 90 2) = (h8 90 2) ∧ (h23 0 10) = (h8 0 10) ∧ (h23 0 11) = (h8 0 11) ∧ (h23 0 12) = (h8 0 12) ∧ (h23 0 13) = (h8 0 13) ∧ (h23 3 1) = (h8 3 1) ∧ (h23 36 8) = (h8 36 8) ∧ (h23 46 3) = (h8 46 3) ∧ (h23 46 4) = (h8 46 4) ∧ (h23 49 4) = (h8 49 4) ∧ (h23 49 5) = (h8 49 5) ∧ (h23 64 0) = (h8 64 0) ∧ (h23 76 0) = (h8 76 0) := f20
            clear f20
            have e26 : h23 36 8 = 58 := by omega
            refine ov_blk (ls2 := [(0, ov_r 36), (1, ov_i c), (2, ov_i s), (3, ov_i (h 60 c)), (4, ov_i (h 62 c)), (5, ov_i x5), (6, ov_i x6), (7, ov_i x7), (8, ov_i w18), (9, ov_i 0), (10, ov_i v21)]) (st2 := [ov_i (-1), ov_i v21]) (pc2 := 86) b_135_81_3 rfl rfl ?_
            refine ov_icne (tgt := 91) d_135_86 (by decide) (by omega) (by omega) (fun c27 => ?_) (fun c27 => ?_)
            · skip
              refine ov_blk (ls2 := [(0, ov_r 36), (1, ov_i c), (2, ov_i s), (3, ov_i (h 60 c)), (4, ov_i (h 62 c)), (5, ov_i x5), (6, ov_i x6), (7, ov_i x7), (8, ov_i w18), (9, ov_i 0), (10, ov_i v21)]) (st2 := [ov_i (x5 + v21)]) (pc2 := 96) b_135_91_3 rfl rfl ?_
              refine ov_hav (fun w28 gw28 => ?_)
              refine ov_blk (ls2 := [(0, ov_r 36), (1, ov_i c), (2, ov_i s), (3, ov_i (h 60 c)), (4, ov_i (h 62 c)), (5, ov_i w28), (6, ov_i x6), (7, ov_i x7), (8, ov_i w18), (9, ov_i 0), (10, ov_i v21)]) (st2 := [ov_i v21, ov_i x6]) (pc2 := 102) b_135_96_3 rfl rfl ?_
              refine ov_cS (as := [ov_i x6, ov_i v21]) (st := []) (d2 := d - 1) d_135_102 lk_Goers_129 rfl (Nat.le_of_ble_eq_true rfl) (by omega) (c_Math_max (d - 1) (by omega) U I24 x6 v21 (by omega) (by omega)) ?_
              rintro _ _ _ ⟨v30, rfl, rfl, rfl, f29⟩
              show ov_R u d ov_m135 105 [(0, ov_r 36), (1, ov_i c), (2, ov_i s), (3, ov_i (h 60 c)), (4, ov_i (h 62 c)), (5, ov_i w28), (6, ov_i x6), (7, ov_i x7), (8, ov_i w18), (9, ov_i 0), (10, ov_i v21)] [ov_i v30] z22 h23 (P_Goers_valueOverRound_36_k36_8_58 F z h c s)
              have f31 : x6 ≤ v30 ∧ v21 ≤ v30 ∧ (v30 = x6 ∨ v30 = v21) := f29
              clear f29
              refine ov_blk (ls2 := [(0, ov_r 36), (1, ov_i c), (2, ov_i s), (3, ov_i (h 60 c)), (4, ov_i (h 62 c)), (5, ov_i w28), (6, ov_i v30), (7, ov_i (x7 + 1)), (8, ov_i w18), (9, ov_i 0), (10, ov_i v21)]) (st2 := []) (pc2 := 110) b_135_105_2 rfl rfl ?_
              refine ov_goto (tgt := 30) d_135_110 (by decide) ?_
              refine ov_sub (ls2 := [(0, ov_r 36), (1, ov_i c), (2, ov_i s), (3, ov_i (h 60 c)), (4, ov_i (h 62 c)), (5, ov_i w28), (6, ov_i v30), (7, ov_i (x7 + 1))]) (List.Sublist.subset (by repeat (first | exact List.Sublist.refl _ | apply List.Sublist.cons_cons | apply List.Sublist.cons))) ?_
              exact ih4 w28 v30 (x7 + 1) _ _ I24 (by show ov_g w28 ∧ ov_g v30 ∧ 0 ≤ (x7 + 1) ∧ (x7 + 1) ≤ 60 ∧ (h23 36 7) = (h 36 7) ∧ (h23 1 1) = (h 1 1) ∧ (h23 90 2) = (h 90 2) ∧ (h23 0 10) = (h 0 10) ∧ (h23 0 11) = (h 0 11) ∧ (h23 0 12) = (h 0 12) ∧ (h23 0 13) = (h 0 13) ∧ (h23 3 1) = (h 3 1) ∧ (h23 36 8) = (h 36 8) ∧ (h23 46 3) = (h 46 3) ∧ (h23 46 4) = (h 46 4) ∧ (h23 49 4) = (h 49 4) ∧ (h23 49 5) = (h 49 5) ∧ (h23 64 0) = (h 64 0) ∧ (h23 76 0) = (h 76 0) ∧ (h23 36 8) = 58; omega) (by omega)
            · skip
              refine ov_blk (ls2 := [(0, ov_r 36), (1, ov_i c), (2, ov_i s), (3, ov_i (h 60 c)), (4, ov_i (h 62 c)), (5, ov_i x5), (6, ov_i x6), (7, ov_i x7), (8, ov_i w18), (9, ov_i 0), (10, ov_i v21)]) (st2 := [ov_i (-1)]) (pc2 := 90) b_135_89_1 rfl rfl ?_
              exact ov_reti (st := []) d_135_90 rfl ⟨_, rfl, I24, (by show -2147483648 ≤ (-1) ∧ (-1) ≤ 2147483647 ∧ (h23 36 7) = (h 36 7) ∧ (h23 1 1) = (h 1 1) ∧ (h23 90 2) = (h 90 2) ∧ (h23 0 10) = (h 0 10) ∧ (h23 0 11) = (h 0 11) ∧ (h23 0 12) = (h 0 12) ∧ (h23 0 13) = (h 0 13) ∧ (h23 3 1) = (h 3 1) ∧ (h23 36 8) = (h 36 8) ∧ (h23 46 3) = (h 46 3) ∧ (h23 46 4) = (h 46 4) ∧ (h23 49 4) = (h 49 4) ∧ (h23 49 5) = (h 49 5) ∧ (h23 64 0) = (h 64 0) ∧ (h23 76 0) = (h 76 0); omega)⟩
          · skip
            refine ov_blk (ls2 := [(0, ov_r 36), (1, ov_i c), (2, ov_i s), (3, ov_i (h 60 c)), (4, ov_i (h 62 c)), (5, ov_i x5), (6, ov_i x6), (7, ov_i x7), (8, ov_i w18)]) (st2 := [ov_i ((h 62 c) - x7)]) (pc2 := 65) b_135_60_3 rfl rfl ?_
            refine ov_hav (fun w32 gw32 => ?_)
            refine ov_goto (tgt := 69) d_135_65 (by decide) ?_
            refine ov_blk (ls2 := [(0, ov_r 36), (1, ov_i c), (2, ov_i s), (3, ov_i (h 60 c)), (4, ov_i (h 62 c)), (5, ov_i x5), (6, ov_i x6), (7, ov_i x7), (8, ov_i w18), (9, ov_i w32)]) (st2 := [ov_i w32, ov_i w18, ov_i s, ov_i c, ov_r 36]) (pc2 := 78) b_135_69_6 rfl rfl ?_
            refine ov_cV (as := [ov_i c, ov_i s, ov_i w18, ov_i w32]) (st := []) (d2 := d - 1) d_135_78 lk_Goers_118 rfl (Nat.le_of_ble_eq_true rfl) (c := 2) (zb_36 I9) (zs_36 I9) ⟨by decide, rfl⟩ (by omega) (c_Goers_valueSeen_36_k36_8_58 k HV (d - 1) (by omega) U I9 (ov_kws hw (by decide +kernel)) c s w18 w32 e11 (by omega) (by omega) (by omega) (by omega) (by omega) (by omega)) ?_
            rintro _ z35 h36 ⟨v34, rfl, I37, f33⟩
            show ov_R u d ov_m135 81 [(0, ov_r 36), (1, ov_i c), (2, ov_i s), (3, ov_i (h 60 c)), (4, ov_i (h 62 c)), (5, ov_i x5), (6, ov_i x6), (7, ov_i x7), (8, ov_i w18), (9, ov_i w32)] [ov_i v34] z35 h36 (P_Goers_valueOverRound_36_k36_8_58 F z h c s)
            have f38 : -2147483648 ≤ v34 ∧ v34 ≤ 2147483647 ∧ (h36 36 7) = (h8 36 7) ∧ (h36 1 1) = (h8 1 1) ∧ (h36 90 2) = (h8 90 2) ∧ (h36 0 10) = (h8 0 10) ∧ (h36 0 11) = (h8 0 11) ∧ (h36 0 12) = (h8 0 12) ∧ (h36 0 13) = (h8 0 13) ∧ (h36 3 1) = (h8 3 1) ∧ (h36 36 8) = (h8 36 8) ∧ (h36 46 3) = (h8 46 3) ∧ (h36 46 4) = (h8 46 4) ∧ (h36 49 4) = (h8 49 4) ∧ (h36 49 5) = (h8 49 5) ∧ (h36 64 0) = (h8 64 0) ∧ (h36 76 0) = (h8 76 0) := f33
            clear f33
            have e39 : h36 36 8 = 58 := by omega
            refine ov_blk (ls2 := [(0, ov_r 36), (1, ov_i c), (2, ov_i s), (3, ov_i (h 60 c)), (4, ov_i (h 62 c)), (5, ov_i x5), (6, ov_i x6), (7, ov_i x7), (8, ov_i w18), (9, ov_i w32), (10, ov_i v34)]) (st2 := [ov_i (-1), ov_i v34]) (pc2 := 86) b_135_81_3 rfl rfl ?_
            refine ov_icne (tgt := 91) d_135_86 (by decide) (by omega) (by omega) (fun c40 => ?_) (fun c40 => ?_)
            · skip
              refine ov_blk (ls2 := [(0, ov_r 36), (1, ov_i c), (2, ov_i s), (3, ov_i (h 60 c)), (4, ov_i (h 62 c)), (5, ov_i x5), (6, ov_i x6), (7, ov_i x7), (8, ov_i w18), (9, ov_i w32), (10, ov_i v34)]) (st2 := [ov_i (x5 + v34)]) (pc2 := 96) b_135_91_3 rfl rfl ?_
              refine ov_hav (fun w41 gw41 => ?_)
              refine ov_blk (ls2 := [(0, ov_r 36), (1, ov_i c), (2, ov_i s), (3, ov_i (h 60 c)), (4, ov_i (h 62 c)), (5, ov_i w41), (6, ov_i x6), (7, ov_i x7), (8, ov_i w18), (9, ov_i w32), (10, ov_i v34)]) (st2 := [ov_i v34, ov_i x6]) (pc2 := 102) b_135_96_3 rfl rfl ?_
              refine ov_cS (as := [ov_i x6, ov_i v34]) (st := []) (d2 := d - 1) d_135_102 lk_Goers_129 rfl (Nat.le_of_ble_eq_true rfl) (by omega) (c_Math_max (d - 1) (by omega) U I37 x6 v34 (by omega) (by omega)) ?_
              rintro _ _ _ ⟨v43, rfl, rfl, rfl, f42⟩
              show ov_R u d ov_m135 105 [(0, ov_r 36), (1, ov_i c), (2, ov_i s), (3, ov_i (h 60 c)), (4, ov_i (h 62 c)), (5, ov_i w41), (6, ov_i x6), (7, ov_i x7), (8, ov_i w18), (9, ov_i w32), (10, ov_i v34)] [ov_i v43] z35 h36 (P_Goers_valueOverRound_36_k36_8_58 F z h c s)
              have f44 : x6 ≤ v43 ∧ v34 ≤ v43 ∧ (v43 = x6 ∨ v43 = v34) := f42
              clear f42
              refine ov_blk (ls2 := [(0, ov_r 36), (1, ov_i c), (2, ov_i s), (3, ov_i (h 60 c)), (4, ov_i (h 62 c)), (5, ov_i w41), (6, ov_i v43), (7, ov_i (x7 + 1)), (8, ov_i w18), (9, ov_i w32), (10, ov_i v34)]) (st2 := []) (pc2 := 110) b_135_105_2 rfl rfl ?_
              refine ov_goto (tgt := 30) d_135_110 (by decide) ?_
              refine ov_sub (ls2 := [(0, ov_r 36), (1, ov_i c), (2, ov_i s), (3, ov_i (h 60 c)), (4, ov_i (h 62 c)), (5, ov_i w41), (6, ov_i v43), (7, ov_i (x7 + 1))]) (List.Sublist.subset (by repeat (first | exact List.Sublist.refl _ | apply List.Sublist.cons_cons | apply List.Sublist.cons))) ?_
              exact ih4 w41 v43 (x7 + 1) _ _ I37 (by show ov_g w41 ∧ ov_g v43 ∧ 0 ≤ (x7 + 1) ∧ (x7 + 1) ≤ 60 ∧ (h36 36 7) = (h 36 7) ∧ (h36 1 1) = (h 1 1) ∧ (h36 90 2) = (h 90 2) ∧ (h36 0 10) = (h 0 10) ∧ (h36 0 11) = (h 0 11) ∧ (h36 0 12) = (h 0 12) ∧ (h36 0 13) = (h 0 13) ∧ (h36 3 1) = (h 3 1) ∧ (h36 36 8) = (h 36 8) ∧ (h36 46 3) = (h 46 3) ∧ (h36 46 4) = (h 46 4) ∧ (h36 49 4) = (h 49 4) ∧ (h36 49 5) = (h 49 5) ∧ (h36 64 0) = (h 64 0) ∧ (h36 76 0) = (h 76 0) ∧ (h36 36 8) = 58; omega) (by omega)
            · skip
              refine ov_blk (ls2 := [(0, ov_r 36), (1, ov_i c), (2, ov_i s), (3, ov_i (h 60 c)), (4, ov_i (h 62 c)), (5, ov_i x5), (6, ov_i x6), (7, ov_i x7), (8, ov_i w18), (9, ov_i w32), (10, ov_i v34)]) (st2 := [ov_i (-1)]) (pc2 := 90) b_135_89_1 rfl rfl ?_
              exact ov_reti (st := []) d_135_90 rfl ⟨_, rfl, I37, (by show -2147483648 ≤ (-1) ∧ (-1) ≤ 2147483647 ∧ (h36 36 7) = (h 36 7) ∧ (h36 1 1) = (h 1 1) ∧ (h36 90 2) = (h 90 2) ∧ (h36 0 10) = (h 0 10) ∧ (h36 0 11) = (h 0 11) ∧ (h36 0 12) = (h 0 12) ∧ (h36 0 13) = (h 0 13) ∧ (h36 3 1) = (h 3 1) ∧ (h36 36 8) = (h 36 8) ∧ (h36 46 3) = (h 46 3) ∧ (h36 46 4) = (h 46 4) ∧ (h36 49 4) = (h 49 4) ∧ (h36 49 5) = (h 49 5) ∧ (h36 64 0) = (h 64 0) ∧ (h36 76 0) = (h 76 0); omega)⟩
        · skip
          refine ov_blk (ls2 := [(0, ov_r 36), (1, ov_i c), (2, ov_i s), (3, ov_i (h 60 c)), (4, ov_i (h 62 c)), (5, ov_i x5), (6, ov_i x6), (7, ov_i x7)]) (st2 := [ov_i 0]) (pc2 := 44) b_135_43_1 rfl rfl ?_
          refine ov_goto (tgt := 51) d_135_44 (by decide) ?_
          refine ov_blk (ls2 := [(0, ov_r 36), (1, ov_i c), (2, ov_i s), (3, ov_i (h 60 c)), (4, ov_i (h 62 c)), (5, ov_i x5), (6, ov_i x6), (7, ov_i x7), (8, ov_i 0)]) (st2 := [ov_i (h 62 c), ov_i x7]) (pc2 := 57) b_135_51_3 rfl rfl ?_
          refine ov_icge (tgt := 68) d_135_57 (by decide) (by omega) (by omega) (fun c45 => ?_) (fun c45 => ?_)
          · skip
            refine ov_blk (ls2 := [(0, ov_r 36), (1, ov_i c), (2, ov_i s), (3, ov_i (h 60 c)), (4, ov_i (h 62 c)), (5, ov_i x5), (6, ov_i x6), (7, ov_i x7), (8, ov_i 0), (9, ov_i 0)]) (st2 := [ov_i 0, ov_i 0, ov_i s, ov_i c, ov_r 36]) (pc2 := 78) b_135_68_7 rfl rfl ?_
            refine ov_cV (as := [ov_i c, ov_i s, ov_i 0, ov_i 0]) (st := []) (d2 := d - 1) d_135_78 lk_Goers_118 rfl (Nat.le_of_ble_eq_true rfl) (c := 2) (zb_36 I9) (zs_36 I9) ⟨by decide, rfl⟩ (by omega) (c_Goers_valueSeen_36_k36_8_58 k HV (d - 1) (by omega) U I9 (ov_kws hw (by decide +kernel)) c s 0 0 e11 (by omega) (by omega) (by omega) (by omega) (by omega) (by omega)) ?_
            rintro _ z48 h49 ⟨v47, rfl, I50, f46⟩
            show ov_R u d ov_m135 81 [(0, ov_r 36), (1, ov_i c), (2, ov_i s), (3, ov_i (h 60 c)), (4, ov_i (h 62 c)), (5, ov_i x5), (6, ov_i x6), (7, ov_i x7), (8, ov_i 0), (9, ov_i 0)] [ov_i v47] z48 h49 (P_Goers_valueOverRound_36_k36_8_58 F z h c s)
            have f51 : -2147483648 ≤ v47 ∧ v47 ≤ 2147483647 ∧ (h49 36 7) = (h8 36 7) ∧ (h49 1 1) = (h8 1 1) ∧ (h49 90 2) = (h8 90 2) ∧ (h49 0 10) = (h8 0 10) ∧ (h49 0 11) = (h8 0 11) ∧ (h49 0 12) = (h8 0 12) ∧ (h49 0 13) = (h8 0 13) ∧ (h49 3 1) = (h8 3 1) ∧ (h49 36 8) = (h8 36 8) ∧ (h49 46 3) = (h8 46 3) ∧ (h49 46 4) = (h8 46 4) ∧ (h49 49 4) = (h8 49 4) ∧ (h49 49 5) = (h8 49 5) ∧ (h49 64 0) = (h8 64 0) ∧ (h49 76 0) = (h8 76 0) := f46
            clear f46
            have e52 : h49 36 8 = 58 := by omega
            refine ov_blk (ls2 := [(0, ov_r 36), (1, ov_i c), (2, ov_i s), (3, ov_i (h 60 c)), (4, ov_i (h 62 c)), (5, ov_i x5), (6, ov_i x6), (7, ov_i x7), (8, ov_i 0), (9, ov_i 0), (10, ov_i v47)]) (st2 := [ov_i (-1), ov_i v47]) (pc2 := 86) b_135_81_3 rfl rfl ?_
            refine ov_icne (tgt := 91) d_135_86 (by decide) (by omega) (by omega) (fun c53 => ?_) (fun c53 => ?_)
            · skip
              refine ov_blk (ls2 := [(0, ov_r 36), (1, ov_i c), (2, ov_i s), (3, ov_i (h 60 c)), (4, ov_i (h 62 c)), (5, ov_i x5), (6, ov_i x6), (7, ov_i x7), (8, ov_i 0), (9, ov_i 0), (10, ov_i v47)]) (st2 := [ov_i (x5 + v47)]) (pc2 := 96) b_135_91_3 rfl rfl ?_
              refine ov_hav (fun w54 gw54 => ?_)
              refine ov_blk (ls2 := [(0, ov_r 36), (1, ov_i c), (2, ov_i s), (3, ov_i (h 60 c)), (4, ov_i (h 62 c)), (5, ov_i w54), (6, ov_i x6), (7, ov_i x7), (8, ov_i 0), (9, ov_i 0), (10, ov_i v47)]) (st2 := [ov_i v47, ov_i x6]) (pc2 := 102) b_135_96_3 rfl rfl ?_
              refine ov_cS (as := [ov_i x6, ov_i v47]) (st := []) (d2 := d - 1) d_135_102 lk_Goers_129 rfl (Nat.le_of_ble_eq_true rfl) (by omega) (c_Math_max (d - 1) (by omega) U I50 x6 v47 (by omega) (by omega)) ?_
              rintro _ _ _ ⟨v56, rfl, rfl, rfl, f55⟩
              show ov_R u d ov_m135 105 [(0, ov_r 36), (1, ov_i c), (2, ov_i s), (3, ov_i (h 60 c)), (4, ov_i (h 62 c)), (5, ov_i w54), (6, ov_i x6), (7, ov_i x7), (8, ov_i 0), (9, ov_i 0), (10, ov_i v47)] [ov_i v56] z48 h49 (P_Goers_valueOverRound_36_k36_8_58 F z h c s)
              have f57 : x6 ≤ v56 ∧ v47 ≤ v56 ∧ (v56 = x6 ∨ v56 = v47) := f55
              clear f55
              refine ov_blk (ls2 := [(0, ov_r 36), (1, ov_i c), (2, ov_i s), (3, ov_i (h 60 c)), (4, ov_i (h 62 c)), (5, ov_i w54), (6, ov_i v56), (7, ov_i (x7 + 1)), (8, ov_i 0), (9, ov_i 0), (10, ov_i v47)]) (st2 := []) (pc2 := 110) b_135_105_2 rfl rfl ?_
              refine ov_goto (tgt := 30) d_135_110 (by decide) ?_
              refine ov_sub (ls2 := [(0, ov_r 36), (1, ov_i c), (2, ov_i s), (3, ov_i (h 60 c)), (4, ov_i (h 62 c)), (5, ov_i w54), (6, ov_i v56), (7, ov_i (x7 + 1))]) (List.Sublist.subset (by repeat (first | exact List.Sublist.refl _ | apply List.Sublist.cons_cons | apply List.Sublist.cons))) ?_
              exact ih4 w54 v56 (x7 + 1) _ _ I50 (by show ov_g w54 ∧ ov_g v56 ∧ 0 ≤ (x7 + 1) ∧ (x7 + 1) ≤ 60 ∧ (h49 36 7) = (h 36 7) ∧ (h49 1 1) = (h 1 1) ∧ (h49 90 2) = (h 90 2) ∧ (h49 0 10) = (h 0 10) ∧ (h49 0 11) = (h 0 11) ∧ (h49 0 12) = (h 0 12) ∧ (h49 0 13) = (h 0 13) ∧ (h49 3 1) = (h 3 1) ∧ (h49 36 8) = (h 36 8) ∧ (h49 46 3) = (h 46 3) ∧ (h49 46 4) = (h 46 4) ∧ (h49 49 4) = (h 49 4) ∧ (h49 49 5) = (h 49 5) ∧ (h49 64 0) = (h 64 0) ∧ (h49 76 0) = (h 76 0) ∧ (h49 36 8) = 58; omega) (by omega)
            · skip
              refine ov_blk (ls2 := [(0, ov_r 36), (1, ov_i c), (2, ov_i s), (3, ov_i (h 60 c)), (4, ov_i (h 62 c)), (5, ov_i x5), (6, ov_i x6), (7, ov_i x7), (8, ov_i 0), (9, ov_i 0), (10, ov_i v47)]) (st2 := [ov_i (-1)]) (pc2 := 90) b_135_89_1 rfl rfl ?_
              exact ov_reti (st := []) d_135_90 rfl ⟨_, rfl, I50, (by show -2147483648 ≤ (-1) ∧ (-1) ≤ 2147483647 ∧ (h49 36 7) = (h 36 7) ∧ (h49 1 1) = (h 1 1) ∧ (h49 90 2) = (h 90 2) ∧ (h49 0 10) = (h 0 10) ∧ (h49 0 11) = (h 0 11) ∧ (h49 0 12) = (h 0 12) ∧ (h49 0 13) = (h 0 13) ∧ (h49 3 1) = (h 3 1) ∧ (h49 36 8) = (h 36 8) ∧ (h49 46 3) = (h 46 3) ∧ (h49 46 4) = (h 46 4) ∧ (h49 49 4) = (h 49 4) ∧ (h49 49 5) = (h 49 5) ∧ (h49 64 0) = (h 64 0) ∧ (h49 76 0) = (h 76 0); omega)⟩
          · skip
            refine ov_blk (ls2 := [(0, ov_r 36), (1, ov_i c), (2, ov_i s), (3, ov_i (h 60 c)), (4, ov_i (h 62 c)), (5, ov_i x5), (6, ov_i x6), (7, ov_i x7), (8, ov_i 0)]) (st2 := [ov_i ((h 62 c) - x7)]) (pc2 := 65) b_135_60_3 rfl rfl ?_
            refine ov_hav (fun w58 gw58 => ?_)
            refine ov_goto (tgt := 69) d_135_65 (by decide) ?_
            refine ov_blk (ls2 := [(0, ov_r 36), (1, ov_i c), (2, ov_i s), (3, ov_i (h 60 c)), (4, ov_i (h 62 c)), (5, ov_i x5), (6, ov_i x6), (7, ov_i x7), (8, ov_i 0), (9, ov_i w58)]) (st2 := [ov_i w58, ov_i 0, ov_i s, ov_i c, ov_r 36]) (pc2 := 78) b_135_69_6 rfl rfl ?_
            refine ov_cV (as := [ov_i c, ov_i s, ov_i 0, ov_i w58]) (st := []) (d2 := d - 1) d_135_78 lk_Goers_118 rfl (Nat.le_of_ble_eq_true rfl) (c := 2) (zb_36 I9) (zs_36 I9) ⟨by decide, rfl⟩ (by omega) (c_Goers_valueSeen_36_k36_8_58 k HV (d - 1) (by omega) U I9 (ov_kws hw (by decide +kernel)) c s 0 w58 e11 (by omega) (by omega) (by omega) (by omega) (by omega) (by omega)) ?_
            rintro _ z61 h62 ⟨v60, rfl, I63, f59⟩
            show ov_R u d ov_m135 81 [(0, ov_r 36), (1, ov_i c), (2, ov_i s), (3, ov_i (h 60 c)), (4, ov_i (h 62 c)), (5, ov_i x5), (6, ov_i x6), (7, ov_i x7), (8, ov_i 0), (9, ov_i w58)] [ov_i v60] z61 h62 (P_Goers_valueOverRound_36_k36_8_58 F z h c s)
            have f64 : -2147483648 ≤ v60 ∧ v60 ≤ 2147483647 ∧ (h62 36 7) = (h8 36 7) ∧ (h62 1 1) = (h8 1 1) ∧ (h62 90 2) = (h8 90 2) ∧ (h62 0 10) = (h8 0 10) ∧ (h62 0 11) = (h8 0 11) ∧ (h62 0 12) = (h8 0 12) ∧ (h62 0 13) = (h8 0 13) ∧ (h62 3 1) = (h8 3 1) ∧ (h62 36 8) = (h8 36 8) ∧ (h62 46 3) = (h8 46 3) ∧ (h62 46 4) = (h8 46 4) ∧ (h62 49 4) = (h8 49 4) ∧ (h62 49 5) = (h8 49 5) ∧ (h62 64 0) = (h8 64 0) ∧ (h62 76 0) = (h8 76 0) := f59
            clear f59
            have e65 : h62 36 8 = 58 := by omega
            refine ov_blk (ls2 := [(0, ov_r 36), (1, ov_i c), (2, ov_i s), (3, ov_i (h 60 c)), (4, ov_i (h 62 c)), (5, ov_i x5), (6, ov_i x6), (7, ov_i x7), (8, ov_i 0), (9, ov_i w58), (10, ov_i v60)]) (st2 := [ov_i (-1), ov_i v60]) (pc2 := 86) b_135_81_3 rfl rfl ?_
            refine ov_icne (tgt := 91) d_135_86 (by decide) (by omega) (by omega) (fun c66 => ?_) (fun c66 => ?_)
            · skip
              refine ov_blk (ls2 := [(0, ov_r 36), (1, ov_i c), (2, ov_i s), (3, ov_i (h 60 c)), (4, ov_i (h 62 c)), (5, ov_i x5), (6, ov_i x6), (7, ov_i x7), (8, ov_i 0), (9, ov_i w58), (10, ov_i v60)]) (st2 := [ov_i (x5 + v60)]) (pc2 := 96) b_135_91_3 rfl rfl ?_
              refine ov_hav (fun w67 gw67 => ?_)
              refine ov_blk (ls2 := [(0, ov_r 36), (1, ov_i c), (2, ov_i s), (3, ov_i (h 60 c)), (4, ov_i (h 62 c)), (5, ov_i w67), (6, ov_i x6), (7, ov_i x7), (8, ov_i 0), (9, ov_i w58), (10, ov_i v60)]) (st2 := [ov_i v60, ov_i x6]) (pc2 := 102) b_135_96_3 rfl rfl ?_
              refine ov_cS (as := [ov_i x6, ov_i v60]) (st := []) (d2 := d - 1) d_135_102 lk_Goers_129 rfl (Nat.le_of_ble_eq_true rfl) (by omega) (c_Math_max (d - 1) (by omega) U I63 x6 v60 (by omega) (by omega)) ?_
              rintro _ _ _ ⟨v69, rfl, rfl, rfl, f68⟩
              show ov_R u d ov_m135 105 [(0, ov_r 36), (1, ov_i c), (2, ov_i s), (3, ov_i (h 60 c)), (4, ov_i (h 62 c)), (5, ov_i w67), (6, ov_i x6), (7, ov_i x7), (8, ov_i 0), (9, ov_i w58), (10, ov_i v60)] [ov_i v69] z61 h62 (P_Goers_valueOverRound_36_k36_8_58 F z h c s)
              have f70 : x6 ≤ v69 ∧ v60 ≤ v69 ∧ (v69 = x6 ∨ v69 = v60) := f68
              clear f68
              refine ov_blk (ls2 := [(0, ov_r 36), (1, ov_i c), (2, ov_i s), (3, ov_i (h 60 c)), (4, ov_i (h 62 c)), (5, ov_i w67), (6, ov_i v69), (7, ov_i (x7 + 1)), (8, ov_i 0), (9, ov_i w58), (10, ov_i v60)]) (st2 := []) (pc2 := 110) b_135_105_2 rfl rfl ?_
              refine ov_goto (tgt := 30) d_135_110 (by decide) ?_
              refine ov_sub (ls2 := [(0, ov_r 36), (1, ov_i c), (2, ov_i s), (3, ov_i (h 60 c)), (4, ov_i (h 62 c)), (5, ov_i w67), (6, ov_i v69), (7, ov_i (x7 + 1))]) (List.Sublist.subset (by repeat (first | exact List.Sublist.refl _ | apply List.Sublist.cons_cons | apply List.Sublist.cons))) ?_
              exact ih4 w67 v69 (x7 + 1) _ _ I63 (by show ov_g w67 ∧ ov_g v69 ∧ 0 ≤ (x7 + 1) ∧ (x7 + 1) ≤ 60 ∧ (h62 36 7) = (h 36 7) ∧ (h62 1 1) = (h 1 1) ∧ (h62 90 2) = (h 90 2) ∧ (h62 0 10) = (h 0 10) ∧ (h62 0 11) = (h 0 11) ∧ (h62 0 12) = (h 0 12) ∧ (h62 0 13) = (h 0 13) ∧ (h62 3 1) = (h 3 1) ∧ (h62 36 8) = (h 36 8) ∧ (h62 46 3) = (h 46 3) ∧ (h62 46 4) = (h 46 4) ∧ (h62 49 4) = (h 49 4) ∧ (h62 49 5) = (h 49 5) ∧ (h62 64 0) = (h 64 0) ∧ (h62 76 0) = (h 76 0) ∧ (h62 36 8) = 58; omega) (by omega)
            · skip
              refine ov_blk (ls2 := [(0, ov_r 36), (1, ov_i c), (2, ov_i s), (3, ov_i (h 60 c)), (4, ov_i (h 62 c)), (5, ov_i x5), (6, ov_i x6), (7, ov_i x7), (8, ov_i 0), (9, ov_i w58), (10, ov_i v60)]) (st2 := [ov_i (-1)]) (pc2 := 90) b_135_89_1 rfl rfl ?_
              exact ov_reti (st := []) d_135_90 rfl ⟨_, rfl, I63, (by show -2147483648 ≤ (-1) ∧ (-1) ≤ 2147483647 ∧ (h62 36 7) = (h 36 7) ∧ (h62 1 1) = (h 1 1) ∧ (h62 90 2) = (h 90 2) ∧ (h62 0 10) = (h 0 10) ∧ (h62 0 11) = (h 0 11) ∧ (h62 0 12) = (h 0 12) ∧ (h62 0 13) = (h 0 13) ∧ (h62 3 1) = (h 3 1) ∧ (h62 36 8) = (h 36 8) ∧ (h62 46 3) = (h 46 3) ∧ (h62 46 4) = (h 46 4) ∧ (h62 49 4) = (h 49 4) ∧ (h62 49 5) = (h 49 5) ∧ (h62 64 0) = (h 64 0) ∧ (h62 76 0) = (h 76 0); omega)⟩
  exact L6 61 0 0 0 _ _ I (by show ov_g 0 ∧ ov_g 0 ∧ 0 ≤ 0 ∧ 0 ≤ 60 ∧ (h 36 7) = (h 36 7) ∧ (h 1 1) = (h 1 1) ∧ (h 90 2) = (h 90 2) ∧ (h 0 10) = (h 0 10) ∧ (h 0 11) = (h 0 11) ∧ (h 0 12) = (h 0 12) ∧ (h 0 13) = (h 0 13) ∧ (h 3 1) = (h 3 1) ∧ (h 36 8) = (h 36 8) ∧ (h 46 3) = (h 46 3) ∧ (h 46 4) = (h 46 4) ∧ (h 49 4) = (h 49 4) ∧ (h 49 5) = (h 49 5) ∧ (h 64 0) = (h 64 0) ∧ (h 76 0) = (h 76 0) ∧ (h 36 8) = 58; omega) (by omega)
set_option maxHeartbeats 4000000 in
theorem c_Goers_valueAt_36_k36_8_58 {u : ov_U} {F : ov_H} (k : Nat) (HV : ∀ k' : Nat, k' < k → ∀ {z : ov_Z} {h : ov_H} (d : Nat) (hd : (10 + 5 * k' + 3) ≤ d) (U : ov_cap u) (I : ov_I F z h) (hw : ov_kw 590295810358705651712 F) (c : Int) (s : Int) (k0 : h 36 8 = 58) (g_c : ov_g c) (g_s : ov_g s) (p0 : 0 ≤ c ∧ c + (k' : Int) = 53) (p1 : F (-5) 58 = 1), ov_T u d ov_m127 [ov_r 36, ov_i c, ov_i s] z h (P_Goers_valueAt_36_k36_8_58 F z h c s)) {z : ov_Z} {h : ov_H} (d : Nat) (hd : (10 + 5 * k + 3) ≤ d) (U : ov_cap u) (I : ov_I F z h) (hw : ov_kw 590295810358705651712 F) (c : Int) (s : Int) (k0 : h 36 8 = 58) (g_c : ov_g c) (g_s : ov_g s) (p0 : 0 ≤ c ∧ c + (k : Int) = 53) (p1 : F (-5) 58 = 1) : ov_T u d ov_m127 [ov_r 36, ov_i c, ov_i s] z h (P_Goers_valueAt_36_k36_8_58 F z h c s) := by
  refine ov_en rfl (Nat.le_of_ble_eq_true rfl) ?_
  show ov_R u d ov_m127 0 [(0, ov_r 36), (1, ov_i c), (2, ov_i s)] [] z h (P_Goers_valueAt_36_k36_8_58 F z h c s)
  refine ov_blk (ls2 := [(0, ov_r 36), (1, ov_i c), (2, ov_i s)]) (st2 := [ov_r 36, ov_i c]) (pc2 := 2) b_127_0_2 rfl rfl ?_
  refine ov_getf (v := ov_i (h 36 13)) d_127_2 fl_Goers_59 (zb_36 I) (zs_36 I) rfl ?_
  have g1 := rg_36_13 I
  refine ov_icne (tgt := 10) d_127_5 (by decide) (by omega) (by omega) (fun c2 => ?_) (fun c2 => ?_)
  · skip
    refine ov_blk (ls2 := [(0, ov_r 36), (1, ov_i c), (2, ov_i s)]) (st2 := [ov_r 36]) (pc2 := 11) b_127_10_1 rfl rfl ?_
    refine ov_getf (v := ov_r 45) d_127_11 fl_Goers_28 (zb_36 I) (zs_36 I) (congrArg ov_r (rg_36_6 I)) ?_
    refine ov_blk (ls2 := [(0, ov_r 36), (1, ov_i c), (2, ov_i s)]) (st2 := [ov_i c, ov_r 45]) (pc2 := 15) b_127_14_1 rfl rfl ?_
    refine ov_iald d_127_15 (zb_45 I) (zs_45 I) (by omega) ?_
    have g3 := ra_45 I c
    refine ov_blk (ls2 := [(0, ov_r 36), (1, ov_i c), (2, ov_i s), (3, ov_i (h 45 c))]) (st2 := [ov_i (h 45 c)]) (pc2 := 18) b_127_16_2 rfl rfl ?_
    refine ov_ifle (tgt := 27) d_127_18 (by decide) (by omega) (fun c4 => ?_) (fun c4 => ?_)
    · skip
      refine ov_blk (ls2 := [(0, ov_r 36), (1, ov_i c), (2, ov_i s), (3, ov_i (h 45 c)), (4, ov_i 0)]) (st2 := [ov_r 36, ov_i c]) (pc2 := 32) b_127_27_4 rfl rfl ?_
      refine ov_getf (v := ov_r 58) d_127_32 fl_Goers_46 (zb_36 I) (zs_36 I) (congrArg ov_r k0) ?_
      refine ov_getf (v := ov_i (h 58 10)) d_127_35 fl_Goers_67 (zb_58 I) (zs_58 I) rfl ?_
      have g5 := rg_58_10 I
      refine ov_blk (ls2 := [(0, ov_r 36), (1, ov_i c), (2, ov_i s), (3, ov_i (h 45 c)), (4, ov_i 0)]) (st2 := [ov_i (c * (h 58 10))]) (pc2 := 39) b_127_38_1 rfl rfl ?_
      refine ov_hav (fun w6 gw6 => ?_)
      refine ov_blk (ls2 := [(0, ov_r 36), (1, ov_i c), (2, ov_i s), (3, ov_i (h 45 c)), (4, ov_i 0)]) (st2 := [ov_i (w6 + 0)]) (pc2 := 42) b_127_39_2 rfl rfl ?_
      refine ov_hav (fun w7 gw7 => ?_)
      refine ov_blk (ls2 := [(0, ov_r 36), (1, ov_i c), (2, ov_i s), (3, ov_i (h 45 c)), (4, ov_i 0), (5, ov_i w7)]) (st2 := [ov_r 36]) (pc2 := 45) b_127_42_2 rfl rfl ?_
      refine ov_getf (v := ov_r 37) d_127_45 fl_Goers_12 (zb_36 I) (zs_36 I) (congrArg ov_r (rg_36_2 I)) ?_
      refine ov_blk (ls2 := [(0, ov_r 36), (1, ov_i c), (2, ov_i s), (3, ov_i (h 45 c)), (4, ov_i 0), (5, ov_i w7)]) (st2 := [ov_i w7, ov_i c, ov_r 37]) (pc2 := 51) b_127_48_2 rfl rfl ?_
      refine ov_cV (as := [ov_i c, ov_i w7]) (st := []) (d2 := d - 1) d_127_51 lk_Goers_101 rfl (Nat.le_of_ble_eq_true rfl) (c := 4) (zb_37 I) (zs_37 I) ⟨by decide, rfl⟩ (by omega) (c_Memo_holds_37 (d - 1) (by omega) U I c w7 (by omega) (by omega) (by omega)) ?_
      rintro _ _ _ ⟨v9, rfl, rfl, rfl, f8⟩
      show ov_R u d ov_m127 54 [(0, ov_r 36), (1, ov_i c), (2, ov_i s), (3, ov_i (h 45 c)), (4, ov_i 0), (5, ov_i w7)] [ov_i v9] z h (P_Goers_valueAt_36_k36_8_58 F z h c s)
      have f10 : (v9 = 0 ∨ v9 = 1) ∧ (v9 = 1 → 0 ≤ w7 ∧ w7 < (((z.2.2 (h 37 0)).2 : Nat) : Int)) := f8
      clear f8
      refine ov_ifeq (tgt := 67) d_127_54 (by decide) (by omega) (fun c11 => ?_) (fun c11 => ?_)
      · skip
        refine ov_blk (ls2 := [(0, ov_r 36), (1, ov_i c), (2, ov_i s), (3, ov_i (h 45 c)), (4, ov_i 0), (5, ov_i w7)]) (st2 := [ov_i c, ov_r 36]) (pc2 := 69) b_127_67_2 rfl rfl ?_
        refine ov_cV (as := [ov_i c]) (st := []) (d2 := d - 1) d_127_69 lk_Goers_81 rfl (Nat.le_of_ble_eq_true rfl) (c := 2) (zb_36 I) (zs_36 I) ⟨by decide, rfl⟩ (by omega) (c_Goers_hides_36_k36_8_58 (d - 1) (by omega) U I c k0 (by omega) (by omega)) ?_
        rintro _ _ _ ⟨v13, rfl, rfl, rfl, f12⟩
        show ov_R u d ov_m127 72 [(0, ov_r 36), (1, ov_i c), (2, ov_i s), (3, ov_i (h 45 c)), (4, ov_i 0), (5, ov_i w7)] [ov_i v13] z h (P_Goers_valueAt_36_k36_8_58 F z h c s)
        have f14 : (v13 = 0 ∨ v13 = 1) := f12
        clear f12
        refine ov_ifeq (tgt := 105) d_127_72 (by decide) (by omega) (fun c15 => ?_) (fun c15 => ?_)
        · skip
          refine ov_blk (ls2 := [(0, ov_r 36), (1, ov_i c), (2, ov_i s), (3, ov_i (h 45 c)), (4, ov_i 0), (5, ov_i w7)]) (st2 := [ov_r 36, ov_i 0]) (pc2 := 108) b_127_105_2 rfl rfl ?_
          refine ov_getf (v := ov_r 43) d_127_108 fl_Goers_21 (zb_36 I) (zs_36 I) (congrArg ov_r (rg_36_4 I)) ?_
          refine ov_blk (ls2 := [(0, ov_r 36), (1, ov_i c), (2, ov_i s), (3, ov_i (h 45 c)), (4, ov_i 0), (5, ov_i w7)]) (st2 := [ov_i c, ov_r 43, ov_i 0]) (pc2 := 112) b_127_111_1 rfl rfl ?_
          refine ov_iald d_127_112 (zb_43 I) (zs_43 I) (by omega) ?_
          have g16 := ra_43 I c
          refine ov_blk (ls2 := [(0, ov_r 36), (1, ov_i c), (2, ov_i s), (3, ov_i (h 45 c)), (4, ov_i 0), (5, ov_i w7)]) (st2 := [ov_i (0 + (h 43 c))]) (pc2 := 114) b_127_113_1 rfl rfl ?_
          refine ov_hav (fun w17 gw17 => ?_)
          refine ov_blk (ls2 := [(0, ov_r 36), (1, ov_i c), (2, ov_i s), (3, ov_i (h 45 c)), (4, ov_i 0), (5, ov_i w7), (7, ov_i w17)]) (st2 := [ov_r 36, ov_i 0, ov_i c, ov_r 36]) (pc2 := 121) b_127_114_5 rfl rfl ?_
          refine ov_getf (v := ov_r 58) d_127_121 fl_Goers_46 (zb_36 I) (zs_36 I) (congrArg ov_r k0) ?_
          refine ov_blk (ls2 := [(0, ov_r 36), (1, ov_i c), (2, ov_i s), (3, ov_i (h 45 c)), (4, ov_i 0), (5, ov_i w7), (7, ov_i w17)]) (st2 := [ov_i w17, ov_i 0, ov_i c, ov_r 58, ov_i 0, ov_i c, ov_r 36]) (pc2 := 128) b_127_124_3 rfl rfl ?_
          refine ov_cV (as := [ov_i c, ov_i 0, ov_i w17]) (st := [ov_i 0, ov_i c, ov_r 36]) (d2 := d - 1) d_127_128 lk_Goers_114 rfl (Nat.le_of_ble_eq_true rfl) (c := 9) (zb_58 I) (zs_58 I) ⟨by decide, rfl⟩ (by omega) (c_Town_waitFor_58 (d - 1) (by omega) U I c 0 w17 (by omega) (by omega) (by omega) (by omega)) ?_
          rintro _ _ _ ⟨v19, rfl, rfl, rfl, f18⟩
          show ov_R u d ov_m127 131 [(0, ov_r 36), (1, ov_i c), (2, ov_i s), (3, ov_i (h 45 c)), (4, ov_i 0), (5, ov_i w7), (7, ov_i w17)] [ov_i v19, ov_i 0, ov_i c, ov_r 36] z h (P_Goers_valueAt_36_k36_8_58 F z h c s)
          have f20 : 0 ≤ v19 ∧ v19 ≤ 60 := f18
          clear f18
          refine ov_blk (ls2 := [(0, ov_r 36), (1, ov_i c), (2, ov_i s), (3, ov_i (h 45 c)), (4, ov_i 0), (5, ov_i w7), (7, ov_i w17)]) (st2 := [ov_r 36, ov_i v19, ov_i 0, ov_i c, ov_r 36]) (pc2 := 132) b_127_131_1 rfl rfl ?_
          refine ov_getf (v := ov_r 58) d_127_132 fl_Goers_46 (zb_36 I) (zs_36 I) (congrArg ov_r k0) ?_
          refine ov_blk (ls2 := [(0, ov_r 36), (1, ov_i c), (2, ov_i s), (3, ov_i (h 45 c)), (4, ov_i 0), (5, ov_i w7), (7, ov_i w17)]) (st2 := [ov_i w17, ov_i 1, ov_i c, ov_r 58, ov_i v19, ov_i 0, ov_i c, ov_r 36]) (pc2 := 139) b_127_135_3 rfl rfl ?_
          refine ov_cV (as := [ov_i c, ov_i 1, ov_i w17]) (st := [ov_i v19, ov_i 0, ov_i c, ov_r 36]) (d2 := d - 1) d_127_139 lk_Goers_114 rfl (Nat.le_of_ble_eq_true rfl) (c := 9) (zb_58 I) (zs_58 I) ⟨by decide, rfl⟩ (by omega) (c_Town_waitFor_58 (d - 1) (by omega) U I c 1 w17 (by omega) (by omega) (by omega) (by omega)) ?_
          rintro _ _ _ ⟨v22, rfl, rfl, rfl, f21⟩
          show ov_R u d ov_m127 142 [(0, ov_r 36), (1, ov_i c), (2, ov_i s), (3, ov_i (h 45 c)), (4, ov_i 0), (5, ov_i w7), (7, ov_i w17)] [ov_i v22, ov_i v19, ov_i 0, ov_i c, ov_r 36] z h (P_Goers_valueAt_36_k36_8_58 F z h c s)
          have f23 : 0 ≤ v22 ∧ v22 ≤ 60 := f21
          clear f21
          refine ov_cV (as := [ov_i c, ov_i 0, ov_i v19, ov_i v22]) (st := []) (d2 := d - 1) d_127_142 lk_Goers_118 rfl (Nat.le_of_ble_eq_true rfl) (c := 2) (zb_36 I) (zs_36 I) ⟨by decide, rfl⟩ (by omega) (c_Goers_valueSeen_36_k36_8_58 k HV (d - 1) (by omega) U I (ov_kws hw (by decide +kernel)) c 0 v19 v22 k0 (by omega) (by omega) (by omega) (by omega) (by omega) (by omega)) ?_
          rintro _ z26 h27 ⟨v25, rfl, I28, f24⟩
          show ov_R u d ov_m127 145 [(0, ov_r 36), (1, ov_i c), (2, ov_i s), (3, ov_i (h 45 c)), (4, ov_i 0), (5, ov_i w7), (7, ov_i w17)] [ov_i v25] z26 h27 (P_Goers_valueAt_36_k36_8_58 F z h c s)
          have f29 : -2147483648 ≤ v25 ∧ v25 ≤ 2147483647 ∧ (h27 36 7) = (h 36 7) ∧ (h27 1 1) = (h 1 1) ∧ (h27 90 2) = (h 90 2) ∧ (h27 0 10) = (h 0 10) ∧ (h27 0 11) = (h 0 11) ∧ (h27 0 12) = (h 0 12) ∧ (h27 0 13) = (h 0 13) ∧ (h27 3 1) = (h 3 1) ∧ (h27 36 8) = (h 36 8) ∧ (h27 46 3) = (h 46 3) ∧ (h27 46 4) = (h 46 4) ∧ (h27 49 4) = (h 49 4) ∧ (h27 49 5) = (h 49 5) ∧ (h27 64 0) = (h 64 0) ∧ (h27 76 0) = (h 76 0) := f24
          clear f24
          have e30 : h27 36 8 = 58 := by omega
          refine ov_blk (ls2 := [(0, ov_r 36), (1, ov_i c), (2, ov_i s), (3, ov_i (h 45 c)), (4, ov_i 0), (5, ov_i w7), (6, ov_i v25), (7, ov_i w17)]) (st2 := [ov_r 36]) (pc2 := 148) b_127_145_2 rfl rfl ?_
          refine ov_getf (v := ov_r 37) d_127_148 fl_Goers_12 (zb_36 I28) (zs_36 I28) (congrArg ov_r (rg_36_2 I28)) ?_
          refine ov_blk (ls2 := [(0, ov_r 36), (1, ov_i c), (2, ov_i s), (3, ov_i (h 45 c)), (4, ov_i 0), (5, ov_i w7), (6, ov_i v25), (7, ov_i w17)]) (st2 := [ov_i v25, ov_i w7, ov_i c, ov_r 37]) (pc2 := 156) b_127_151_3 rfl rfl ?_
          refine ov_cV (as := [ov_i c, ov_i w7, ov_i v25]) (st := []) (d2 := d - 1) d_127_156 lk_Goers_122 rfl (Nat.le_of_ble_eq_true rfl) (c := 4) (zb_37 I28) (zs_37 I28) ⟨by decide, rfl⟩ (by omega) (c_Memo_put_37 (d - 1) (by omega) U I28 c w7 v25 (by omega) (by omega) (by omega) (by omega)) ?_
          rintro _ z32 h33 ⟨rfl, I34, f31⟩
          show ov_R u d ov_m127 159 [(0, ov_r 36), (1, ov_i c), (2, ov_i s), (3, ov_i (h 45 c)), (4, ov_i 0), (5, ov_i w7), (6, ov_i v25), (7, ov_i w17)] [] z32 h33 (P_Goers_valueAt_36_k36_8_58 F z h c s)
          have f35 : (h33 36 7) = (h27 36 7) ∧ (h33 1 1) = (h27 1 1) ∧ (h33 90 2) = (h27 90 2) ∧ (h33 0 10) = (h27 0 10) ∧ (h33 0 11) = (h27 0 11) ∧ (h33 0 12) = (h27 0 12) ∧ (h33 0 13) = (h27 0 13) ∧ (h33 3 1) = (h27 3 1) ∧ (h33 36 8) = (h27 36 8) ∧ (h33 46 3) = (h27 46 3) ∧ (h33 46 4) = (h27 46 4) ∧ (h33 49 4) = (h27 49 4) ∧ (h33 49 5) = (h27 49 5) ∧ (h33 64 0) = (h27 64 0) ∧ (h33 76 0) = (h27 76 0) := f31
          clear f31
          have e36 : h33 36 8 = 58 := by omega
          refine ov_blk (ls2 := [(0, ov_r 36), (1, ov_i c), (2, ov_i s), (3, ov_i (h 45 c)), (4, ov_i 0), (5, ov_i w7), (6, ov_i v25), (7, ov_i w17)]) (st2 := [ov_i v25]) (pc2 := 161) b_127_159_1 rfl rfl ?_
          exact ov_reti (st := []) d_127_161 rfl ⟨_, rfl, I34, (by show -2147483648 ≤ v25 ∧ v25 ≤ 2147483647 ∧ (h33 36 7) = (h 36 7) ∧ (h33 1 1) = (h 1 1) ∧ (h33 90 2) = (h 90 2) ∧ (h33 0 10) = (h 0 10) ∧ (h33 0 11) = (h 0 11) ∧ (h33 0 12) = (h 0 12) ∧ (h33 0 13) = (h 0 13) ∧ (h33 3 1) = (h 3 1) ∧ (h33 36 8) = (h 36 8) ∧ (h33 46 3) = (h 46 3) ∧ (h33 46 4) = (h 46 4) ∧ (h33 49 4) = (h 49 4) ∧ (h33 49 5) = (h 49 5) ∧ (h33 64 0) = (h 64 0) ∧ (h33 76 0) = (h 76 0); omega)⟩
        · skip
          refine ov_blk (ls2 := [(0, ov_r 36), (1, ov_i c), (2, ov_i s), (3, ov_i (h 45 c)), (4, ov_i 0), (5, ov_i w7)]) (st2 := [ov_r 36]) (pc2 := 76) b_127_75_1 rfl rfl ?_
          refine ov_getf (v := ov_i (h 36 10)) d_127_76 fl_Goers_39 (zb_36 I) (zs_36 I) rfl ?_
          have g37 := rg_36_10 I
          refine ov_blk (ls2 := [(0, ov_r 36), (1, ov_i c), (2, ov_i s), (3, ov_i (h 45 c)), (4, ov_i 0), (5, ov_i w7)]) (st2 := [ov_i 3, ov_i (h 36 10)]) (pc2 := 80) b_127_79_1 rfl rfl ?_
          refine ov_icne (tgt := 93) d_127_80 (by decide) (by omega) (by omega) (fun c38 => ?_) (fun c38 => ?_)
          · skip
            refine ov_blk (ls2 := [(0, ov_r 36), (1, ov_i c), (2, ov_i s), (3, ov_i (h 45 c)), (4, ov_i 0), (5, ov_i w7)]) (st2 := [ov_i 0, ov_i c, ov_r 36]) (pc2 := 97) b_127_93_3 rfl rfl ?_
            refine ov_cV (as := [ov_i c, ov_i 0]) (st := []) (d2 := d - 1) d_127_97 lk_Goers_111 rfl (Nat.le_of_ble_eq_true rfl) (c := 2) (zb_36 I) (zs_36 I) ⟨by decide, rfl⟩ (by omega) (c_Goers_valueOverRound_36_k36_8_58 k HV (d - 1) (by omega) U I (ov_kws hw (by decide +kernel)) c 0 k0 (by omega) (by omega) (by omega) (by omega)) ?_
            rintro _ z41 h42 ⟨v40, rfl, I43, f39⟩
            show ov_R u d ov_m127 100 [(0, ov_r 36), (1, ov_i c), (2, ov_i s), (3, ov_i (h 45 c)), (4, ov_i 0), (5, ov_i w7)] [ov_i v40] z41 h42 (P_Goers_valueAt_36_k36_8_58 F z h c s)
            have f44 : -2147483648 ≤ v40 ∧ v40 ≤ 2147483647 ∧ (h42 36 7) = (h 36 7) ∧ (h42 1 1) = (h 1 1) ∧ (h42 90 2) = (h 90 2) ∧ (h42 0 10) = (h 0 10) ∧ (h42 0 11) = (h 0 11) ∧ (h42 0 12) = (h 0 12) ∧ (h42 0 13) = (h 0 13) ∧ (h42 3 1) = (h 3 1) ∧ (h42 36 8) = (h 36 8) ∧ (h42 46 3) = (h 46 3) ∧ (h42 46 4) = (h 46 4) ∧ (h42 49 4) = (h 49 4) ∧ (h42 49 5) = (h 49 5) ∧ (h42 64 0) = (h 64 0) ∧ (h42 76 0) = (h 76 0) := f39
            clear f39
            have e45 : h42 36 8 = 58 := by omega
            refine ov_blk (ls2 := [(0, ov_r 36), (1, ov_i c), (2, ov_i s), (3, ov_i (h 45 c)), (4, ov_i 0), (5, ov_i w7), (6, ov_i v40)]) (st2 := []) (pc2 := 102) b_127_100_1 rfl rfl ?_
            refine ov_goto (tgt := 147) d_127_102 (by decide) ?_
            refine ov_blk (ls2 := [(0, ov_r 36), (1, ov_i c), (2, ov_i s), (3, ov_i (h 45 c)), (4, ov_i 0), (5, ov_i w7), (6, ov_i v40)]) (st2 := [ov_r 36]) (pc2 := 148) b_127_147_1 rfl rfl ?_
            refine ov_getf (v := ov_r 37) d_127_148 fl_Goers_12 (zb_36 I43) (zs_36 I43) (congrArg ov_r (rg_36_2 I43)) ?_
            refine ov_blk (ls2 := [(0, ov_r 36), (1, ov_i c), (2, ov_i s), (3, ov_i (h 45 c)), (4, ov_i 0), (5, ov_i w7), (6, ov_i v40)]) (st2 := [ov_i v40, ov_i w7, ov_i c, ov_r 37]) (pc2 := 156) b_127_151_3 rfl rfl ?_
            refine ov_cV (as := [ov_i c, ov_i w7, ov_i v40]) (st := []) (d2 := d - 1) d_127_156 lk_Goers_122 rfl (Nat.le_of_ble_eq_true rfl) (c := 4) (zb_37 I43) (zs_37 I43) ⟨by decide, rfl⟩ (by omega) (c_Memo_put_37 (d - 1) (by omega) U I43 c w7 v40 (by omega) (by omega) (by omega) (by omega)) ?_
            rintro _ z47 h48 ⟨rfl, I49, f46⟩
            show ov_R u d ov_m127 159 [(0, ov_r 36), (1, ov_i c), (2, ov_i s), (3, ov_i (h 45 c)), (4, ov_i 0), (5, ov_i w7), (6, ov_i v40)] [] z47 h48 (P_Goers_valueAt_36_k36_8_58 F z h c s)
            have f50 : (h48 36 7) = (h42 36 7) ∧ (h48 1 1) = (h42 1 1) ∧ (h48 90 2) = (h42 90 2) ∧ (h48 0 10) = (h42 0 10) ∧ (h48 0 11) = (h42 0 11) ∧ (h48 0 12) = (h42 0 12) ∧ (h48 0 13) = (h42 0 13) ∧ (h48 3 1) = (h42 3 1) ∧ (h48 36 8) = (h42 36 8) ∧ (h48 46 3) = (h42 46 3) ∧ (h48 46 4) = (h42 46 4) ∧ (h48 49 4) = (h42 49 4) ∧ (h48 49 5) = (h42 49 5) ∧ (h48 64 0) = (h42 64 0) ∧ (h48 76 0) = (h42 76 0) := f46
            clear f46
            have e51 : h48 36 8 = 58 := by omega
            refine ov_blk (ls2 := [(0, ov_r 36), (1, ov_i c), (2, ov_i s), (3, ov_i (h 45 c)), (4, ov_i 0), (5, ov_i w7), (6, ov_i v40)]) (st2 := [ov_i v40]) (pc2 := 161) b_127_159_1 rfl rfl ?_
            exact ov_reti (st := []) d_127_161 rfl ⟨_, rfl, I49, (by show -2147483648 ≤ v40 ∧ v40 ≤ 2147483647 ∧ (h48 36 7) = (h 36 7) ∧ (h48 1 1) = (h 1 1) ∧ (h48 90 2) = (h 90 2) ∧ (h48 0 10) = (h 0 10) ∧ (h48 0 11) = (h 0 11) ∧ (h48 0 12) = (h 0 12) ∧ (h48 0 13) = (h 0 13) ∧ (h48 3 1) = (h 3 1) ∧ (h48 36 8) = (h 36 8) ∧ (h48 46 3) = (h 46 3) ∧ (h48 46 4) = (h 46 4) ∧ (h48 49 4) = (h 49 4) ∧ (h48 49 5) = (h 49 5) ∧ (h48 64 0) = (h 64 0) ∧ (h48 76 0) = (h 76 0); omega)⟩
          · skip
            refine ov_blk (ls2 := [(0, ov_r 36), (1, ov_i c), (2, ov_i s), (3, ov_i (h 45 c)), (4, ov_i 0), (5, ov_i w7)]) (st2 := [ov_i 0, ov_i c, ov_r 36]) (pc2 := 87) b_127_83_3 rfl rfl ?_
            refine ov_cV (as := [ov_i c, ov_i 0]) (st := []) (d2 := d - 1) d_127_87 lk_Goers_108 rfl (Nat.le_of_ble_eq_true rfl) (c := 2) (zb_36 I) (zs_36 I) ⟨by decide, rfl⟩ (by omega) (c_Goers_bestOverRound_36_k36_8_58 k HV (d - 1) (by omega) U I (ov_kws hw (by decide +kernel)) c 0 k0 (by omega) (by omega) (by omega) (by omega)) ?_
            rintro _ z54 h55 ⟨v53, rfl, I56, f52⟩
            show ov_R u d ov_m127 90 [(0, ov_r 36), (1, ov_i c), (2, ov_i s), (3, ov_i (h 45 c)), (4, ov_i 0), (5, ov_i w7)] [ov_i v53] z54 h55 (P_Goers_valueAt_36_k36_8_58 F z h c s)
            have f57 : -2147483648 ≤ v53 ∧ v53 ≤ 2147483647 ∧ (h55 36 7) = (h 36 7) ∧ (h55 1 1) = (h 1 1) ∧ (h55 90 2) = (h 90 2) ∧ (h55 0 10) = (h 0 10) ∧ (h55 0 11) = (h 0 11) ∧ (h55 0 12) = (h 0 12) ∧ (h55 0 13) = (h 0 13) ∧ (h55 3 1) = (h 3 1) ∧ (h55 36 8) = (h 36 8) ∧ (h55 46 3) = (h 46 3) ∧ (h55 46 4) = (h 46 4) ∧ (h55 49 4) = (h 49 4) ∧ (h55 49 5) = (h 49 5) ∧ (h55 64 0) = (h 64 0) ∧ (h55 76 0) = (h 76 0) := f52
            clear f52
            have e58 : h55 36 8 = 58 := by omega
            refine ov_goto (tgt := 100) d_127_90 (by decide) ?_
            refine ov_blk (ls2 := [(0, ov_r 36), (1, ov_i c), (2, ov_i s), (3, ov_i (h 45 c)), (4, ov_i 0), (5, ov_i w7), (6, ov_i v53)]) (st2 := []) (pc2 := 102) b_127_100_1 rfl rfl ?_
            refine ov_goto (tgt := 147) d_127_102 (by decide) ?_
            refine ov_blk (ls2 := [(0, ov_r 36), (1, ov_i c), (2, ov_i s), (3, ov_i (h 45 c)), (4, ov_i 0), (5, ov_i w7), (6, ov_i v53)]) (st2 := [ov_r 36]) (pc2 := 148) b_127_147_1 rfl rfl ?_
            refine ov_getf (v := ov_r 37) d_127_148 fl_Goers_12 (zb_36 I56) (zs_36 I56) (congrArg ov_r (rg_36_2 I56)) ?_
            refine ov_blk (ls2 := [(0, ov_r 36), (1, ov_i c), (2, ov_i s), (3, ov_i (h 45 c)), (4, ov_i 0), (5, ov_i w7), (6, ov_i v53)]) (st2 := [ov_i v53, ov_i w7, ov_i c, ov_r 37]) (pc2 := 156) b_127_151_3 rfl rfl ?_
            refine ov_cV (as := [ov_i c, ov_i w7, ov_i v53]) (st := []) (d2 := d - 1) d_127_156 lk_Goers_122 rfl (Nat.le_of_ble_eq_true rfl) (c := 4) (zb_37 I56) (zs_37 I56) ⟨by decide, rfl⟩ (by omega) (c_Memo_put_37 (d - 1) (by omega) U I56 c w7 v53 (by omega) (by omega) (by omega) (by omega)) ?_
            rintro _ z60 h61 ⟨rfl, I62, f59⟩
            show ov_R u d ov_m127 159 [(0, ov_r 36), (1, ov_i c), (2, ov_i s), (3, ov_i (h 45 c)), (4, ov_i 0), (5, ov_i w7), (6, ov_i v53)] [] z60 h61 (P_Goers_valueAt_36_k36_8_58 F z h c s)
            have f63 : (h61 36 7) = (h55 36 7) ∧ (h61 1 1) = (h55 1 1) ∧ (h61 90 2) = (h55 90 2) ∧ (h61 0 10) = (h55 0 10) ∧ (h61 0 11) = (h55 0 11) ∧ (h61 0 12) = (h55 0 12) ∧ (h61 0 13) = (h55 0 13) ∧ (h61 3 1) = (h55 3 1) ∧ (h61 36 8) = (h55 36 8) ∧ (h61 46 3) = (h55 46 3) ∧ (h61 46 4) = (h55 46 4) ∧ (h61 49 4) = (h55 49 4) ∧ (h61 49 5) = (h55 49 5) ∧ (h61 64 0) = (h55 64 0) ∧ (h61 76 0) = (h55 76 0) := f59
            clear f59
            have e64 : h61 36 8 = 58 := by omega
            refine ov_blk (ls2 := [(0, ov_r 36), (1, ov_i c), (2, ov_i s), (3, ov_i (h 45 c)), (4, ov_i 0), (5, ov_i w7), (6, ov_i v53)]) (st2 := [ov_i v53]) (pc2 := 161) b_127_159_1 rfl rfl ?_
            exact ov_reti (st := []) d_127_161 rfl ⟨_, rfl, I62, (by show -2147483648 ≤ v53 ∧ v53 ≤ 2147483647 ∧ (h61 36 7) = (h 36 7) ∧ (h61 1 1) = (h 1 1) ∧ (h61 90 2) = (h 90 2) ∧ (h61 0 10) = (h 0 10) ∧ (h61 0 11) = (h 0 11) ∧ (h61 0 12) = (h 0 12) ∧ (h61 0 13) = (h 0 13) ∧ (h61 3 1) = (h 3 1) ∧ (h61 36 8) = (h 36 8) ∧ (h61 46 3) = (h 46 3) ∧ (h61 46 4) = (h 46 4) ∧ (h61 49 4) = (h 49 4) ∧ (h61 49 5) = (h 49 5) ∧ (h61 64 0) = (h 64 0) ∧ (h61 76 0) = (h 76 0); omega)⟩
      · skip
        refine ov_blk (ls2 := [(0, ov_r 36), (1, ov_i c), (2, ov_i s), (3, ov_i (h 45 c)), (4, ov_i 0), (5, ov_i w7)]) (st2 := [ov_r 36]) (pc2 := 58) b_127_57_1 rfl rfl ?_
        refine ov_getf (v := ov_r 37) d_127_58 fl_Goers_12 (zb_36 I) (zs_36 I) (congrArg ov_r (rg_36_2 I)) ?_
        refine ov_blk (ls2 := [(0, ov_r 36), (1, ov_i c), (2, ov_i s), (3, ov_i (h 45 c)), (4, ov_i 0), (5, ov_i w7)]) (st2 := [ov_i w7, ov_r 37]) (pc2 := 63) b_127_61_1 rfl rfl ?_
        refine ov_cV (as := [ov_i w7]) (st := []) (d2 := d - 1) d_127_63 lk_Goers_104 rfl (Nat.le_of_ble_eq_true rfl) (c := 4) (zb_37 I) (zs_37 I) ⟨by decide, rfl⟩ (by omega) (c_Memo_number_37 (d - 1) (by omega) U I w7 (by omega) (by omega)) ?_
        rintro _ _ _ ⟨v66, rfl, rfl, rfl, f65⟩
        show ov_R u d ov_m127 66 [(0, ov_r 36), (1, ov_i c), (2, ov_i s), (3, ov_i (h 45 c)), (4, ov_i 0), (5, ov_i w7)] [ov_i v66] z h (P_Goers_valueAt_36_k36_8_58 F z h c s)
        have f67 : -2147483648 ≤ v66 ∧ v66 ≤ 2147483647 := f65
        clear f65
        exact ov_reti (st := []) d_127_66 rfl ⟨_, rfl, I, (by show -2147483648 ≤ v66 ∧ v66 ≤ 2147483647 ∧ (h 36 7) = (h 36 7) ∧ (h 1 1) = (h 1 1) ∧ (h 90 2) = (h 90 2) ∧ (h 0 10) = (h 0 10) ∧ (h 0 11) = (h 0 11) ∧ (h 0 12) = (h 0 12) ∧ (h 0 13) = (h 0 13) ∧ (h 3 1) = (h 3 1) ∧ (h 36 8) = (h 36 8) ∧ (h 46 3) = (h 46 3) ∧ (h 46 4) = (h 46 4) ∧ (h 49 4) = (h 49 4) ∧ (h 49 5) = (h 49 5) ∧ (h 64 0) = (h 64 0) ∧ (h 76 0) = (h 76 0); omega)⟩
    · skip
      refine ov_blk (ls2 := [(0, ov_r 36), (1, ov_i c), (2, ov_i s), (3, ov_i (h 45 c))]) (st2 := [ov_i (h 45 c), ov_i s]) (pc2 := 23) b_127_21_2 rfl rfl ?_
      refine ov_irem d_127_23 (by omega) (by omega) (by omega) ?_
      have g68 := ov_tmg (a := s) (b := (h 45 c)) (by omega) (by omega)
      refine ov_goto (tgt := 28) d_127_24 (by decide) ?_
      refine ov_blk (ls2 := [(0, ov_r 36), (1, ov_i c), (2, ov_i s), (3, ov_i (h 45 c)), (4, ov_i (Int.tmod s (h 45 c)))]) (st2 := [ov_r 36, ov_i c]) (pc2 := 32) b_127_28_3 rfl rfl ?_
      refine ov_getf (v := ov_r 58) d_127_32 fl_Goers_46 (zb_36 I) (zs_36 I) (congrArg ov_r k0) ?_
      refine ov_getf (v := ov_i (h 58 10)) d_127_35 fl_Goers_67 (zb_58 I) (zs_58 I) rfl ?_
      have g69 := rg_58_10 I
      refine ov_blk (ls2 := [(0, ov_r 36), (1, ov_i c), (2, ov_i s), (3, ov_i (h 45 c)), (4, ov_i (Int.tmod s (h 45 c)))]) (st2 := [ov_i (c * (h 58 10))]) (pc2 := 39) b_127_38_1 rfl rfl ?_
      refine ov_hav (fun w70 gw70 => ?_)
      refine ov_blk (ls2 := [(0, ov_r 36), (1, ov_i c), (2, ov_i s), (3, ov_i (h 45 c)), (4, ov_i (Int.tmod s (h 45 c)))]) (st2 := [ov_i (w70 + (Int.tmod s (h 45 c)))]) (pc2 := 42) b_127_39_2 rfl rfl ?_
      refine ov_hav (fun w71 gw71 => ?_)
      refine ov_blk (ls2 := [(0, ov_r 36), (1, ov_i c), (2, ov_i s), (3, ov_i (h 45 c)), (4, ov_i (Int.tmod s (h 45 c))), (5, ov_i w71)]) (st2 := [ov_r 36]) (pc2 := 45) b_127_42_2 rfl rfl ?_
      refine ov_getf (v := ov_r 37) d_127_45 fl_Goers_12 (zb_36 I) (zs_36 I) (congrArg ov_r (rg_36_2 I)) ?_
      refine ov_blk (ls2 := [(0, ov_r 36), (1, ov_i c), (2, ov_i s), (3, ov_i (h 45 c)), (4, ov_i (Int.tmod s (h 45 c))), (5, ov_i w71)]) (st2 := [ov_i w71, ov_i c, ov_r 37]) (pc2 := 51) b_127_48_2 rfl rfl ?_
      refine ov_cV (as := [ov_i c, ov_i w71]) (st := []) (d2 := d - 1) d_127_51 lk_Goers_101 rfl (Nat.le_of_ble_eq_true rfl) (c := 4) (zb_37 I) (zs_37 I) ⟨by decide, rfl⟩ (by omega) (c_Memo_holds_37 (d - 1) (by omega) U I c w71 (by omega) (by omega) (by omega)) ?_
      rintro _ _ _ ⟨v73, rfl, rfl, rfl, f72⟩
      show ov_R u d ov_m127 54 [(0, ov_r 36), (1, ov_i c), (2, ov_i s), (3, ov_i (h 45 c)), (4, ov_i (Int.tmod s (h 45 c))), (5, ov_i w71)] [ov_i v73] z h (P_Goers_valueAt_36_k36_8_58 F z h c s)
      have f74 : (v73 = 0 ∨ v73 = 1) ∧ (v73 = 1 → 0 ≤ w71 ∧ w71 < (((z.2.2 (h 37 0)).2 : Nat) : Int)) := f72
      clear f72
      refine ov_ifeq (tgt := 67) d_127_54 (by decide) (by omega) (fun c75 => ?_) (fun c75 => ?_)
      · skip
        refine ov_blk (ls2 := [(0, ov_r 36), (1, ov_i c), (2, ov_i s), (3, ov_i (h 45 c)), (4, ov_i (Int.tmod s (h 45 c))), (5, ov_i w71)]) (st2 := [ov_i c, ov_r 36]) (pc2 := 69) b_127_67_2 rfl rfl ?_
        refine ov_cV (as := [ov_i c]) (st := []) (d2 := d - 1) d_127_69 lk_Goers_81 rfl (Nat.le_of_ble_eq_true rfl) (c := 2) (zb_36 I) (zs_36 I) ⟨by decide, rfl⟩ (by omega) (c_Goers_hides_36_k36_8_58 (d - 1) (by omega) U I c k0 (by omega) (by omega)) ?_
        rintro _ _ _ ⟨v77, rfl, rfl, rfl, f76⟩
        show ov_R u d ov_m127 72 [(0, ov_r 36), (1, ov_i c), (2, ov_i s), (3, ov_i (h 45 c)), (4, ov_i (Int.tmod s (h 45 c))), (5, ov_i w71)] [ov_i v77] z h (P_Goers_valueAt_36_k36_8_58 F z h c s)
        have f78 : (v77 = 0 ∨ v77 = 1) := f76
        clear f76
        refine ov_ifeq (tgt := 105) d_127_72 (by decide) (by omega) (fun c79 => ?_) (fun c79 => ?_)
        · skip
          refine ov_blk (ls2 := [(0, ov_r 36), (1, ov_i c), (2, ov_i s), (3, ov_i (h 45 c)), (4, ov_i (Int.tmod s (h 45 c))), (5, ov_i w71)]) (st2 := [ov_r 36, ov_i (Int.tmod s (h 45 c))]) (pc2 := 108) b_127_105_2 rfl rfl ?_
          refine ov_getf (v := ov_r 43) d_127_108 fl_Goers_21 (zb_36 I) (zs_36 I) (congrArg ov_r (rg_36_4 I)) ?_
          refine ov_blk (ls2 := [(0, ov_r 36), (1, ov_i c), (2, ov_i s), (3, ov_i (h 45 c)), (4, ov_i (Int.tmod s (h 45 c))), (5, ov_i w71)]) (st2 := [ov_i c, ov_r 43, ov_i (Int.tmod s (h 45 c))]) (pc2 := 112) b_127_111_1 rfl rfl ?_
          refine ov_iald d_127_112 (zb_43 I) (zs_43 I) (by omega) ?_
          have g80 := ra_43 I c
          refine ov_blk (ls2 := [(0, ov_r 36), (1, ov_i c), (2, ov_i s), (3, ov_i (h 45 c)), (4, ov_i (Int.tmod s (h 45 c))), (5, ov_i w71)]) (st2 := [ov_i ((Int.tmod s (h 45 c)) + (h 43 c))]) (pc2 := 114) b_127_113_1 rfl rfl ?_
          refine ov_hav (fun w81 gw81 => ?_)
          refine ov_blk (ls2 := [(0, ov_r 36), (1, ov_i c), (2, ov_i s), (3, ov_i (h 45 c)), (4, ov_i (Int.tmod s (h 45 c))), (5, ov_i w71), (7, ov_i w81)]) (st2 := [ov_r 36, ov_i (Int.tmod s (h 45 c)), ov_i c, ov_r 36]) (pc2 := 121) b_127_114_5 rfl rfl ?_
          refine ov_getf (v := ov_r 58) d_127_121 fl_Goers_46 (zb_36 I) (zs_36 I) (congrArg ov_r k0) ?_
          refine ov_blk (ls2 := [(0, ov_r 36), (1, ov_i c), (2, ov_i s), (3, ov_i (h 45 c)), (4, ov_i (Int.tmod s (h 45 c))), (5, ov_i w71), (7, ov_i w81)]) (st2 := [ov_i w81, ov_i 0, ov_i c, ov_r 58, ov_i (Int.tmod s (h 45 c)), ov_i c, ov_r 36]) (pc2 := 128) b_127_124_3 rfl rfl ?_
          refine ov_cV (as := [ov_i c, ov_i 0, ov_i w81]) (st := [ov_i (Int.tmod s (h 45 c)), ov_i c, ov_r 36]) (d2 := d - 1) d_127_128 lk_Goers_114 rfl (Nat.le_of_ble_eq_true rfl) (c := 9) (zb_58 I) (zs_58 I) ⟨by decide, rfl⟩ (by omega) (c_Town_waitFor_58 (d - 1) (by omega) U I c 0 w81 (by omega) (by omega) (by omega) (by omega)) ?_
          rintro _ _ _ ⟨v83, rfl, rfl, rfl, f82⟩
          show ov_R u d ov_m127 131 [(0, ov_r 36), (1, ov_i c), (2, ov_i s), (3, ov_i (h 45 c)), (4, ov_i (Int.tmod s (h 45 c))), (5, ov_i w71), (7, ov_i w81)] [ov_i v83, ov_i (Int.tmod s (h 45 c)), ov_i c, ov_r 36] z h (P_Goers_valueAt_36_k36_8_58 F z h c s)
          have f84 : 0 ≤ v83 ∧ v83 ≤ 60 := f82
          clear f82
          refine ov_blk (ls2 := [(0, ov_r 36), (1, ov_i c), (2, ov_i s), (3, ov_i (h 45 c)), (4, ov_i (Int.tmod s (h 45 c))), (5, ov_i w71), (7, ov_i w81)]) (st2 := [ov_r 36, ov_i v83, ov_i (Int.tmod s (h 45 c)), ov_i c, ov_r 36]) (pc2 := 132) b_127_131_1 rfl rfl ?_
          refine ov_getf (v := ov_r 58) d_127_132 fl_Goers_46 (zb_36 I) (zs_36 I) (congrArg ov_r k0) ?_
          refine ov_blk (ls2 := [(0, ov_r 36), (1, ov_i c), (2, ov_i s), (3, ov_i (h 45 c)), (4, ov_i (Int.tmod s (h 45 c))), (5, ov_i w71), (7, ov_i w81)]) (st2 := [ov_i w81, ov_i 1, ov_i c, ov_r 58, ov_i v83, ov_i (Int.tmod s (h 45 c)), ov_i c, ov_r 36]) (pc2 := 139) b_127_135_3 rfl rfl ?_
          refine ov_cV (as := [ov_i c, ov_i 1, ov_i w81]) (st := [ov_i v83, ov_i (Int.tmod s (h 45 c)), ov_i c, ov_r 36]) (d2 := d - 1) d_127_139 lk_Goers_114 rfl (Nat.le_of_ble_eq_true rfl) (c := 9) (zb_58 I) (zs_58 I) ⟨by decide, rfl⟩ (by omega) (c_Town_waitFor_58 (d - 1) (by omega) U I c 1 w81 (by omega) (by omega) (by omega) (by omega)) ?_
          rintro _ _ _ ⟨v86, rfl, rfl, rfl, f85⟩
          show ov_R u d ov_m127 142 [(0, ov_r 36), (1, ov_i c), (2, ov_i s), (3, ov_i (h 45 c)), (4, ov_i (Int.tmod s (h 45 c))), (5, ov_i w71), (7, ov_i w81)] [ov_i v86, ov_i v83, ov_i (Int.tmod s (h 45 c)), ov_i c, ov_r 36] z h (P_Goers_valueAt_36_k36_8_58 F z h c s)
          have f87 : 0 ≤ v86 ∧ v86 ≤ 60 := f85
          clear f85
          refine ov_cV (as := [ov_i c, ov_i (Int.tmod s (h 45 c)), ov_i v83, ov_i v86]) (st := []) (d2 := d - 1) d_127_142 lk_Goers_118 rfl (Nat.le_of_ble_eq_true rfl) (c := 2) (zb_36 I) (zs_36 I) ⟨by decide, rfl⟩ (by omega) (c_Goers_valueSeen_36_k36_8_58 k HV (d - 1) (by omega) U I (ov_kws hw (by decide +kernel)) c (Int.tmod s (h 45 c)) v83 v86 k0 (by omega) (by omega) (by omega) (by omega) (by omega) (by omega)) ?_
          rintro _ z90 h91 ⟨v89, rfl, I92, f88⟩
          show ov_R u d ov_m127 145 [(0, ov_r 36), (1, ov_i c), (2, ov_i s), (3, ov_i (h 45 c)), (4, ov_i (Int.tmod s (h 45 c))), (5, ov_i w71), (7, ov_i w81)] [ov_i v89] z90 h91 (P_Goers_valueAt_36_k36_8_58 F z h c s)
          have f93 : -2147483648 ≤ v89 ∧ v89 ≤ 2147483647 ∧ (h91 36 7) = (h 36 7) ∧ (h91 1 1) = (h 1 1) ∧ (h91 90 2) = (h 90 2) ∧ (h91 0 10) = (h 0 10) ∧ (h91 0 11) = (h 0 11) ∧ (h91 0 12) = (h 0 12) ∧ (h91 0 13) = (h 0 13) ∧ (h91 3 1) = (h 3 1) ∧ (h91 36 8) = (h 36 8) ∧ (h91 46 3) = (h 46 3) ∧ (h91 46 4) = (h 46 4) ∧ (h91 49 4) = (h 49 4) ∧ (h91 49 5) = (h 49 5) ∧ (h91 64 0) = (h 64 0) ∧ (h91 76 0) = (h 76 0) := f88
          clear f88
          have e94 : h91 36 8 = 58 := by omega
          refine ov_blk (ls2 := [(0, ov_r 36), (1, ov_i c), (2, ov_i s), (3, ov_i (h 45 c)), (4, ov_i (Int.tmod s (h 45 c))), (5, ov_i w71), (6, ov_i v89), (7, ov_i w81)]) (st2 := [ov_r 36]) (pc2 := 148) b_127_145_2 rfl rfl ?_
          refine ov_getf (v := ov_r 37) d_127_148 fl_Goers_12 (zb_36 I92) (zs_36 I92) (congrArg ov_r (rg_36_2 I92)) ?_
          refine ov_blk (ls2 := [(0, ov_r 36), (1, ov_i c), (2, ov_i s), (3, ov_i (h 45 c)), (4, ov_i (Int.tmod s (h 45 c))), (5, ov_i w71), (6, ov_i v89), (7, ov_i w81)]) (st2 := [ov_i v89, ov_i w71, ov_i c, ov_r 37]) (pc2 := 156) b_127_151_3 rfl rfl ?_
          refine ov_cV (as := [ov_i c, ov_i w71, ov_i v89]) (st := []) (d2 := d - 1) d_127_156 lk_Goers_122 rfl (Nat.le_of_ble_eq_true rfl) (c := 4) (zb_37 I92) (zs_37 I92) ⟨by decide, rfl⟩ (by omega) (c_Memo_put_37 (d - 1) (by omega) U I92 c w71 v89 (by omega) (by omega) (by omega) (by omega)) ?_
          rintro _ z96 h97 ⟨rfl, I98, f95⟩
          show ov_R u d ov_m127 159 [(0, ov_r 36), (1, ov_i c), (2, ov_i s), (3, ov_i (h 45 c)), (4, ov_i (Int.tmod s (h 45 c))), (5, ov_i w71), (6, ov_i v89), (7, ov_i w81)] [] z96 h97 (P_Goers_valueAt_36_k36_8_58 F z h c s)
          have f99 : (h97 36 7) = (h91 36 7) ∧ (h97 1 1) = (h91 1 1) ∧ (h97 90 2) = (h91 90 2) ∧ (h97 0 10) = (h91 0 10) ∧ (h97 0 11) = (h91 0 11) ∧ (h97 0 12) = (h91 0 12) ∧ (h97 0 13) = (h91 0 13) ∧ (h97 3 1) = (h91 3 1) ∧ (h97 36 8) = (h91 36 8) ∧ (h97 46 3) = (h91 46 3) ∧ (h97 46 4) = (h91 46 4) ∧ (h97 49 4) = (h91 49 4) ∧ (h97 49 5) = (h91 49 5) ∧ (h97 64 0) = (h91 64 0) ∧ (h97 76 0) = (h91 76 0) := f95
          clear f95
          have e100 : h97 36 8 = 58 := by omega
          refine ov_blk (ls2 := [(0, ov_r 36), (1, ov_i c), (2, ov_i s), (3, ov_i (h 45 c)), (4, ov_i (Int.tmod s (h 45 c))), (5, ov_i w71), (6, ov_i v89), (7, ov_i w81)]) (st2 := [ov_i v89]) (pc2 := 161) b_127_159_1 rfl rfl ?_
          exact ov_reti (st := []) d_127_161 rfl ⟨_, rfl, I98, (by show -2147483648 ≤ v89 ∧ v89 ≤ 2147483647 ∧ (h97 36 7) = (h 36 7) ∧ (h97 1 1) = (h 1 1) ∧ (h97 90 2) = (h 90 2) ∧ (h97 0 10) = (h 0 10) ∧ (h97 0 11) = (h 0 11) ∧ (h97 0 12) = (h 0 12) ∧ (h97 0 13) = (h 0 13) ∧ (h97 3 1) = (h 3 1) ∧ (h97 36 8) = (h 36 8) ∧ (h97 46 3) = (h 46 3) ∧ (h97 46 4) = (h 46 4) ∧ (h97 49 4) = (h 49 4) ∧ (h97 49 5) = (h 49 5) ∧ (h97 64 0) = (h 64 0) ∧ (h97 76 0) = (h 76 0); omega)⟩
        · skip
          refine ov_blk (ls2 := [(0, ov_r 36), (1, ov_i c), (2, ov_i s), (3, ov_i (h 45 c)), (4, ov_i (Int.tmod s (h 45 c))), (5, ov_i w71)]) (st2 := [ov_r 36]) (pc2 := 76) b_127_75_1 rfl rfl ?_
          refine ov_getf (v := ov_i (h 36 10)) d_127_76 fl_Goers_39 (zb_36 I) (zs_36 I) rfl ?_
          have g101 := rg_36_10 I
          refine ov_blk (ls2 := [(0, ov_r 36), (1, ov_i c), (2, ov_i s), (3, ov_i (h 45 c)), (4, ov_i (Int.tmod s (h 45 c))), (5, ov_i w71)]) (st2 := [ov_i 3, ov_i (h 36 10)]) (pc2 := 80) b_127_79_1 rfl rfl ?_
          refine ov_icne (tgt := 93) d_127_80 (by decide) (by omega) (by omega) (fun c102 => ?_) (fun c102 => ?_)
          · skip
            refine ov_blk (ls2 := [(0, ov_r 36), (1, ov_i c), (2, ov_i s), (3, ov_i (h 45 c)), (4, ov_i (Int.tmod s (h 45 c))), (5, ov_i w71)]) (st2 := [ov_i (Int.tmod s (h 45 c)), ov_i c, ov_r 36]) (pc2 := 97) b_127_93_3 rfl rfl ?_
            refine ov_cV (as := [ov_i c, ov_i (Int.tmod s (h 45 c))]) (st := []) (d2 := d - 1) d_127_97 lk_Goers_111 rfl (Nat.le_of_ble_eq_true rfl) (c := 2) (zb_36 I) (zs_36 I) ⟨by decide, rfl⟩ (by omega) (c_Goers_valueOverRound_36_k36_8_58 k HV (d - 1) (by omega) U I (ov_kws hw (by decide +kernel)) c (Int.tmod s (h 45 c)) k0 (by omega) (by omega) (by omega) (by omega)) ?_
            rintro _ z105 h106 ⟨v104, rfl, I107, f103⟩
            show ov_R u d ov_m127 100 [(0, ov_r 36), (1, ov_i c), (2, ov_i s), (3, ov_i (h 45 c)), (4, ov_i (Int.tmod s (h 45 c))), (5, ov_i w71)] [ov_i v104] z105 h106 (P_Goers_valueAt_36_k36_8_58 F z h c s)
            have f108 : -2147483648 ≤ v104 ∧ v104 ≤ 2147483647 ∧ (h106 36 7) = (h 36 7) ∧ (h106 1 1) = (h 1 1) ∧ (h106 90 2) = (h 90 2) ∧ (h106 0 10) = (h 0 10) ∧ (h106 0 11) = (h 0 11) ∧ (h106 0 12) = (h 0 12) ∧ (h106 0 13) = (h 0 13) ∧ (h106 3 1) = (h 3 1) ∧ (h106 36 8) = (h 36 8) ∧ (h106 46 3) = (h 46 3) ∧ (h106 46 4) = (h 46 4) ∧ (h106 49 4) = (h 49 4) ∧ (h106 49 5) = (h 49 5) ∧ (h106 64 0) = (h 64 0) ∧ (h106 76 0) = (h 76 0) := f103
            clear f103
            have e109 : h106 36 8 = 58 := by omega
            refine ov_blk (ls2 := [(0, ov_r 36), (1, ov_i c), (2, ov_i s), (3, ov_i (h 45 c)), (4, ov_i (Int.tmod s (h 45 c))), (5, ov_i w71), (6, ov_i v104)]) (st2 := []) (pc2 := 102) b_127_100_1 rfl rfl ?_
            refine ov_goto (tgt := 147) d_127_102 (by decide) ?_
            refine ov_blk (ls2 := [(0, ov_r 36), (1, ov_i c), (2, ov_i s), (3, ov_i (h 45 c)), (4, ov_i (Int.tmod s (h 45 c))), (5, ov_i w71), (6, ov_i v104)]) (st2 := [ov_r 36]) (pc2 := 148) b_127_147_1 rfl rfl ?_
            refine ov_getf (v := ov_r 37) d_127_148 fl_Goers_12 (zb_36 I107) (zs_36 I107) (congrArg ov_r (rg_36_2 I107)) ?_
            refine ov_blk (ls2 := [(0, ov_r 36), (1, ov_i c), (2, ov_i s), (3, ov_i (h 45 c)), (4, ov_i (Int.tmod s (h 45 c))), (5, ov_i w71), (6, ov_i v104)]) (st2 := [ov_i v104, ov_i w71, ov_i c, ov_r 37]) (pc2 := 156) b_127_151_3 rfl rfl ?_
            refine ov_cV (as := [ov_i c, ov_i w71, ov_i v104]) (st := []) (d2 := d - 1) d_127_156 lk_Goers_122 rfl (Nat.le_of_ble_eq_true rfl) (c := 4) (zb_37 I107) (zs_37 I107) ⟨by decide, rfl⟩ (by omega) (c_Memo_put_37 (d - 1) (by omega) U I107 c w71 v104 (by omega) (by omega) (by omega) (by omega)) ?_
            rintro _ z111 h112 ⟨rfl, I113, f110⟩
            show ov_R u d ov_m127 159 [(0, ov_r 36), (1, ov_i c), (2, ov_i s), (3, ov_i (h 45 c)), (4, ov_i (Int.tmod s (h 45 c))), (5, ov_i w71), (6, ov_i v104)] [] z111 h112 (P_Goers_valueAt_36_k36_8_58 F z h c s)
            have f114 : (h112 36 7) = (h106 36 7) ∧ (h112 1 1) = (h106 1 1) ∧ (h112 90 2) = (h106 90 2) ∧ (h112 0 10) = (h106 0 10) ∧ (h112 0 11) = (h106 0 11) ∧ (h112 0 12) = (h106 0 12) ∧ (h112 0 13) = (h106 0 13) ∧ (h112 3 1) = (h106 3 1) ∧ (h112 36 8) = (h106 36 8) ∧ (h112 46 3) = (h106 46 3) ∧ (h112 46 4) = (h106 46 4) ∧ (h112 49 4) = (h106 49 4) ∧ (h112 49 5) = (h106 49 5) ∧ (h112 64 0) = (h106 64 0) ∧ (h112 76 0) = (h106 76 0) := f110
            clear f110
            have e115 : h112 36 8 = 58 := by omega
            refine ov_blk (ls2 := [(0, ov_r 36), (1, ov_i c), (2, ov_i s), (3, ov_i (h 45 c)), (4, ov_i (Int.tmod s (h 45 c))), (5, ov_i w71), (6, ov_i v104)]) (st2 := [ov_i v104]) (pc2 := 161) b_127_159_1 rfl rfl ?_
            exact ov_reti (st := []) d_127_161 rfl ⟨_, rfl, I113, (by show -2147483648 ≤ v104 ∧ v104 ≤ 2147483647 ∧ (h112 36 7) = (h 36 7) ∧ (h112 1 1) = (h 1 1) ∧ (h112 90 2) = (h 90 2) ∧ (h112 0 10) = (h 0 10) ∧ (h112 0 11) = (h 0 11) ∧ (h112 0 12) = (h 0 12) ∧ (h112 0 13) = (h 0 13) ∧ (h112 3 1) = (h 3 1) ∧ (h112 36 8) = (h 36 8) ∧ (h112 46 3) = (h 46 3) ∧ (h112 46 4) = (h 46 4) ∧ (h112 49 4) = (h 49 4) ∧ (h112 49 5) = (h 49 5) ∧ (h112 64 0) = (h 64 0) ∧ (h112 76 0) = (h 76 0); omega)⟩
          · skip
            refine ov_blk (ls2 := [(0, ov_r 36), (1, ov_i c), (2, ov_i s), (3, ov_i (h 45 c)), (4, ov_i (Int.tmod s (h 45 c))), (5, ov_i w71)]) (st2 := [ov_i (Int.tmod s (h 45 c)), ov_i c, ov_r 36]) (pc2 := 87) b_127_83_3 rfl rfl ?_
            refine ov_cV (as := [ov_i c, ov_i (Int.tmod s (h 45 c))]) (st := []) (d2 := d - 1) d_127_87 lk_Goers_108 rfl (Nat.le_of_ble_eq_true rfl) (c := 2) (zb_36 I) (zs_36 I) ⟨by decide, rfl⟩ (by omega) (c_Goers_bestOverRound_36_k36_8_58 k HV (d - 1) (by omega) U I (ov_kws hw (by decide +kernel)) c (Int.tmod s (h 45 c)) k0 (by omega) (by omega) (by omega) (by omega)) ?_
            rintro _ z118 h119 ⟨v117, rfl, I120, f116⟩
            show ov_R u d ov_m127 90 [(0, ov_r 36), (1, ov_i c), (2, ov_i s), (3, ov_i (h 45 c)), (4, ov_i (Int.tmod s (h 45 c))), (5, ov_i w71)] [ov_i v117] z118 h119 (P_Goers_valueAt_36_k36_8_58 F z h c s)
            have f121 : -2147483648 ≤ v117 ∧ v117 ≤ 2147483647 ∧ (h119 36 7) = (h 36 7) ∧ (h119 1 1) = (h 1 1) ∧ (h119 90 2) = (h 90 2) ∧ (h119 0 10) = (h 0 10) ∧ (h119 0 11) = (h 0 11) ∧ (h119 0 12) = (h 0 12) ∧ (h119 0 13) = (h 0 13) ∧ (h119 3 1) = (h 3 1) ∧ (h119 36 8) = (h 36 8) ∧ (h119 46 3) = (h 46 3) ∧ (h119 46 4) = (h 46 4) ∧ (h119 49 4) = (h 49 4) ∧ (h119 49 5) = (h 49 5) ∧ (h119 64 0) = (h 64 0) ∧ (h119 76 0) = (h 76 0) := f116
            clear f116
            have e122 : h119 36 8 = 58 := by omega
            refine ov_goto (tgt := 100) d_127_90 (by decide) ?_
            refine ov_blk (ls2 := [(0, ov_r 36), (1, ov_i c), (2, ov_i s), (3, ov_i (h 45 c)), (4, ov_i (Int.tmod s (h 45 c))), (5, ov_i w71), (6, ov_i v117)]) (st2 := []) (pc2 := 102) b_127_100_1 rfl rfl ?_
            refine ov_goto (tgt := 147) d_127_102 (by decide) ?_
            refine ov_blk (ls2 := [(0, ov_r 36), (1, ov_i c), (2, ov_i s), (3, ov_i (h 45 c)), (4, ov_i (Int.tmod s (h 45 c))), (5, ov_i w71), (6, ov_i v117)]) (st2 := [ov_r 36]) (pc2 := 148) b_127_147_1 rfl rfl ?_
            refine ov_getf (v := ov_r 37) d_127_148 fl_Goers_12 (zb_36 I120) (zs_36 I120) (congrArg ov_r (rg_36_2 I120)) ?_
            refine ov_blk (ls2 := [(0, ov_r 36), (1, ov_i c), (2, ov_i s), (3, ov_i (h 45 c)), (4, ov_i (Int.tmod s (h 45 c))), (5, ov_i w71), (6, ov_i v117)]) (st2 := [ov_i v117, ov_i w71, ov_i c, ov_r 37]) (pc2 := 156) b_127_151_3 rfl rfl ?_
            refine ov_cV (as := [ov_i c, ov_i w71, ov_i v117]) (st := []) (d2 := d - 1) d_127_156 lk_Goers_122 rfl (Nat.le_of_ble_eq_true rfl) (c := 4) (zb_37 I120) (zs_37 I120) ⟨by decide, rfl⟩ (by omega) (c_Memo_put_37 (d - 1) (by omega) U I120 c w71 v117 (by omega) (by omega) (by omega) (by omega)) ?_
            rintro _ z124 h125 ⟨rfl, I126, f123⟩
            show ov_R u d ov_m127 159 [(0, ov_r 36), (1, ov_i c), (2, ov_i s), (3, ov_i (h 45 c)), (4, ov_i (Int.tmod s (h 45 c))), (5, ov_i w71), (6, ov_i v117)] [] z124 h125 (P_Goers_valueAt_36_k36_8_58 F z h c s)
            have f127 : (h125 36 7) = (h119 36 7) ∧ (h125 1 1) = (h119 1 1) ∧ (h125 90 2) = (h119 90 2) ∧ (h125 0 10) = (h119 0 10) ∧ (h125 0 11) = (h119 0 11) ∧ (h125 0 12) = (h119 0 12) ∧ (h125 0 13) = (h119 0 13) ∧ (h125 3 1) = (h119 3 1) ∧ (h125 36 8) = (h119 36 8) ∧ (h125 46 3) = (h119 46 3) ∧ (h125 46 4) = (h119 46 4) ∧ (h125 49 4) = (h119 49 4) ∧ (h125 49 5) = (h119 49 5) ∧ (h125 64 0) = (h119 64 0) ∧ (h125 76 0) = (h119 76 0) := f123
            clear f123
            have e128 : h125 36 8 = 58 := by omega
            refine ov_blk (ls2 := [(0, ov_r 36), (1, ov_i c), (2, ov_i s), (3, ov_i (h 45 c)), (4, ov_i (Int.tmod s (h 45 c))), (5, ov_i w71), (6, ov_i v117)]) (st2 := [ov_i v117]) (pc2 := 161) b_127_159_1 rfl rfl ?_
            exact ov_reti (st := []) d_127_161 rfl ⟨_, rfl, I126, (by show -2147483648 ≤ v117 ∧ v117 ≤ 2147483647 ∧ (h125 36 7) = (h 36 7) ∧ (h125 1 1) = (h 1 1) ∧ (h125 90 2) = (h 90 2) ∧ (h125 0 10) = (h 0 10) ∧ (h125 0 11) = (h 0 11) ∧ (h125 0 12) = (h 0 12) ∧ (h125 0 13) = (h 0 13) ∧ (h125 3 1) = (h 3 1) ∧ (h125 36 8) = (h 36 8) ∧ (h125 46 3) = (h 46 3) ∧ (h125 46 4) = (h 46 4) ∧ (h125 49 4) = (h 49 4) ∧ (h125 49 5) = (h 49 5) ∧ (h125 64 0) = (h 64 0) ∧ (h125 76 0) = (h 76 0); omega)⟩
      · skip
        refine ov_blk (ls2 := [(0, ov_r 36), (1, ov_i c), (2, ov_i s), (3, ov_i (h 45 c)), (4, ov_i (Int.tmod s (h 45 c))), (5, ov_i w71)]) (st2 := [ov_r 36]) (pc2 := 58) b_127_57_1 rfl rfl ?_
        refine ov_getf (v := ov_r 37) d_127_58 fl_Goers_12 (zb_36 I) (zs_36 I) (congrArg ov_r (rg_36_2 I)) ?_
        refine ov_blk (ls2 := [(0, ov_r 36), (1, ov_i c), (2, ov_i s), (3, ov_i (h 45 c)), (4, ov_i (Int.tmod s (h 45 c))), (5, ov_i w71)]) (st2 := [ov_i w71, ov_r 37]) (pc2 := 63) b_127_61_1 rfl rfl ?_
        refine ov_cV (as := [ov_i w71]) (st := []) (d2 := d - 1) d_127_63 lk_Goers_104 rfl (Nat.le_of_ble_eq_true rfl) (c := 4) (zb_37 I) (zs_37 I) ⟨by decide, rfl⟩ (by omega) (c_Memo_number_37 (d - 1) (by omega) U I w71 (by omega) (by omega)) ?_
        rintro _ _ _ ⟨v130, rfl, rfl, rfl, f129⟩
        show ov_R u d ov_m127 66 [(0, ov_r 36), (1, ov_i c), (2, ov_i s), (3, ov_i (h 45 c)), (4, ov_i (Int.tmod s (h 45 c))), (5, ov_i w71)] [ov_i v130] z h (P_Goers_valueAt_36_k36_8_58 F z h c s)
        have f131 : -2147483648 ≤ v130 ∧ v130 ≤ 2147483647 := f129
        clear f129
        exact ov_reti (st := []) d_127_66 rfl ⟨_, rfl, I, (by show -2147483648 ≤ v130 ∧ v130 ≤ 2147483647 ∧ (h 36 7) = (h 36 7) ∧ (h 1 1) = (h 1 1) ∧ (h 90 2) = (h 90 2) ∧ (h 0 10) = (h 0 10) ∧ (h 0 11) = (h 0 11) ∧ (h 0 12) = (h 0 12) ∧ (h 0 13) = (h 0 13) ∧ (h 3 1) = (h 3 1) ∧ (h 36 8) = (h 36 8) ∧ (h 46 3) = (h 46 3) ∧ (h 46 4) = (h 46 4) ∧ (h 49 4) = (h 49 4) ∧ (h 49 5) = (h 49 5) ∧ (h 64 0) = (h 64 0) ∧ (h 76 0) = (h 76 0); omega)⟩
  · skip
    refine ov_blk (ls2 := [(0, ov_r 36), (1, ov_i c), (2, ov_i s)]) (st2 := [ov_i 0]) (pc2 := 9) b_127_8_1 rfl rfl ?_
    exact ov_reti (st := []) d_127_9 rfl ⟨_, rfl, I, (by show -2147483648 ≤ 0 ∧ 0 ≤ 2147483647 ∧ (h 36 7) = (h 36 7) ∧ (h 1 1) = (h 1 1) ∧ (h 90 2) = (h 90 2) ∧ (h 0 10) = (h 0 10) ∧ (h 0 11) = (h 0 11) ∧ (h 0 12) = (h 0 12) ∧ (h 0 13) = (h 0 13) ∧ (h 3 1) = (h 3 1) ∧ (h 36 8) = (h 36 8) ∧ (h 46 3) = (h 46 3) ∧ (h 46 4) = (h 46 4) ∧ (h 49 4) = (h 49 4) ∧ (h 49 5) = (h 49 5) ∧ (h 64 0) = (h 64 0) ∧ (h 76 0) = (h 76 0); omega)⟩
theorem c_Goers_valueAt_36_k36_8_58_all {u : ov_U} {F : ov_H} (k : Nat) : ∀ {z : ov_Z} {h : ov_H} (d : Nat) (hd : (10 + 5 * k + 3) ≤ d) (U : ov_cap u) (I : ov_I F z h) (hw : ov_kw 590295810358705651712 F) (c : Int) (s : Int) (k0 : h 36 8 = 58) (g_c : ov_g c) (g_s : ov_g s) (p0 : 0 ≤ c ∧ c + (k : Int) = 53) (p1 : F (-5) 58 = 1), ov_T u d ov_m127 [ov_r 36, ov_i c, ov_i s] z h (P_Goers_valueAt_36_k36_8_58 F z h c s) := by
  induction k using Nat.strongRecOn with
  | ind k ih => exact fun {z} {h} => @c_Goers_valueAt_36_k36_8_58 u F k (fun k' hk => @ih k' hk) z h
theorem c_Goers_wayOf_36_k36_8_58_all {u : ov_U} {F : ov_H} (k : Nat) : ∀ {z : ov_Z} {h : ov_H} (d : Nat) (hd : (10 + 5 * k + 1) ≤ d) (U : ov_cap u) (I : ov_I F z h) (hw : ov_kw 590295810358705651712 F) (c : Int) (s : Int) (sn : Int) (k0 : h 36 8 = 58) (g_c : ov_g c) (g_s : ov_g s) (g_sn : ov_g sn) (p0 : 0 ≤ c ∧ c + (k : Int) = 53) (p1 : F (-5) 58 = 1), ov_T u d ov_m144 [ov_r 36, ov_i c, ov_i s, ov_i sn] z h (P_Goers_wayOf_36_k36_8_58 F z h c s sn) := fun {z} {h} => @c_Goers_wayOf_36_k36_8_58 u F k (fun k' _ => @c_Goers_valueAt_36_k36_8_58_all u F k') z h

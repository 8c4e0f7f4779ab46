theorem b_268_0_2 : ov_ds ov_m268.2.1 0 [.aload_n 0, .iconst 0] = true := by decide +kernel
theorem d_268_2 : decode ov_m268.2.1 2 = .ok (.putfield 1, 3) := by decide +kernel
theorem b_268_5_2 : ov_ds ov_m268.2.1 5 [.aload_n 0, .iload_n 1] = true := by decide +kernel
theorem d_268_7 : decode ov_m268.2.1 7 = .ok (.invokevirtual 383, 3) := by decide +kernel
theorem d_268_10 : decode ov_m268.2.1 10 = .ok (.ifCond .eq 14, 3) := by decide +kernel
theorem b_268_24_1 : ov_ds ov_m268.2.1 24 [.iconst (-1)] = true := by decide +kernel
theorem d_268_25 : decode ov_m268.2.1 25 = .ok (.ireturn, 1) := by decide +kernel
theorem b_268_13_4 : ov_ds ov_m268.2.1 13 [.aload_n 0, .iload_n 2, .iload_n 3, .iload 4] = true := by decide +kernel
theorem d_268_18 : decode ov_m268.2.1 18 = .ok (.invokevirtual 386, 3) := by decide +kernel
theorem d_268_21 : decode ov_m268.2.1 21 = .ok (.ifCond .ne 5, 3) := by decide +kernel
theorem b_268_26_5 : ov_ds ov_m268.2.1 26 [.aload_n 0, .iload_n 1, .iconst 0, .iconst (-1), .iconst 0] = true := by decide +kernel
theorem d_268_31 : decode ov_m268.2.1 31 = .ok (.invokevirtual 389, 3) := by decide +kernel
theorem b_268_34_4 : ov_ds ov_m268.2.1 34 [.aload_n 0, .iload_n 2, .iload_n 3, .iload 4] = true := by decide +kernel
theorem d_268_39 : decode ov_m268.2.1 39 = .ok (.invokevirtual 377, 3) := by decide +kernel
theorem d_268_42 : decode ov_m268.2.1 42 = .ok (.ireturn, 1) := by decide +kernel
theorem b_280_0_2 : ov_ds ov_m280.2.1 0 [.aload_n 0, .iconst 0] = true := by decide +kernel
theorem d_280_2 : decode ov_m280.2.1 2 = .ok (.putfield 1, 3) := by decide +kernel
theorem b_280_5_2 : ov_ds ov_m280.2.1 5 [.aload_n 0, .iload_n 1] = true := by decide +kernel
theorem d_280_7 : decode ov_m280.2.1 7 = .ok (.invokevirtual 383, 3) := by decide +kernel
theorem d_280_10 : decode ov_m280.2.1 10 = .ok (.ifCond .eq 14, 3) := by decide +kernel
theorem b_280_24_1 : ov_ds ov_m280.2.1 24 [.iconst (-1)] = true := by decide +kernel
theorem d_280_25 : decode ov_m280.2.1 25 = .ok (.ireturn, 1) := by decide +kernel
theorem b_280_13_4 : ov_ds ov_m280.2.1 13 [.aload_n 0, .iload_n 2, .iload_n 3, .iload 4] = true := by decide +kernel
theorem d_280_18 : decode ov_m280.2.1 18 = .ok (.invokevirtual 386, 3) := by decide +kernel
theorem d_280_21 : decode ov_m280.2.1 21 = .ok (.ifCond .ne 5, 3) := by decide +kernel
theorem b_280_26_5 : ov_ds ov_m280.2.1 26 [.aload_n 0, .iload_n 1, .iconst 1, .iconst (-1), .iconst 0] = true := by decide +kernel
theorem d_280_31 : decode ov_m280.2.1 31 = .ok (.invokevirtual 389, 3) := by decide +kernel
theorem b_280_34_4 : ov_ds ov_m280.2.1 34 [.aload_n 0, .iload_n 2, .iload_n 3, .iload 4] = true := by decide +kernel
theorem d_280_39 : decode ov_m280.2.1 39 = .ok (.invokevirtual 377, 3) := by decide +kernel
theorem d_280_42 : decode ov_m280.2.1 42 = .ok (.ireturn, 1) := by decide +kernel
theorem b_281_0_2 : ov_ds ov_m281.2.1 0 [.aload_n 0, .iconst 0] = true := by decide +kernel
theorem d_281_2 : decode ov_m281.2.1 2 = .ok (.putfield 1, 3) := by decide +kernel
theorem b_281_5_5 : ov_ds ov_m281.2.1 5 [.aload_n 0, .iconst 3, .iconst 0, .iconst (-1), .iconst 0] = true := by decide +kernel
theorem d_281_10 : decode ov_m281.2.1 10 = .ok (.invokevirtual 389, 3) := by decide +kernel
theorem b_281_13_4 : ov_ds ov_m281.2.1 13 [.aload_n 0, .iload_n 1, .iload_n 2, .iload_n 3] = true := by decide +kernel
theorem d_281_17 : decode ov_m281.2.1 17 = .ok (.invokevirtual 386, 3) := by decide +kernel
theorem d_281_20 : decode ov_m281.2.1 20 = .ok (.ifCond .eq 39, 3) := by decide +kernel
theorem b_281_59_1 : ov_ds ov_m281.2.1 59 [.iconst (-1)] = true := by decide +kernel
theorem d_281_60 : decode ov_m281.2.1 60 = .ok (.ireturn, 1) := by decide +kernel
theorem b_281_23_3 : ov_ds ov_m281.2.1 23 [.aload_n 0, .iload_n 1, .iload_n 2] = true := by decide +kernel
theorem d_281_26 : decode ov_m281.2.1 26 = .ok (.invokevirtual 335, 3) := by decide +kernel
theorem d_281_29 : decode ov_m281.2.1 29 = .ok (.ifCond .ne 30, 3) := by decide +kernel
theorem b_281_32_3 : ov_ds ov_m281.2.1 32 [.aload_n 0, .iload_n 1, .iload_n 2] = true := by decide +kernel
theorem d_281_35 : decode ov_m281.2.1 35 = .ok (.invokevirtual 362, 3) := by decide +kernel
theorem d_281_38 : decode ov_m281.2.1 38 = .ok (.ifCond .eq 23, 3) := by decide +kernel
theorem b_281_61_2 : ov_ds ov_m281.2.1 61 [.iload_n 3, .aload_n 0] = true := by decide +kernel
theorem d_281_63 : decode ov_m281.2.1 63 = .ok (.getfield 81, 3) := by decide +kernel
theorem b_281_66_1 : ov_ds ov_m281.2.1 66 [.bipush 9] = true := by decide +kernel
theorem d_281_68 : decode ov_m281.2.1 68 = .ok (.iaload, 1) := by decide +kernel
theorem d_281_69 : decode ov_m281.2.1 69 = .ok (.irem, 1) := by decide +kernel
theorem b_281_70_5 : ov_ds ov_m281.2.1 70 [.istore 5, .aload_n 0, .iload_n 1, .iload_n 2, .iload_n 3] = true := by decide +kernel
theorem d_281_76 : decode ov_m281.2.1 76 = .ok (.invokevirtual 377, 3) := by decide +kernel
theorem d_281_79 : decode ov_m281.2.1 79 = .ok (.ifCond .ge 7, 3) := by decide +kernel
theorem b_281_86_7 : ov_ds ov_m281.2.1 86 [.aload_n 0, .iload_n 1, .iload_n 2, .iload 5, .aload_n 0, .iload_n 1, .iload_n 2] = true := by decide +kernel
theorem d_281_94 : decode ov_m281.2.1 94 = .ok (.invokevirtual 362, 3) := by decide +kernel
theorem d_281_97 : decode ov_m281.2.1 97 = .ok (.ifCond .eq 8, 3) := by decide +kernel
theorem b_281_105_1 : ov_ds ov_m281.2.1 105 [.iload 5] = true := by decide +kernel
theorem d_281_107 : decode ov_m281.2.1 107 = .ok (.invokevirtual 371, 3) := by decide +kernel
theorem d_281_110 : decode ov_m281.2.1 110 = .ok (.ireturn, 1) := by decide +kernel
theorem b_281_100_1 : ov_ds ov_m281.2.1 100 [.iload 4] = true := by decide +kernel
theorem d_281_102 : decode ov_m281.2.1 102 = .ok (.goto 5, 3) := by decide +kernel
theorem b_281_82_1 : ov_ds ov_m281.2.1 82 [.iconst (-1)] = true := by decide +kernel
theorem d_281_83 : decode ov_m281.2.1 83 = .ok (.goto 27, 3) := by decide +kernel
theorem b_281_41_6 : ov_ds ov_m281.2.1 41 [.iload 4, .iconst 0, .aload_n 0, .iload_n 1, .iload_n 2, .iconst 1] = true := by decide +kernel
theorem d_281_48 : decode ov_m281.2.1 48 = .ok (.invokevirtual 289, 3) := by decide +kernel
theorem b_281_51_2 : ov_ds ov_m281.2.1 51 [.iconst 1, .isub] = true := by decide +kernel
theorem d_281_53 : decode ov_m281.2.1 53 = .ok (.invokestatic 299, 3) := by decide +kernel
theorem d_281_56 : decode ov_m281.2.1 56 = .ok (.ifCond .ne 5, 3) := by decide +kernel
theorem b_282_0_2 : ov_ds ov_m282.2.1 0 [.aload_n 0, .iconst 0] = true := by decide +kernel
theorem d_282_2 : decode ov_m282.2.1 2 = .ok (.putfield 1, 3) := by decide +kernel
theorem b_282_5_4 : ov_ds ov_m282.2.1 5 [.aload_n 0, .iload_n 1, .iload_n 2, .iload_n 3] = true := by decide +kernel
theorem d_282_9 : decode ov_m282.2.1 9 = .ok (.invokevirtual 386, 3) := by decide +kernel
theorem d_282_12 : decode ov_m282.2.1 12 = .ok (.ifCond .ne 5, 3) := by decide +kernel
theorem b_282_17_5 : ov_ds ov_m282.2.1 17 [.aload_n 0, .iconst 2, .iconst 0, .iconst (-1), .iconst 0] = true := by decide +kernel
theorem d_282_22 : decode ov_m282.2.1 22 = .ok (.invokevirtual 389, 3) := by decide +kernel
theorem b_282_25_4 : ov_ds ov_m282.2.1 25 [.aload_n 0, .iload_n 1, .iload_n 2, .iload_n 3] = true := by decide +kernel
theorem d_282_29 : decode ov_m282.2.1 29 = .ok (.invokevirtual 377, 3) := by decide +kernel
theorem b_282_32_1 : ov_ds ov_m282.2.1 32 [.istore 4] = true := by decide +kernel
theorem b_282_34_5 : ov_ds ov_m282.2.1 34 [.aload_n 0, .iconst 3, .iconst 0, .iconst (-1), .iconst 0] = true := by decide +kernel
theorem d_282_39 : decode ov_m282.2.1 39 = .ok (.invokevirtual 389, 3) := by decide +kernel
theorem b_282_42_4 : ov_ds ov_m282.2.1 42 [.aload_n 0, .iload_n 1, .iload_n 2, .iload_n 3] = true := by decide +kernel
theorem d_282_46 : decode ov_m282.2.1 46 = .ok (.invokevirtual 377, 3) := by decide +kernel
theorem b_282_49_2 : ov_ds ov_m282.2.1 49 [.istore 5, .iload 4] = true := by decide +kernel
theorem d_282_53 : decode ov_m282.2.1 53 = .ok (.ifCond .lt 8, 3) := by decide +kernel
theorem b_282_61_1 : ov_ds ov_m282.2.1 61 [.iconst (-1)] = true := by decide +kernel
theorem d_282_62 : decode ov_m282.2.1 62 = .ok (.goto 8, 3) := by decide +kernel
theorem d_282_70 : decode ov_m282.2.1 70 = .ok (.ireturn, 1) := by decide +kernel
theorem b_282_56_1 : ov_ds ov_m282.2.1 56 [.iload 5] = true := by decide +kernel
theorem d_282_58 : decode ov_m282.2.1 58 = .ok (.ifCond .ge 7, 3) := by decide +kernel
theorem b_282_65_3 : ov_ds ov_m282.2.1 65 [.iload 4, .iload 5, .isub] = true := by decide +kernel
theorem b_282_15_1 : ov_ds ov_m282.2.1 15 [.iconst (-1)] = true := by decide +kernel
theorem d_282_16 : decode ov_m282.2.1 16 = .ok (.ireturn, 1) := by decide +kernel
theorem b_283_0_2 : ov_ds ov_m283.2.1 0 [.aload_n 0, .iconst 0] = true := by decide +kernel
theorem d_283_2 : decode ov_m283.2.1 2 = .ok (.putfield 1, 3) := by decide +kernel
theorem b_283_5_4 : ov_ds ov_m283.2.1 5 [.aload_n 0, .iload_n 1, .iload_n 2, .iload_n 3] = true := by decide +kernel
theorem d_283_9 : decode ov_m283.2.1 9 = .ok (.invokevirtual 386, 3) := by decide +kernel
theorem d_283_12 : decode ov_m283.2.1 12 = .ok (.ifCond .eq 22, 3) := by decide +kernel
theorem b_283_34_1 : ov_ds ov_m283.2.1 34 [.iconst (-1)] = true := by decide +kernel
theorem d_283_35 : decode ov_m283.2.1 35 = .ok (.ireturn, 1) := by decide +kernel
theorem b_283_15_3 : ov_ds ov_m283.2.1 15 [.aload_n 0, .iload_n 1, .iload_n 2] = true := by decide +kernel
theorem d_283_18 : decode ov_m283.2.1 18 = .ok (.invokevirtual 282, 3) := by decide +kernel
theorem b_283_21_1 : ov_ds ov_m283.2.1 21 [.iconst 1] = true := by decide +kernel
theorem d_283_22 : decode ov_m283.2.1 22 = .ok (.if_icmp .ne 12, 3) := by decide +kernel
theorem b_283_25_3 : ov_ds ov_m283.2.1 25 [.aload_n 0, .iload_n 1, .iload_n 2] = true := by decide +kernel
theorem d_283_28 : decode ov_m283.2.1 28 = .ok (.invokevirtual 302, 3) := by decide +kernel
theorem d_283_31 : decode ov_m283.2.1 31 = .ok (.ifCond .eq 5, 3) := by decide +kernel
theorem b_283_36_5 : ov_ds ov_m283.2.1 36 [.aload_n 0, .iconst 3, .iconst 0, .iconst (-1), .iconst 0] = true := by decide +kernel
theorem d_283_41 : decode ov_m283.2.1 41 = .ok (.invokevirtual 389, 3) := by decide +kernel
theorem b_283_44_4 : ov_ds ov_m283.2.1 44 [.aload_n 0, .iconst 0, .iconst 0, .iload_n 3] = true := by decide +kernel
theorem d_283_48 : decode ov_m283.2.1 48 = .ok (.invokevirtual 377, 3) := by decide +kernel
theorem b_283_51_1 : ov_ds ov_m283.2.1 51 [.istore 4] = true := by decide +kernel
theorem b_283_53_4 : ov_ds ov_m283.2.1 53 [.lconst 0, .lstore 5, .iconst 0, .istore 7] = true := by decide +kernel
theorem b_283_59_5 : ov_ds ov_m283.2.1 59 [.iload 7, .aload_n 0, .iload_n 1, .iload_n 2, .iconst 1] = true := by decide +kernel
theorem d_283_65 : decode ov_m283.2.1 65 = .ok (.invokevirtual 289, 3) := by decide +kernel
theorem d_283_68 : decode ov_m283.2.1 68 = .ok (.if_icmp .ge 41, 3) := by decide +kernel
theorem b_283_109_1 : ov_ds ov_m283.2.1 109 [.iload 4] = true := by decide +kernel
theorem d_283_111 : decode ov_m283.2.1 111 = .ok (.ifCond .ge 7, 3) := by decide +kernel
theorem b_283_118_6 : ov_ds ov_m283.2.1 118 [.iload 4, .lload 5, .aload_n 0, .iload_n 1, .iload_n 2, .iconst 1] = true := by decide +kernel
theorem d_283_126 : decode ov_m283.2.1 126 = .ok (.invokevirtual 289, 3) := by decide +kernel
theorem b_283_129_1 : ov_ds ov_m283.2.1 129 [.i2l] = true := by decide +kernel
theorem d_283_130 : decode ov_m283.2.1 130 = .ok (.ldiv, 1) := by decide +kernel
theorem b_283_131_1 : ov_ds ov_m283.2.1 131 [.l2i] = true := by decide +kernel
theorem b_283_132_1 : ov_ds ov_m283.2.1 132 [.isub] = true := by decide +kernel
theorem d_283_133 : decode ov_m283.2.1 133 = .ok (.ireturn, 1) := by decide +kernel
theorem b_283_114_1 : ov_ds ov_m283.2.1 114 [.iconst (-1)] = true := by decide +kernel
theorem d_283_115 : decode ov_m283.2.1 115 = .ok (.goto 18, 3) := by decide +kernel
theorem b_283_71_1 : ov_ds ov_m283.2.1 71 [.iload 4] = true := by decide +kernel
theorem d_283_73 : decode ov_m283.2.1 73 = .ok (.ifCond .lt 36, 3) := by decide +kernel
theorem b_283_76_9 : ov_ds ov_m283.2.1 76 [.aload_n 0, .iconst 3, .iconst 0, .bipush 6, .iload_n 2, .imul, .iload_n 1, .iadd, .iload 7] = true := by decide +kernel
theorem d_283_87 : decode ov_m283.2.1 87 = .ok (.invokevirtual 389, 3) := by decide +kernel
theorem b_283_90_5 : ov_ds ov_m283.2.1 90 [.lload 5, .aload_n 0, .iconst 0, .iconst 0, .iload_n 3] = true := by decide +kernel
theorem d_283_96 : decode ov_m283.2.1 96 = .ok (.invokevirtual 377, 3) := by decide +kernel
theorem b_283_99_3 : ov_ds ov_m283.2.1 99 [.i2l, .ladd, .lstore 5] = true := by decide +kernel
theorem b_283_103_1 : ov_ds ov_m283.2.1 103 [.iinc 7 1] = true := by decide +kernel
theorem d_283_106 : decode ov_m283.2.1 106 = .ok (.goto (-47), 3) := by decide +kernel
theorem b_285_0_5 : ov_ds ov_m285.2.1 0 [.aload_n 0, .iconst 3, .iconst 0, .iconst (-1), .iconst 0] = true := by decide +kernel
theorem d_285_5 : decode ov_m285.2.1 5 = .ok (.invokevirtual 389, 3) := by decide +kernel
theorem b_285_8_4 : ov_ds ov_m285.2.1 8 [.aload_n 0, .iconst 0, .iconst 0, .iload_n 1] = true := by decide +kernel
theorem d_285_12 : decode ov_m285.2.1 12 = .ok (.invokevirtual 377, 3) := by decide +kernel
theorem d_285_15 : decode ov_m285.2.1 15 = .ok (.ireturn, 1) := by decide +kernel
theorem b_284_0_6 : ov_ds ov_m284.2.1 0 [.iconst (-1), .istore_n 2, .iconst 0, .istore_n 3, .iconst 0, .istore 4] = true := by decide +kernel
theorem b_284_7_2 : ov_ds ov_m284.2.1 7 [.iload 4, .bipush 54] = true := by decide +kernel
theorem d_284_11 : decode ov_m284.2.1 11 = .ok (.if_icmp .ge 120, 3) := by decide +kernel
theorem b_284_131_2 : ov_ds ov_m284.2.1 131 [.aload_n 0, .iconst 0] = true := by decide +kernel
theorem d_284_133 : decode ov_m284.2.1 133 = .ok (.putfield 1, 3) := by decide +kernel
theorem b_284_136_1 : ov_ds ov_m284.2.1 136 [.iload_n 2] = true := by decide +kernel
theorem d_284_137 : decode ov_m284.2.1 137 = .ok (.ireturn, 1) := by decide +kernel
theorem b_284_14_2 : ov_ds ov_m284.2.1 14 [.iload 4, .bipush 6] = true := by decide +kernel
theorem d_284_18 : decode ov_m284.2.1 18 = .ok (.irem, 1) := by decide +kernel
theorem b_284_19_3 : ov_ds ov_m284.2.1 19 [.istore 5, .iload 4, .bipush 6] = true := by decide +kernel
theorem d_284_25 : decode ov_m284.2.1 25 = .ok (.idiv, 1) := by decide +kernel
theorem b_284_26_5 : ov_ds ov_m284.2.1 26 [.istore 6, .aload_n 0, .iload 5, .iload 6, .iload_n 1] = true := by decide +kernel
theorem d_284_34 : decode ov_m284.2.1 34 = .ok (.invokevirtual 386, 3) := by decide +kernel
theorem d_284_37 : decode ov_m284.2.1 37 = .ok (.ifCond .eq 38, 3) := by decide +kernel
theorem b_284_75_3 : ov_ds ov_m284.2.1 75 [.iconst 0, .istore 7, .iload 7] = true := by decide +kernel
theorem d_284_80 : decode ov_m284.2.1 80 = .ok (.ifCond .eq 15, 3) := by decide +kernel
theorem b_284_95_3 : ov_ds ov_m284.2.1 95 [.iconst 0, .istore 8, .iload 7] = true := by decide +kernel
theorem d_284_100 : decode ov_m284.2.1 100 = .ok (.ifCond .eq 25, 3) := by decide +kernel
theorem b_284_125_1 : ov_ds ov_m284.2.1 125 [.iinc 4 1] = true := by decide +kernel
theorem d_284_128 : decode ov_m284.2.1 128 = .ok (.goto (-121), 3) := by decide +kernel
theorem b_284_40_3 : ov_ds ov_m284.2.1 40 [.aload_n 0, .iload 5, .iload 6] = true := by decide +kernel
theorem d_284_45 : decode ov_m284.2.1 45 = .ok (.invokevirtual 282, 3) := by decide +kernel
theorem b_284_48_1 : ov_ds ov_m284.2.1 48 [.iconst 1] = true := by decide +kernel
theorem d_284_49 : decode ov_m284.2.1 49 = .ok (.if_icmp .ne 26, 3) := by decide +kernel
theorem b_284_52_3 : ov_ds ov_m284.2.1 52 [.aload_n 0, .iload 5, .iload 6] = true := by decide +kernel
theorem d_284_57 : decode ov_m284.2.1 57 = .ok (.invokevirtual 302, 3) := by decide +kernel
theorem d_284_60 : decode ov_m284.2.1 60 = .ok (.ifCond .ne 15, 3) := by decide +kernel
theorem b_284_63_2 : ov_ds ov_m284.2.1 63 [.aload_n 0, .iload_n 1] = true := by decide +kernel
theorem d_284_65 : decode ov_m284.2.1 65 = .ok (.invokevirtual 393, 3) := by decide +kernel
theorem d_284_68 : decode ov_m284.2.1 68 = .ok (.ifCond .lt 7, 3) := by decide +kernel
theorem b_284_71_1 : ov_ds ov_m284.2.1 71 [.iconst 1] = true := by decide +kernel
theorem d_284_72 : decode ov_m284.2.1 72 = .ok (.goto 4, 3) := by decide +kernel
theorem b_284_76_2 : ov_ds ov_m284.2.1 76 [.istore 7, .iload 7] = true := by decide +kernel
theorem b_284_83_4 : ov_ds ov_m284.2.1 83 [.aload_n 0, .iload 5, .iload 6, .iload_n 1] = true := by decide +kernel
theorem d_284_89 : decode ov_m284.2.1 89 = .ok (.invokevirtual 396, 3) := by decide +kernel
theorem d_284_92 : decode ov_m284.2.1 92 = .ok (.goto 4, 3) := by decide +kernel
theorem b_284_96_2 : ov_ds ov_m284.2.1 96 [.istore 8, .iload 7] = true := by decide +kernel
theorem b_284_103_1 : ov_ds ov_m284.2.1 103 [.iload_n 2] = true := by decide +kernel
theorem d_284_104 : decode ov_m284.2.1 104 = .ok (.ifCond .lt 9, 3) := by decide +kernel
theorem b_284_113_9 : ov_ds ov_m284.2.1 113 [.bipush 8, .iload 6, .imul, .iload 5, .iadd, .istore_n 2, .iload 8, .istore_n 3, .iinc 4 1] = true := by decide +kernel
theorem b_284_107_2 : ov_ds ov_m284.2.1 107 [.iload 8, .iload_n 3] = true := by decide +kernel
theorem d_284_110 : decode ov_m284.2.1 110 = .ok (.if_icmp .le 15, 3) := by decide +kernel
theorem b_301_0_2 : ov_ds ov_m301.2.1 0 [.aload_n 0, .iconst 0] = true := by decide +kernel
theorem d_301_2 : decode ov_m301.2.1 2 = .ok (.putfield 1, 3) := by decide +kernel
theorem b_301_5_6 : ov_ds ov_m301.2.1 5 [.iconst (-1), .istore_n 1, .iconst 0, .istore_n 2, .iconst 0, .istore_n 3] = true := by decide +kernel
theorem b_301_11_2 : ov_ds ov_m301.2.1 11 [.iload_n 3, .aload_n 0] = true := by decide +kernel
theorem d_301_13 : decode ov_m301.2.1 13 = .ok (.getfield 81, 3) := by decide +kernel
theorem b_301_16_1 : ov_ds ov_m301.2.1 16 [.bipush 8] = true := by decide +kernel
theorem d_301_18 : decode ov_m301.2.1 18 = .ok (.iaload, 1) := by decide +kernel
theorem d_301_19 : decode ov_m301.2.1 19 = .ok (.if_icmp .ge 48, 3) := by decide +kernel
theorem b_301_67_1 : ov_ds ov_m301.2.1 67 [.iload_n 1] = true := by decide +kernel
theorem d_301_68 : decode ov_m301.2.1 68 = .ok (.ireturn, 1) := by decide +kernel
theorem b_301_22_7 : ov_ds ov_m301.2.1 22 [.aload_n 0, .iconst 4, .iload_n 3, .iadd, .iconst 0, .iconst (-1), .iconst 0] = true := by decide +kernel
theorem d_301_29 : decode ov_m301.2.1 29 = .ok (.invokevirtual 389, 3) := by decide +kernel
theorem b_301_32_4 : ov_ds ov_m301.2.1 32 [.aload_n 0, .iconst 0, .iconst 0, .iconst 0] = true := by decide +kernel
theorem d_301_36 : decode ov_m301.2.1 36 = .ok (.invokevirtual 377, 3) := by decide +kernel
theorem b_301_39_2 : ov_ds ov_m301.2.1 39 [.istore 4, .iload 4] = true := by decide +kernel
theorem d_301_43 : decode ov_m301.2.1 43 = .ok (.ifCond .lt 18, 3) := by decide +kernel
theorem b_301_61_1 : ov_ds ov_m301.2.1 61 [.iinc 3 1] = true := by decide +kernel
theorem d_301_64 : decode ov_m301.2.1 64 = .ok (.goto (-53), 3) := by decide +kernel
theorem b_301_46_1 : ov_ds ov_m301.2.1 46 [.iload_n 1] = true := by decide +kernel
theorem d_301_47 : decode ov_m301.2.1 47 = .ok (.ifCond .lt 9, 3) := by decide +kernel
theorem b_301_56_4 : ov_ds ov_m301.2.1 56 [.iload_n 3, .istore_n 1, .iload 4, .istore_n 2] = true := by decide +kernel
theorem b_301_50_2 : ov_ds ov_m301.2.1 50 [.iload 4, .iload_n 2] = true := by decide +kernel
theorem d_301_53 : decode ov_m301.2.1 53 = .ok (.if_icmp .ge 8, 3) := by decide +kernel

theorem b_260_0_2 : ov_ds ov_m260.2.1 0 [.aload_n 0, .iconst 0] = true := by decide +kernel
theorem d_260_2 : decode ov_m260.2.1 2 = .ok (.putfield 1, 3) := by decide +kernel
theorem b_260_5_8 : ov_ds ov_m260.2.1 5 [.iconst 0, .istore_n 1, .iconst 0, .istore_n 2, .iconst 0, .istore_n 3, .iconst 0, .istore 4] = true := by decide +kernel
theorem b_260_14_2 : ov_ds ov_m260.2.1 14 [.iload 4, .aload_n 0] = true := by decide +kernel
theorem d_260_17 : decode ov_m260.2.1 17 = .ok (.getfield 93, 3) := by decide +kernel
theorem b_260_20_1 : ov_ds ov_m260.2.1 20 [.iconst 0] = true := by decide +kernel
theorem d_260_21 : decode ov_m260.2.1 21 = .ok (.iaload, 1) := by decide +kernel
theorem d_260_22 : decode ov_m260.2.1 22 = .ok (.if_icmp .ge 119, 3) := by decide +kernel
theorem b_260_141_1 : ov_ds ov_m260.2.1 141 [.iconst (-1)] = true := by decide +kernel
theorem d_260_142 : decode ov_m260.2.1 142 = .ok (.ireturn, 1) := by decide +kernel
theorem b_260_25_1 : ov_ds ov_m260.2.1 25 [.aload_n 0] = true := by decide +kernel
theorem d_260_26 : decode ov_m260.2.1 26 = .ok (.getfield 93, 3) := by decide +kernel
theorem b_260_29_5 : ov_ds ov_m260.2.1 29 [.iconst 1, .iconst 2, .iload 4, .imul, .iadd] = true := by decide +kernel
theorem d_260_35 : decode ov_m260.2.1 35 = .ok (.iaload, 1) := by decide +kernel
theorem b_260_36_2 : ov_ds ov_m260.2.1 36 [.istore 5, .aload_n 0] = true := by decide +kernel
theorem d_260_39 : decode ov_m260.2.1 39 = .ok (.getfield 93, 3) := by decide +kernel
theorem b_260_42_5 : ov_ds ov_m260.2.1 42 [.iconst 2, .iconst 2, .iload 4, .imul, .iadd] = true := by decide +kernel
theorem d_260_48 : decode ov_m260.2.1 48 = .ok (.iaload, 1) := by decide +kernel
theorem b_260_49_4 : ov_ds ov_m260.2.1 49 [.istore 6, .aload_n 0, .iload_n 1, .iload_n 2] = true := by decide +kernel
theorem d_260_54 : decode ov_m260.2.1 54 = .ok (.invokevirtual 282, 3) := by decide +kernel
theorem b_260_57_1 : ov_ds ov_m260.2.1 57 [.iconst 2] = true := by decide +kernel
theorem d_260_58 : decode ov_m260.2.1 58 = .ok (.if_icmp .ne 20, 3) := by decide +kernel
theorem b_260_78_4 : ov_ds ov_m260.2.1 78 [.iload_n 3, .istore 7, .iload 6, .iload 7] = true := by decide +kernel
theorem d_260_85 : decode ov_m260.2.1 85 = .ok (.if_icmp .lt 25, 3) := by decide +kernel
theorem b_260_110_1 : ov_ds ov_m260.2.1 110 [.iload 4] = true := by decide +kernel
theorem d_260_112 : decode ov_m260.2.1 112 = .ok (.ireturn, 1) := by decide +kernel
theorem b_260_88_3 : ov_ds ov_m260.2.1 88 [.aload_n 0, .iload_n 1, .iload_n 2] = true := by decide +kernel
theorem d_260_91 : decode ov_m260.2.1 91 = .ok (.invokevirtual 285, 3) := by decide +kernel
theorem d_260_94 : decode ov_m260.2.1 94 = .ok (.ifCond .eq 19, 3) := by decide +kernel
theorem b_260_113_2 : ov_ds ov_m260.2.1 113 [.iload 6, .aload_n 0] = true := by decide +kernel
theorem d_260_116 : decode ov_m260.2.1 116 = .ok (.getfield 81, 3) := by decide +kernel
theorem b_260_119_1 : ov_ds ov_m260.2.1 119 [.iconst 2] = true := by decide +kernel
theorem d_260_120 : decode ov_m260.2.1 120 = .ok (.iaload, 1) := by decide +kernel
theorem b_260_121_13 : ov_ds ov_m260.2.1 121 [.iadd, .istore_n 3, .iload_n 1, .iconst 1, .iload 5, .isub, .iadd, .istore_n 1, .iload_n 2, .iload 5, .iadd, .istore_n 2, .iinc 4 1] = true := by decide +kernel
theorem d_260_138 : decode ov_m260.2.1 138 = .ok (.goto (-124), 3) := by decide +kernel
theorem b_260_97_5 : ov_ds ov_m260.2.1 97 [.aload_n 0, .iload_n 1, .iload_n 2, .iload 5, .iload 6] = true := by decide +kernel
theorem d_260_104 : decode ov_m260.2.1 104 = .ok (.invokevirtual 292, 3) := by decide +kernel
theorem d_260_107 : decode ov_m260.2.1 107 = .ok (.ifCond .ne 6, 3) := by decide +kernel
theorem b_260_61_1 : ov_ds ov_m260.2.1 61 [.iload 5] = true := by decide +kernel
theorem d_260_63 : decode ov_m260.2.1 63 = .ok (.ifCond .ne 15, 3) := by decide +kernel
theorem b_260_66_5 : ov_ds ov_m260.2.1 66 [.iload_n 3, .aload_n 0, .iload_n 1, .iload_n 2, .iconst 2] = true := by decide +kernel
theorem d_260_71 : decode ov_m260.2.1 71 = .ok (.invokevirtual 289, 3) := by decide +kernel
theorem b_260_74_1 : ov_ds ov_m260.2.1 74 [.iadd] = true := by decide +kernel
theorem d_260_75 : decode ov_m260.2.1 75 = .ok (.goto 4, 3) := by decide +kernel
theorem b_260_79_3 : ov_ds ov_m260.2.1 79 [.istore 7, .iload 6, .iload 7] = true := by decide +kernel
theorem b_264_0_15 : ov_ds ov_m264.2.1 0 [.aload_n 0, .iload_n 1, .iconst 1, .iadd, .iload_n 3, .isub, .iload_n 2, .iload_n 3, .iadd, .iload 4, .aload_n 0, .iload_n 1, .iload_n 2, .iload_n 3, .iload 4] = true := by decide +kernel
theorem d_264_17 : decode ov_m264.2.1 17 = .ok (.invokevirtual 315, 3) := by decide +kernel
theorem b_264_20_2 : ov_ds ov_m264.2.1 20 [.iadd, .aload_n 0] = true := by decide +kernel
theorem d_264_22 : decode ov_m264.2.1 22 = .ok (.getfield 81, 3) := by decide +kernel
theorem b_264_25_1 : ov_ds ov_m264.2.1 25 [.iconst 2] = true := by decide +kernel
theorem d_264_26 : decode ov_m264.2.1 26 = .ok (.iaload, 1) := by decide +kernel
theorem b_264_27_1 : ov_ds ov_m264.2.1 27 [.iadd] = true := by decide +kernel
theorem d_264_28 : decode ov_m264.2.1 28 = .ok (.invokevirtual 342, 3) := by decide +kernel
theorem d_264_31 : decode ov_m264.2.1 31 = .ok (.ireturn, 1) := by decide +kernel
theorem b_262_0_3 : ov_ds ov_m262.2.1 0 [.aload_n 0, .iload_n 1, .iload_n 2] = true := by decide +kernel
theorem d_262_3 : decode ov_m262.2.1 3 = .ok (.invokevirtual 335, 3) := by decide +kernel
theorem d_262_6 : decode ov_m262.2.1 6 = .ok (.ifCond .eq 5, 3) := by decide +kernel
theorem d_262_11 : decode ov_m262.2.1 11 = .ok (.ldc_w 338, 3) := by decide +kernel
theorem b_262_14_3 : ov_ds ov_m262.2.1 14 [.istore 4, .iconst 0, .istore 5] = true := by decide +kernel
theorem b_262_19_2 : ov_ds ov_m262.2.1 19 [.iload 5, .iconst 2] = true := by decide +kernel
theorem d_262_22 : decode ov_m262.2.1 22 = .ok (.if_icmp .ge 47, 3) := by decide +kernel
theorem b_262_69_1 : ov_ds ov_m262.2.1 69 [.iload 4] = true := by decide +kernel
theorem d_262_71 : decode ov_m262.2.1 71 = .ok (.ireturn, 1) := by decide +kernel
theorem b_262_25_4 : ov_ds ov_m262.2.1 25 [.aload_n 0, .iload_n 1, .iload_n 2, .iload 5] = true := by decide +kernel
theorem d_262_30 : decode ov_m262.2.1 30 = .ok (.invokevirtual 309, 3) := by decide +kernel
theorem d_262_33 : decode ov_m262.2.1 33 = .ok (.ifCond .eq 30, 3) := by decide +kernel
theorem b_262_63_1 : ov_ds ov_m262.2.1 63 [.iinc 5 1] = true := by decide +kernel
theorem d_262_66 : decode ov_m262.2.1 66 = .ok (.goto (-47), 3) := by decide +kernel
theorem b_262_36_5 : ov_ds ov_m262.2.1 36 [.aload_n 0, .iload_n 1, .iload_n 2, .iload 5, .iload_n 3] = true := by decide +kernel
theorem d_262_42 : decode ov_m262.2.1 42 = .ok (.invokevirtual 339, 3) := by decide +kernel
theorem b_262_45_3 : ov_ds ov_m262.2.1 45 [.istore 6, .iload 6, .iload 4] = true := by decide +kernel
theorem d_262_51 : decode ov_m262.2.1 51 = .ok (.if_icmp .ge 8, 3) := by decide +kernel
theorem b_262_59_2 : ov_ds ov_m262.2.1 59 [.iload 4, .istore 4] = true := by decide +kernel
theorem b_262_54_1 : ov_ds ov_m262.2.1 54 [.iload 6] = true := by decide +kernel
theorem d_262_56 : decode ov_m262.2.1 56 = .ok (.goto 5, 3) := by decide +kernel
theorem b_262_61_1 : ov_ds ov_m262.2.1 61 [.istore 4] = true := by decide +kernel
theorem b_262_9_1 : ov_ds ov_m262.2.1 9 [.iload_n 3] = true := by decide +kernel
theorem d_262_10 : decode ov_m262.2.1 10 = .ok (.ireturn, 1) := by decide +kernel
theorem b_261_0_2 : ov_ds ov_m261.2.1 0 [.aload_n 0, .iconst 0] = true := by decide +kernel
theorem d_261_2 : decode ov_m261.2.1 2 = .ok (.putfield 1, 3) := by decide +kernel
theorem b_261_5_3 : ov_ds ov_m261.2.1 5 [.aload_n 0, .iload_n 1, .iload_n 2] = true := by decide +kernel
theorem d_261_8 : decode ov_m261.2.1 8 = .ok (.invokevirtual 296, 3) := by decide +kernel
theorem d_261_11 : decode ov_m261.2.1 11 = .ok (.ifCond .eq 27, 3) := by decide +kernel
theorem d_261_38 : decode ov_m261.2.1 38 = .ok (.ldc_w 338, 3) := by decide +kernel
theorem b_261_41_2 : ov_ds ov_m261.2.1 41 [.istore 5, .iload 5] = true := by decide +kernel
theorem d_261_45 : decode ov_m261.2.1 45 = .ok (.ldc_w 338, 3) := by decide +kernel
theorem d_261_48 : decode ov_m261.2.1 48 = .ok (.if_icmp .ne 6, 3) := by decide +kernel
theorem b_261_51_1 : ov_ds ov_m261.2.1 51 [.bipush (-2)] = true := by decide +kernel
theorem d_261_53 : decode ov_m261.2.1 53 = .ok (.ireturn, 1) := by decide +kernel
theorem b_261_14_2 : ov_ds ov_m261.2.1 14 [.aload_n 0, .iload_n 3] = true := by decide +kernel
theorem d_261_16 : decode ov_m261.2.1 16 = .ok (.invokevirtual 306, 3) := by decide +kernel
theorem d_261_19 : decode ov_m261.2.1 19 = .ok (.ifCond .eq 19, 3) := by decide +kernel
theorem b_261_22_2 : ov_ds ov_m261.2.1 22 [.iload 4, .iconst (-1)] = true := by decide +kernel
theorem d_261_25 : decode ov_m261.2.1 25 = .ok (.if_icmp .lt 13, 3) := by decide +kernel
theorem b_261_28_4 : ov_ds ov_m261.2.1 28 [.aload_n 0, .iload_n 1, .iload_n 2, .iload_n 3] = true := by decide +kernel
theorem d_261_32 : decode ov_m261.2.1 32 = .ok (.invokevirtual 342, 3) := by decide +kernel
theorem d_261_35 : decode ov_m261.2.1 35 = .ok (.goto 6, 3) := by decide +kernel
theorem b_261_54_8 : ov_ds ov_m261.2.1 54 [.iload_n 1, .istore 6, .iload_n 2, .istore 7, .iload_n 3, .istore 8, .iconst 0, .istore 9] = true := by decide +kernel
theorem b_261_66_3 : ov_ds ov_m261.2.1 66 [.aload_n 0, .iload 6, .iload 7] = true := by decide +kernel
theorem d_261_71 : decode ov_m261.2.1 71 = .ok (.invokevirtual 335, 3) := by decide +kernel
theorem d_261_74 : decode ov_m261.2.1 74 = .ok (.ifCond .ne 99, 3) := by decide +kernel
theorem b_261_173_1 : ov_ds ov_m261.2.1 173 [.iload 4] = true := by decide +kernel
theorem d_261_175 : decode ov_m261.2.1 175 = .ok (.ifCond .ge 8, 3) := by decide +kernel
theorem b_261_183_1 : ov_ds ov_m261.2.1 183 [.bipush (-2)] = true := by decide +kernel
theorem d_261_185 : decode ov_m261.2.1 185 = .ok (.ireturn, 1) := by decide +kernel
theorem b_261_178_1 : ov_ds ov_m261.2.1 178 [.iload 5] = true := by decide +kernel
theorem d_261_180 : decode ov_m261.2.1 180 = .ok (.goto 5, 3) := by decide +kernel
theorem b_261_77_1 : ov_ds ov_m261.2.1 77 [.iload 4] = true := by decide +kernel
theorem d_261_79 : decode ov_m261.2.1 79 = .ok (.ifCond .lt 94, 3) := by decide +kernel
theorem b_261_82_4 : ov_ds ov_m261.2.1 82 [.aload_n 0, .iload 6, .iload 7, .iconst 0] = true := by decide +kernel
theorem d_261_88 : decode ov_m261.2.1 88 = .ok (.invokevirtual 309, 3) := by decide +kernel
theorem d_261_91 : decode ov_m261.2.1 91 = .ok (.ifCond .eq 23, 3) := by decide +kernel
theorem b_261_114_4 : ov_ds ov_m261.2.1 114 [.iconst 1, .istore 10, .iload 9, .iload 4] = true := by decide +kernel
theorem d_261_121 : decode ov_m261.2.1 121 = .ok (.if_icmp .ne 6, 3) := by decide +kernel
theorem b_261_127_6 : ov_ds ov_m261.2.1 127 [.iload 8, .aload_n 0, .iload 6, .iload 7, .iload 10, .iload 8] = true := by decide +kernel
theorem d_261_138 : decode ov_m261.2.1 138 = .ok (.invokevirtual 315, 3) := by decide +kernel
theorem b_261_141_1 : ov_ds ov_m261.2.1 141 [.aload_n 0] = true := by decide +kernel
theorem d_261_142 : decode ov_m261.2.1 142 = .ok (.getfield 81, 3) := by decide +kernel
theorem b_261_145_1 : ov_ds ov_m261.2.1 145 [.iconst 2] = true := by decide +kernel
theorem d_261_146 : decode ov_m261.2.1 146 = .ok (.iaload, 1) := by decide +kernel
theorem b_261_147_13 : ov_ds ov_m261.2.1 147 [.iadd, .iadd, .istore 8, .iload 6, .iconst 1, .iload 10, .isub, .iadd, .istore 6, .iload 7, .iload 10, .iadd, .istore 7] = true := by decide +kernel
theorem b_261_167_1 : ov_ds ov_m261.2.1 167 [.iinc 9 1] = true := by decide +kernel
theorem d_261_170 : decode ov_m261.2.1 170 = .ok (.goto (-104), 3) := by decide +kernel
theorem b_261_124_1 : ov_ds ov_m261.2.1 124 [.iload 10] = true := by decide +kernel
theorem d_261_126 : decode ov_m261.2.1 126 = .ok (.ireturn, 1) := by decide +kernel
theorem b_261_94_5 : ov_ds ov_m261.2.1 94 [.aload_n 0, .iload 6, .iload 7, .iconst 0, .iload 8] = true := by decide +kernel
theorem d_261_102 : decode ov_m261.2.1 102 = .ok (.invokevirtual 339, 3) := by decide +kernel
theorem b_261_105_1 : ov_ds ov_m261.2.1 105 [.iload 5] = true := by decide +kernel
theorem d_261_107 : decode ov_m261.2.1 107 = .ok (.if_icmp .ne 7, 3) := by decide +kernel
theorem b_261_110_1 : ov_ds ov_m261.2.1 110 [.iconst 0] = true := by decide +kernel
theorem d_261_111 : decode ov_m261.2.1 111 = .ok (.goto 4, 3) := by decide +kernel
theorem b_261_115_3 : ov_ds ov_m261.2.1 115 [.istore 10, .iload 9, .iload 4] = true := by decide +kernel
theorem b_265_0_2 : ov_ds ov_m265.2.1 0 [.aload_n 0, .iconst 0] = true := by decide +kernel
theorem d_265_2 : decode ov_m265.2.1 2 = .ok (.putfield 1, 3) := by decide +kernel
theorem b_265_5_3 : ov_ds ov_m265.2.1 5 [.aload_n 0, .iload_n 1, .iload_n 2] = true := by decide +kernel
theorem d_265_8 : decode ov_m265.2.1 8 = .ok (.invokevirtual 296, 3) := by decide +kernel
theorem d_265_11 : decode ov_m265.2.1 11 = .ok (.ifCond .eq 21, 3) := by decide +kernel
theorem d_265_32 : decode ov_m265.2.1 32 = .ok (.ldc_w 338, 3) := by decide +kernel
theorem b_265_35_2 : ov_ds ov_m265.2.1 35 [.istore 4, .iload 4] = true := by decide +kernel
theorem d_265_39 : decode ov_m265.2.1 39 = .ok (.ldc_w 338, 3) := by decide +kernel
theorem d_265_42 : decode ov_m265.2.1 42 = .ok (.if_icmp .ne 5, 3) := by decide +kernel
theorem b_265_45_1 : ov_ds ov_m265.2.1 45 [.iconst (-1)] = true := by decide +kernel
theorem d_265_46 : decode ov_m265.2.1 46 = .ok (.ireturn, 1) := by decide +kernel
theorem b_265_14_2 : ov_ds ov_m265.2.1 14 [.aload_n 0, .iload_n 3] = true := by decide +kernel
theorem d_265_16 : decode ov_m265.2.1 16 = .ok (.invokevirtual 306, 3) := by decide +kernel
theorem d_265_19 : decode ov_m265.2.1 19 = .ok (.ifCond .eq 13, 3) := by decide +kernel
theorem b_265_22_4 : ov_ds ov_m265.2.1 22 [.aload_n 0, .iload_n 1, .iload_n 2, .iload_n 3] = true := by decide +kernel
theorem d_265_26 : decode ov_m265.2.1 26 = .ok (.invokevirtual 342, 3) := by decide +kernel
theorem d_265_29 : decode ov_m265.2.1 29 = .ok (.goto 6, 3) := by decide +kernel
theorem b_265_47_4 : ov_ds ov_m265.2.1 47 [.iload_n 3, .istore 5, .iconst 1, .istore 6] = true := by decide +kernel
theorem b_265_53_2 : ov_ds ov_m265.2.1 53 [.iload 6, .aload_n 0] = true := by decide +kernel
theorem d_265_56 : decode ov_m265.2.1 56 = .ok (.getfield 81, 3) := by decide +kernel
theorem b_265_59_1 : ov_ds ov_m265.2.1 59 [.bipush 9] = true := by decide +kernel
theorem d_265_61 : decode ov_m265.2.1 61 = .ok (.iaload, 1) := by decide +kernel
theorem d_265_62 : decode ov_m265.2.1 62 = .ok (.if_icmp .ge 35, 3) := by decide +kernel
theorem b_265_97_1 : ov_ds ov_m265.2.1 97 [.iload 5] = true := by decide +kernel
theorem d_265_99 : decode ov_m265.2.1 99 = .ok (.ireturn, 1) := by decide +kernel
theorem b_265_65_6 : ov_ds ov_m265.2.1 65 [.aload_n 0, .iload_n 1, .iload_n 2, .iload_n 3, .iload 6, .iadd] = true := by decide +kernel
theorem d_265_72 : decode ov_m265.2.1 72 = .ok (.invokevirtual 342, 3) := by decide +kernel
theorem b_265_75_1 : ov_ds ov_m265.2.1 75 [.iload 4] = true := by decide +kernel
theorem d_265_77 : decode ov_m265.2.1 77 = .ok (.if_icmp .ne 10, 3) := by decide +kernel
theorem b_265_87_3 : ov_ds ov_m265.2.1 87 [.iload 5, .istore 5, .iinc 6 1] = true := by decide +kernel
theorem d_265_94 : decode ov_m265.2.1 94 = .ok (.goto (-41), 3) := by decide +kernel
theorem b_265_80_3 : ov_ds ov_m265.2.1 80 [.iload_n 3, .iload 6, .iadd] = true := by decide +kernel
theorem d_265_84 : decode ov_m265.2.1 84 = .ok (.goto 5, 3) := by decide +kernel
theorem b_265_89_2 : ov_ds ov_m265.2.1 89 [.istore 5, .iinc 6 1] = true := by decide +kernel
theorem b_267_0_3 : ov_ds ov_m267.2.1 0 [.aload_n 0, .iload_n 1, .iload_n 2] = true := by decide +kernel
theorem d_267_3 : decode ov_m267.2.1 3 = .ok (.invokevirtual 335, 3) := by decide +kernel
theorem d_267_6 : decode ov_m267.2.1 6 = .ok (.ifCond .eq 5, 3) := by decide +kernel
theorem d_267_11 : decode ov_m267.2.1 11 = .ok (.ldc_w 338, 3) := by decide +kernel
theorem b_267_14_3 : ov_ds ov_m267.2.1 14 [.istore 6, .iconst 0, .istore 7] = true := by decide +kernel
theorem b_267_19_2 : ov_ds ov_m267.2.1 19 [.iload 7, .iconst 2] = true := by decide +kernel
theorem d_267_22 : decode ov_m267.2.1 22 = .ok (.if_icmp .ge 102, 3) := by decide +kernel
theorem b_267_124_1 : ov_ds ov_m267.2.1 124 [.iload 6] = true := by decide +kernel
theorem d_267_126 : decode ov_m267.2.1 126 = .ok (.ireturn, 1) := by decide +kernel
theorem b_267_25_1 : ov_ds ov_m267.2.1 25 [.iload 4] = true := by decide +kernel
theorem d_267_27 : decode ov_m267.2.1 27 = .ok (.ifCond .lt 17, 3) := by decide +kernel
theorem b_267_44_3 : ov_ds ov_m267.2.1 44 [.iload 5, .istore 8, .iload 8] = true := by decide +kernel
theorem d_267_50 : decode ov_m267.2.1 50 = .ok (.ifCond .lt 68, 3) := by decide +kernel
theorem b_267_118_1 : ov_ds ov_m267.2.1 118 [.iinc 7 1] = true := by decide +kernel
theorem d_267_121 : decode ov_m267.2.1 121 = .ok (.goto (-102), 3) := by decide +kernel
theorem b_267_53_4 : ov_ds ov_m267.2.1 53 [.aload_n 0, .iload_n 1, .iload_n 2, .iload 7] = true := by decide +kernel
theorem d_267_58 : decode ov_m267.2.1 58 = .ok (.invokevirtual 309, 3) := by decide +kernel
theorem d_267_61 : decode ov_m267.2.1 61 = .ok (.ifCond .eq 57, 3) := by decide +kernel
theorem b_267_64_15 : ov_ds ov_m267.2.1 64 [.aload_n 0, .iload_n 1, .iconst 1, .iadd, .iload 7, .isub, .iload_n 2, .iload 7, .iadd, .iload_n 3, .aload_n 0, .iload_n 1, .iload_n 2, .iload 7, .iload_n 3] = true := by decide +kernel
theorem d_267_82 : decode ov_m267.2.1 82 = .ok (.invokevirtual 315, 3) := by decide +kernel
theorem b_267_85_2 : ov_ds ov_m267.2.1 85 [.iadd, .aload_n 0] = true := by decide +kernel
theorem d_267_87 : decode ov_m267.2.1 87 = .ok (.getfield 81, 3) := by decide +kernel
theorem b_267_90_1 : ov_ds ov_m267.2.1 90 [.iconst 2] = true := by decide +kernel
theorem d_267_91 : decode ov_m267.2.1 91 = .ok (.iaload, 1) := by decide +kernel
theorem b_267_92_3 : ov_ds ov_m267.2.1 92 [.iadd, .iload 7, .iload 8] = true := by decide +kernel
theorem d_267_97 : decode ov_m267.2.1 97 = .ok (.invokevirtual 345, 3) := by decide +kernel
theorem b_267_100_3 : ov_ds ov_m267.2.1 100 [.istore 9, .iload 9, .iload 6] = true := by decide +kernel
theorem d_267_106 : decode ov_m267.2.1 106 = .ok (.if_icmp .ge 8, 3) := by decide +kernel
theorem b_267_114_3 : ov_ds ov_m267.2.1 114 [.iload 6, .istore 6, .iinc 7 1] = true := by decide +kernel
theorem b_267_109_1 : ov_ds ov_m267.2.1 109 [.iload 9] = true := by decide +kernel
theorem d_267_111 : decode ov_m267.2.1 111 = .ok (.goto 5, 3) := by decide +kernel
theorem b_267_116_2 : ov_ds ov_m267.2.1 116 [.istore 6, .iinc 7 1] = true := by decide +kernel
theorem b_267_30_2 : ov_ds ov_m267.2.1 30 [.iload 7, .iload 4] = true := by decide +kernel
theorem d_267_34 : decode ov_m267.2.1 34 = .ok (.if_icmp .eq 10, 3) := by decide +kernel
theorem b_267_37_3 : ov_ds ov_m267.2.1 37 [.iload 5, .iconst 1, .isub] = true := by decide +kernel
theorem d_267_41 : decode ov_m267.2.1 41 = .ok (.goto 5, 3) := by decide +kernel
theorem b_267_46_2 : ov_ds ov_m267.2.1 46 [.istore 8, .iload 8] = true := by decide +kernel
theorem b_267_9_1 : ov_ds ov_m267.2.1 9 [.iload_n 3] = true := by decide +kernel
theorem d_267_10 : decode ov_m267.2.1 10 = .ok (.ireturn, 1) := by decide +kernel
theorem b_266_0_2 : ov_ds ov_m266.2.1 0 [.aload_n 0, .iconst 0] = true := by decide +kernel
theorem d_266_2 : decode ov_m266.2.1 2 = .ok (.putfield 1, 3) := by decide +kernel
theorem b_266_5_2 : ov_ds ov_m266.2.1 5 [.aload_n 0, .iload_n 1] = true := by decide +kernel
theorem d_266_7 : decode ov_m266.2.1 7 = .ok (.invokevirtual 306, 3) := by decide +kernel
theorem d_266_10 : decode ov_m266.2.1 10 = .ok (.ifCond .eq 25, 3) := by decide +kernel
theorem d_266_35 : decode ov_m266.2.1 35 = .ok (.ldc_w 338, 3) := by decide +kernel
theorem b_266_38_2 : ov_ds ov_m266.2.1 38 [.istore_n 3, .iload_n 3] = true := by decide +kernel
theorem d_266_40 : decode ov_m266.2.1 40 = .ok (.ldc_w 338, 3) := by decide +kernel
theorem d_266_43 : decode ov_m266.2.1 43 = .ok (.if_icmp .ne 7, 3) := by decide +kernel
theorem b_266_46_1 : ov_ds ov_m266.2.1 46 [.iconst (-1)] = true := by decide +kernel
theorem d_266_47 : decode ov_m266.2.1 47 = .ok (.goto 4, 3) := by decide +kernel
theorem d_266_51 : decode ov_m266.2.1 51 = .ok (.ireturn, 1) := by decide +kernel
theorem b_266_13_3 : ov_ds ov_m266.2.1 13 [.iload_n 2, .iconst 0, .bipush 12] = true := by decide +kernel
theorem d_266_17 : decode ov_m266.2.1 17 = .ok (.invokestatic 299, 3) := by decide +kernel
theorem d_266_20 : decode ov_m266.2.1 20 = .ok (.ifCond .eq 15, 3) := by decide +kernel
theorem b_266_23_6 : ov_ds ov_m266.2.1 23 [.aload_n 0, .iconst 0, .iconst 0, .iload_n 1, .iconst (-1), .iload_n 2] = true := by decide +kernel
theorem d_266_29 : decode ov_m266.2.1 29 = .ok (.invokevirtual 345, 3) := by decide +kernel
theorem d_266_32 : decode ov_m266.2.1 32 = .ok (.goto 6, 3) := by decide +kernel
theorem b_266_50_1 : ov_ds ov_m266.2.1 50 [.iload_n 3] = true := by decide +kernel
theorem b_305_0_4 : ov_ds ov_m305.2.1 0 [.iconst 0, .istore 5, .iconst 0, .istore 6] = true := by decide +kernel
theorem b_305_6_2 : ov_ds ov_m305.2.1 6 [.iload 6, .aload_n 0] = true := by decide +kernel
theorem d_305_9 : decode ov_m305.2.1 9 = .ok (.getfield 102, 3) := by decide +kernel
theorem b_305_12_1 : ov_ds ov_m305.2.1 12 [.bipush 59] = true := by decide +kernel
theorem d_305_14 : decode ov_m305.2.1 14 = .ok (.iaload, 1) := by decide +kernel
theorem d_305_15 : decode ov_m305.2.1 15 = .ok (.if_icmp .ge 73, 3) := by decide +kernel
theorem b_305_88_1 : ov_ds ov_m305.2.1 88 [.iload 5] = true := by decide +kernel
theorem d_305_90 : decode ov_m305.2.1 90 = .ok (.ireturn, 1) := by decide +kernel
theorem b_305_18_8 : ov_ds ov_m305.2.1 18 [.bipush 92, .iconst 3, .iload 6, .imul, .iadd, .istore 7, .iload 5, .aload_n 0] = true := by decide +kernel
theorem d_305_30 : decode ov_m305.2.1 30 = .ok (.getfield 102, 3) := by decide +kernel
theorem b_305_33_1 : ov_ds ov_m305.2.1 33 [.iload 7] = true := by decide +kernel
theorem d_305_35 : decode ov_m305.2.1 35 = .ok (.iaload, 1) := by decide +kernel
theorem b_305_36_1 : ov_ds ov_m305.2.1 36 [.iload_n 1] = true := by decide +kernel
theorem d_305_37 : decode ov_m305.2.1 37 = .ok (.if_icmp .ne 41, 3) := by decide +kernel
theorem b_305_78_4 : ov_ds ov_m305.2.1 78 [.iconst 0, .ior, .istore 5, .iinc 6 1] = true := by decide +kernel
theorem d_305_85 : decode ov_m305.2.1 85 = .ok (.goto (-79), 3) := by decide +kernel
theorem b_305_40_1 : ov_ds ov_m305.2.1 40 [.aload_n 0] = true := by decide +kernel
theorem d_305_41 : decode ov_m305.2.1 41 = .ok (.getfield 102, 3) := by decide +kernel
theorem b_305_44_3 : ov_ds ov_m305.2.1 44 [.iload 7, .iconst 1, .iadd] = true := by decide +kernel
theorem d_305_48 : decode ov_m305.2.1 48 = .ok (.iaload, 1) := by decide +kernel
theorem b_305_49_1 : ov_ds ov_m305.2.1 49 [.iload_n 2] = true := by decide +kernel
theorem d_305_50 : decode ov_m305.2.1 50 = .ok (.if_icmp .ne 28, 3) := by decide +kernel
theorem b_305_53_1 : ov_ds ov_m305.2.1 53 [.aload_n 0] = true := by decide +kernel
theorem d_305_54 : decode ov_m305.2.1 54 = .ok (.getfield 102, 3) := by decide +kernel
theorem b_305_57_3 : ov_ds ov_m305.2.1 57 [.iload 7, .iconst 2, .iadd] = true := by decide +kernel
theorem d_305_61 : decode ov_m305.2.1 61 = .ok (.iaload, 1) := by decide +kernel
theorem b_305_62_2 : ov_ds ov_m305.2.1 62 [.iload_n 3, .iload 4] = true := by decide +kernel
theorem d_305_65 : decode ov_m305.2.1 65 = .ok (.invokestatic 299, 3) := by decide +kernel
theorem d_305_68 : decode ov_m305.2.1 68 = .ok (.ifCond .eq 10, 3) := by decide +kernel
theorem b_305_71_3 : ov_ds ov_m305.2.1 71 [.iconst 1, .iload 6, .ishl] = true := by decide +kernel
theorem d_305_75 : decode ov_m305.2.1 75 = .ok (.goto 4, 3) := by decide +kernel
theorem b_305_79_3 : ov_ds ov_m305.2.1 79 [.ior, .istore 5, .iinc 6 1] = true := by decide +kernel
theorem b_306_0_3 : ov_ds ov_m306.2.1 0 [.iload_n 1, .iconst 1, .aload_n 0] = true := by decide +kernel
theorem d_306_3 : decode ov_m306.2.1 3 = .ok (.getfield 102, 3) := by decide +kernel
theorem b_306_6_1 : ov_ds ov_m306.2.1 6 [.bipush 59] = true := by decide +kernel
theorem d_306_8 : decode ov_m306.2.1 8 = .ok (.iaload, 1) := by decide +kernel
theorem b_306_9_3 : ov_ds ov_m306.2.1 9 [.ishl, .iconst 1, .isub] = true := by decide +kernel
theorem d_306_12 : decode ov_m306.2.1 12 = .ok (.if_icmp .ne 58, 3) := by decide +kernel
theorem d_306_70 : decode ov_m306.2.1 70 = .ok (.return_, 1) := by decide +kernel
theorem b_306_15_2 : ov_ds ov_m306.2.1 15 [.aload_n 0, .aload_n 0] = true := by decide +kernel
theorem d_306_17 : decode ov_m306.2.1 17 = .ok (.getfield 461, 3) := by decide +kernel
theorem b_306_20_2 : ov_ds ov_m306.2.1 20 [.lconst 0, .lcmp] = true := by decide +kernel
theorem d_306_22 : decode ov_m306.2.1 22 = .ok (.ifCond .ne 8, 3) := by decide +kernel
theorem b_306_30_1 : ov_ds ov_m306.2.1 30 [.aload_n 0] = true := by decide +kernel
theorem d_306_31 : decode ov_m306.2.1 31 = .ok (.getfield 465, 3) := by decide +kernel
theorem d_306_34 : decode ov_m306.2.1 34 = .ok (.putfield 465, 3) := by decide +kernel
theorem b_306_37_2 : ov_ds ov_m306.2.1 37 [.aload_n 0, .aload_n 0] = true := by decide +kernel
theorem d_306_39 : decode ov_m306.2.1 39 = .ok (.getfield 461, 3) := by decide +kernel
theorem b_306_42_2 : ov_ds ov_m306.2.1 42 [.lconst 0, .lcmp] = true := by decide +kernel
theorem d_306_44 : decode ov_m306.2.1 44 = .ok (.ifCond .ne 7, 3) := by decide +kernel
theorem b_306_51_1 : ov_ds ov_m306.2.1 51 [.aload_n 0] = true := by decide +kernel
theorem d_306_52 : decode ov_m306.2.1 52 = .ok (.getfield 468, 3) := by decide +kernel
theorem b_306_55_2 : ov_ds ov_m306.2.1 55 [.lload_n 2, .land] = true := by decide +kernel
theorem d_306_57 : decode ov_m306.2.1 57 = .ok (.putfield 468, 3) := by decide +kernel
theorem b_306_60_2 : ov_ds ov_m306.2.1 60 [.aload_n 0, .dup] = true := by decide +kernel
theorem d_306_62 : decode ov_m306.2.1 62 = .ok (.getfield 461, 3) := by decide +kernel
theorem b_306_65_2 : ov_ds ov_m306.2.1 65 [.lconst 1, .ladd] = true := by decide +kernel
theorem d_306_67 : decode ov_m306.2.1 67 = .ok (.putfield 461, 3) := by decide +kernel
theorem b_306_25_1 : ov_ds ov_m306.2.1 25 [.iload 4] = true := by decide +kernel
theorem d_306_27 : decode ov_m306.2.1 27 = .ok (.goto 7, 3) := by decide +kernel
theorem b_306_47_1 : ov_ds ov_m306.2.1 47 [.lload_n 2] = true := by decide +kernel
theorem d_306_48 : decode ov_m306.2.1 48 = .ok (.goto 9, 3) := by decide +kernel
theorem b_304_0_3 : ov_ds ov_m304.2.1 0 [.aload_n 0, .iload_n 1, .iload_n 2] = true := by decide +kernel
theorem d_304_3 : decode ov_m304.2.1 3 = .ok (.invokevirtual 335, 3) := by decide +kernel
theorem b_304_6_13 : ov_ds ov_m304.2.1 6 [.istore 8, .lload 5, .lconst 1, .bipush 6, .iload_n 2, .imul, .iload_n 1, .iadd, .lshl, .lor, .lstore 9, .iconst 0, .istore 11] = true := by decide +kernel
theorem b_304_24_2 : ov_ds ov_m304.2.1 24 [.iload 11, .iconst 2] = true := by decide +kernel
theorem d_304_27 : decode ov_m304.2.1 27 = .ok (.if_icmp .lt 14, 3) := by decide +kernel
theorem b_304_41_1 : ov_ds ov_m304.2.1 41 [.iload 8] = true := by decide +kernel
theorem d_304_43 : decode ov_m304.2.1 43 = .ok (.ifCond .eq 12, 3) := by decide +kernel
theorem b_304_55_4 : ov_ds ov_m304.2.1 55 [.aload_n 0, .iload_n 1, .iload_n 2, .iload 11] = true := by decide +kernel
theorem d_304_60 : decode ov_m304.2.1 60 = .ok (.invokevirtual 309, 3) := by decide +kernel
theorem d_304_63 : decode ov_m304.2.1 63 = .ok (.ifCond .eq 95, 3) := by decide +kernel
theorem b_304_158_1 : ov_ds ov_m304.2.1 158 [.iinc 11 1] = true := by decide +kernel
theorem d_304_161 : decode ov_m304.2.1 161 = .ok (.goto (-137), 3) := by decide +kernel
theorem b_304_66_1 : ov_ds ov_m304.2.1 66 [.iload 8] = true := by decide +kernel
theorem d_304_68 : decode ov_m304.2.1 68 = .ok (.ifCond .eq 9, 3) := by decide +kernel
theorem b_304_77_6 : ov_ds ov_m304.2.1 77 [.iload_n 3, .aload_n 0, .iload_n 1, .iload_n 2, .iload 11, .iload_n 3] = true := by decide +kernel
theorem d_304_84 : decode ov_m304.2.1 84 = .ok (.invokevirtual 315, 3) := by decide +kernel
theorem b_304_87_8 : ov_ds ov_m304.2.1 87 [.iadd, .istore 12, .iload 4, .aload_n 0, .iload_n 1, .iload_n 2, .iload_n 3, .iload 12] = true := by decide +kernel
theorem d_304_98 : decode ov_m304.2.1 98 = .ok (.invokevirtual 450, 3) := by decide +kernel
theorem b_304_101_3 : ov_ds ov_m304.2.1 101 [.ior, .istore 13, .iload 8] = true := by decide +kernel
theorem d_304_106 : decode ov_m304.2.1 106 = .ok (.ifCond .eq 16, 3) := by decide +kernel
theorem b_304_122_11 : ov_ds ov_m304.2.1 122 [.aload_n 0, .iload_n 1, .iconst 1, .iadd, .iload 11, .isub, .iload_n 2, .iload 11, .iadd, .iload 12, .aload_n 0] = true := by decide +kernel
theorem d_304_136 : decode ov_m304.2.1 136 = .ok (.getfield 81, 3) := by decide +kernel
theorem b_304_139_1 : ov_ds ov_m304.2.1 139 [.iconst 2] = true := by decide +kernel
theorem d_304_140 : decode ov_m304.2.1 140 = .ok (.iaload, 1) := by decide +kernel
theorem b_304_141_10 : ov_ds ov_m304.2.1 141 [.iadd, .iload 13, .lload 9, .iload 7, .iload 11, .iload_n 1, .iload_n 2, .iadd, .ishl, .ior] = true := by decide +kernel
theorem d_304_155 : decode ov_m304.2.1 155 = .ok (.invokevirtual 457, 3) := by decide +kernel
theorem b_304_46_2 : ov_ds ov_m304.2.1 46 [.iload 11, .iconst 2] = true := by decide +kernel
theorem d_304_49 : decode ov_m304.2.1 49 = .ok (.if_icmp .ne 109, 3) := by decide +kernel
theorem b_304_30_1 : ov_ds ov_m304.2.1 30 [.iload 8] = true := by decide +kernel
theorem d_304_32 : decode ov_m304.2.1 32 = .ok (.ifCond .eq 132, 3) := by decide +kernel
theorem d_304_164 : decode ov_m304.2.1 164 = .ok (.return_, 1) := by decide +kernel
theorem b_304_35_2 : ov_ds ov_m304.2.1 35 [.iload 11, .iconst 3] = true := by decide +kernel
theorem d_304_38 : decode ov_m304.2.1 38 = .ok (.if_icmp .ge 126, 3) := by decide +kernel
theorem d_304_52 : decode ov_m304.2.1 52 = .ok (.goto 14, 3) := by decide +kernel
theorem d_304_71 : decode ov_m304.2.1 71 = .ok (.ldc_w 338, 3) := by decide +kernel
theorem d_304_74 : decode ov_m304.2.1 74 = .ok (.goto 14, 3) := by decide +kernel
theorem b_304_88_7 : ov_ds ov_m304.2.1 88 [.istore 12, .iload 4, .aload_n 0, .iload_n 1, .iload_n 2, .iload_n 3, .iload 12] = true := by decide +kernel
theorem b_304_109_4 : ov_ds ov_m304.2.1 109 [.aload_n 0, .iload 13, .lload 9, .iload 7] = true := by decide +kernel
theorem d_304_116 : decode ov_m304.2.1 116 = .ok (.invokevirtual 453, 3) := by decide +kernel
theorem d_304_119 : decode ov_m304.2.1 119 = .ok (.goto 39, 3) := by decide +kernel
theorem b_303_0_2 : ov_ds ov_m303.2.1 0 [.aload_n 0, .iconst 0] = true := by decide +kernel
theorem d_303_2 : decode ov_m303.2.1 2 = .ok (.putfield 1, 3) := by decide +kernel
theorem b_303_5_3 : ov_ds ov_m303.2.1 5 [.iload_n 1, .iconst 0, .iconst 3] = true := by decide +kernel
theorem d_303_8 : decode ov_m303.2.1 8 = .ok (.invokestatic 299, 3) := by decide +kernel
theorem d_303_11 : decode ov_m303.2.1 11 = .ok (.ifCond .ne 7, 3) := by decide +kernel
theorem b_303_18_2 : ov_ds ov_m303.2.1 18 [.aload_n 0, .lconst 0] = true := by decide +kernel
theorem d_303_20 : decode ov_m303.2.1 20 = .ok (.putfield 461, 3) := by decide +kernel
theorem b_303_23_7 : ov_ds ov_m303.2.1 23 [.aload_n 0, .iconst 0, .iconst 0, .iconst 0, .iconst 0, .lconst 0, .iconst 0] = true := by decide +kernel
theorem d_303_30 : decode ov_m303.2.1 30 = .ok (.invokevirtual 457, 3) := by decide +kernel
theorem b_303_33_1 : ov_ds ov_m303.2.1 33 [.iload_n 1] = true := by decide +kernel
theorem d_303_34 : decode ov_m303.2.1 34 = .ok (.ifCond .eq 12, 3) := by decide +kernel
theorem b_303_46_1 : ov_ds ov_m303.2.1 46 [.iload_n 1] = true := by decide +kernel
theorem d_303_47 : decode ov_m303.2.1 47 = .ok (.ifCond .ne 10, 3) := by decide +kernel
theorem b_303_50_1 : ov_ds ov_m303.2.1 50 [.aload_n 0] = true := by decide +kernel
theorem d_303_51 : decode ov_m303.2.1 51 = .ok (.getfield 461, 3) := by decide +kernel
theorem d_303_54 : decode ov_m303.2.1 54 = .ok (.goto 6, 3) := by decide +kernel
theorem d_303_60 : decode ov_m303.2.1 60 = .ok (.lreturn, 1) := by decide +kernel
theorem b_303_37_1 : ov_ds ov_m303.2.1 37 [.aload_n 0] = true := by decide +kernel
theorem d_303_38 : decode ov_m303.2.1 38 = .ok (.getfield 461, 3) := by decide +kernel
theorem b_303_41_2 : ov_ds ov_m303.2.1 41 [.lconst 0, .lcmp] = true := by decide +kernel
theorem d_303_43 : decode ov_m303.2.1 43 = .ok (.ifCond .ne 18, 3) := by decide +kernel
theorem b_303_61_2 : ov_ds ov_m303.2.1 61 [.iload_n 1, .iconst 1] = true := by decide +kernel
theorem d_303_63 : decode ov_m303.2.1 63 = .ok (.if_icmp .ne 9, 3) := by decide +kernel
theorem b_303_72_4 : ov_ds ov_m303.2.1 72 [.lconst 0, .lstore_n 2, .iconst 0, .istore 4] = true := by decide +kernel
theorem b_303_77_2 : ov_ds ov_m303.2.1 77 [.iload 4, .bipush 54] = true := by decide +kernel
theorem d_303_81 : decode ov_m303.2.1 81 = .ok (.if_icmp .ge 95, 3) := by decide +kernel
theorem b_303_176_1 : ov_ds ov_m303.2.1 176 [.lload_n 2] = true := by decide +kernel
theorem d_303_177 : decode ov_m303.2.1 177 = .ok (.lreturn, 1) := by decide +kernel
theorem b_303_84_1 : ov_ds ov_m303.2.1 84 [.aload_n 0] = true := by decide +kernel
theorem d_303_85 : decode ov_m303.2.1 85 = .ok (.getfield 468, 3) := by decide +kernel
theorem b_303_88_6 : ov_ds ov_m303.2.1 88 [.iload 4, .lshr, .lconst 1, .land, .lconst 1, .lcmp] = true := by decide +kernel
theorem d_303_95 : decode ov_m303.2.1 95 = .ok (.ifCond .ne 35, 3) := by decide +kernel
theorem b_303_130_4 : ov_ds ov_m303.2.1 130 [.iconst 0, .istore 5, .lload_n 2, .iload 5] = true := by decide +kernel
theorem d_303_136 : decode ov_m303.2.1 136 = .ok (.ifCond .eq 31, 3) := by decide +kernel
theorem b_303_167_4 : ov_ds ov_m303.2.1 167 [.lconst 0, .lor, .lstore_n 2, .iinc 4 1] = true := by decide +kernel
theorem d_303_173 : decode ov_m303.2.1 173 = .ok (.goto (-96), 3) := by decide +kernel
theorem b_303_98_2 : ov_ds ov_m303.2.1 98 [.iload 4, .bipush 6] = true := by decide +kernel
theorem d_303_102 : decode ov_m303.2.1 102 = .ok (.idiv, 1) := by decide +kernel
theorem b_303_103_1 : ov_ds ov_m303.2.1 103 [.bipush 8] = true := by decide +kernel
theorem d_303_105 : decode ov_m303.2.1 105 = .ok (.if_icmp .ge 7, 3) := by decide +kernel
theorem b_303_112_3 : ov_ds ov_m303.2.1 112 [.iconst 0, .iload_n 1, .iconst 2] = true := by decide +kernel
theorem d_303_115 : decode ov_m303.2.1 115 = .ok (.if_icmp .ne 7, 3) := by decide +kernel
theorem b_303_122_1 : ov_ds ov_m303.2.1 122 [.iconst 0] = true := by decide +kernel
theorem d_303_123 : decode ov_m303.2.1 123 = .ok (.if_icmp .ne 7, 3) := by decide +kernel
theorem b_303_126_1 : ov_ds ov_m303.2.1 126 [.iconst 1] = true := by decide +kernel
theorem d_303_127 : decode ov_m303.2.1 127 = .ok (.goto 4, 3) := by decide +kernel
theorem b_303_131_3 : ov_ds ov_m303.2.1 131 [.istore 5, .lload_n 2, .iload 5] = true := by decide +kernel
theorem b_303_139_3 : ov_ds ov_m303.2.1 139 [.lconst 1, .iload_n 1, .iconst 2] = true := by decide +kernel
theorem d_303_142 : decode ov_m303.2.1 142 = .ok (.if_icmp .ne 14, 3) := by decide +kernel
theorem b_303_156_3 : ov_ds ov_m303.2.1 156 [.iconst 0, .iload 4, .bipush 6] = true := by decide +kernel
theorem d_303_161 : decode ov_m303.2.1 161 = .ok (.irem, 1) := by decide +kernel
theorem b_303_162_2 : ov_ds ov_m303.2.1 162 [.iadd, .lshl] = true := by decide +kernel
theorem d_303_164 : decode ov_m303.2.1 164 = .ok (.goto 4, 3) := by decide +kernel
theorem b_303_168_3 : ov_ds ov_m303.2.1 168 [.lor, .lstore_n 2, .iinc 4 1] = true := by decide +kernel
theorem b_303_118_1 : ov_ds ov_m303.2.1 118 [.iconst 1] = true := by decide +kernel
theorem d_303_119 : decode ov_m303.2.1 119 = .ok (.goto 4, 3) := by decide +kernel
theorem b_303_108_1 : ov_ds ov_m303.2.1 108 [.iconst 1] = true := by decide +kernel
theorem d_303_109 : decode ov_m303.2.1 109 = .ok (.goto 4, 3) := by decide +kernel
theorem b_303_113_2 : ov_ds ov_m303.2.1 113 [.iload_n 1, .iconst 2] = true := by decide +kernel
theorem b_303_145_3 : ov_ds ov_m303.2.1 145 [.bipush 8, .iload 4, .bipush 6] = true := by decide +kernel
theorem d_303_151 : decode ov_m303.2.1 151 = .ok (.idiv, 1) := by decide +kernel
theorem b_303_152_1 : ov_ds ov_m303.2.1 152 [.imul] = true := by decide +kernel
theorem d_303_153 : decode ov_m303.2.1 153 = .ok (.goto 4, 3) := by decide +kernel
theorem b_303_157_2 : ov_ds ov_m303.2.1 157 [.iload 4, .bipush 6] = true := by decide +kernel
theorem b_303_66_1 : ov_ds ov_m303.2.1 66 [.aload_n 0] = true := by decide +kernel
theorem d_303_67 : decode ov_m303.2.1 67 = .ok (.getfield 465, 3) := by decide +kernel
theorem b_303_70_1 : ov_ds ov_m303.2.1 70 [.i2l] = true := by decide +kernel
theorem d_303_71 : decode ov_m303.2.1 71 = .ok (.lreturn, 1) := by decide +kernel
theorem d_303_57 : decode ov_m303.2.1 57 = .ok (.ldc2_w 433, 3) := by decide +kernel
theorem d_303_14 : decode ov_m303.2.1 14 = .ok (.ldc2_w 433, 3) := by decide +kernel
theorem d_303_17 : decode ov_m303.2.1 17 = .ok (.lreturn, 1) := by decide +kernel

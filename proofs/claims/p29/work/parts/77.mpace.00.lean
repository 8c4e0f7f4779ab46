theorem b_293_0_2 : ov_ds ov_m293.2.1 0 [.aload_n 0, .iload_n 1] = true := by decide +kernel
theorem d_293_2 : decode ov_m293.2.1 2 = .ok (.invokevirtual 423, 3) := by decide +kernel
theorem b_293_5_6 : ov_ds ov_m293.2.1 5 [.istore 5, .iload_n 1, .iload 5, .isub, .istore 6, .aload_n 0] = true := by decide +kernel
theorem d_293_14 : decode ov_m293.2.1 14 = .ok (.getfield 93, 3) := by decide +kernel
theorem b_293_17_5 : ov_ds ov_m293.2.1 17 [.iconst 1, .iconst 2, .iload_n 1, .imul, .iadd] = true := by decide +kernel
theorem d_293_22 : decode ov_m293.2.1 22 = .ok (.iaload, 1) := by decide +kernel
theorem b_293_23_3 : ov_ds ov_m293.2.1 23 [.istore 7, .iload 4, .aload_n 0] = true := by decide +kernel
theorem d_293_28 : decode ov_m293.2.1 28 = .ok (.getfield 81, 3) := by decide +kernel
theorem b_293_31_1 : ov_ds ov_m293.2.1 31 [.iconst 2] = true := by decide +kernel
theorem d_293_32 : decode ov_m293.2.1 32 = .ok (.iaload, 1) := by decide +kernel
theorem d_293_33 : decode ov_m293.2.1 33 = .ok (.if_icmp .ge 7, 3) := by decide +kernel
theorem b_293_40_6 : ov_ds ov_m293.2.1 40 [.iconst 0, .istore 8, .aload_n 0, .iload 5, .iload 6, .iload 7] = true := by decide +kernel
theorem d_293_50 : decode ov_m293.2.1 50 = .ok (.invokevirtual 309, 3) := by decide +kernel
theorem d_293_53 : decode ov_m293.2.1 53 = .ok (.ifCond .eq 12, 3) := by decide +kernel
theorem d_293_65 : decode ov_m293.2.1 65 = .ok (.ldc_w 338, 3) := by decide +kernel
theorem d_293_68 : decode ov_m293.2.1 68 = .ok (.ireturn, 1) := by decide +kernel
theorem b_293_56_1 : ov_ds ov_m293.2.1 56 [.iload 8] = true := by decide +kernel
theorem d_293_58 : decode ov_m293.2.1 58 = .ok (.ifCond .eq 11, 3) := by decide +kernel
theorem b_293_69_5 : ov_ds ov_m293.2.1 69 [.aload_n 0, .iload 5, .iload 6, .iload 7, .aload_n 0] = true := by decide +kernel
theorem d_293_77 : decode ov_m293.2.1 77 = .ok (.getfield 426, 3) := by decide +kernel
theorem b_293_80_2 : ov_ds ov_m293.2.1 80 [.iload_n 2, .iadd] = true := by decide +kernel
theorem d_293_82 : decode ov_m293.2.1 82 = .ok (.invokevirtual 315, 3) := by decide +kernel
theorem b_293_85_11 : ov_ds ov_m293.2.1 85 [.istore 9, .aload_n 0, .iload_n 1, .iconst 1, .iadd, .iload_n 2, .iload 9, .iadd, .iload 4, .iadd, .iload 8] = true := by decide +kernel
theorem d_293_100 : decode ov_m293.2.1 100 = .ok (.ifCond .eq 9, 3) := by decide +kernel
theorem b_293_109_1 : ov_ds ov_m293.2.1 109 [.iload_n 3] = true := by decide +kernel
theorem d_293_110 : decode ov_m293.2.1 110 = .ok (.invokevirtual 429, 3) := by decide +kernel
theorem b_293_113_2 : ov_ds ov_m293.2.1 113 [.istore 10, .iload 10] = true := by decide +kernel
theorem d_293_117 : decode ov_m293.2.1 117 = .ok (.ldc_w 338, 3) := by decide +kernel
theorem d_293_120 : decode ov_m293.2.1 120 = .ok (.if_icmp .eq 8, 3) := by decide +kernel
theorem b_293_128_1 : ov_ds ov_m293.2.1 128 [.iload 10] = true := by decide +kernel
theorem d_293_130 : decode ov_m293.2.1 130 = .ok (.goto 9, 3) := by decide +kernel
theorem d_293_139 : decode ov_m293.2.1 139 = .ok (.ireturn, 1) := by decide +kernel
theorem b_293_123_1 : ov_ds ov_m293.2.1 123 [.iload 9] = true := by decide +kernel
theorem d_293_125 : decode ov_m293.2.1 125 = .ok (.ifCond .ne 8, 3) := by decide +kernel
theorem b_293_133_1 : ov_ds ov_m293.2.1 133 [.iload 10] = true := by decide +kernel
theorem d_293_135 : decode ov_m293.2.1 135 = .ok (.ldc_w 432, 3) := by decide +kernel
theorem b_293_138_1 : ov_ds ov_m293.2.1 138 [.iadd] = true := by decide +kernel
theorem b_293_36_1 : ov_ds ov_m293.2.1 36 [.iconst 1] = true := by decide +kernel
theorem d_293_37 : decode ov_m293.2.1 37 = .ok (.goto 4, 3) := by decide +kernel
theorem b_293_41_5 : ov_ds ov_m293.2.1 41 [.istore 8, .aload_n 0, .iload 5, .iload 6, .iload 7] = true := by decide +kernel
theorem b_293_61_1 : ov_ds ov_m293.2.1 61 [.iload_n 3] = true := by decide +kernel
theorem d_293_62 : decode ov_m293.2.1 62 = .ok (.ifCond .ne 7, 3) := by decide +kernel
theorem b_293_103_3 : ov_ds ov_m293.2.1 103 [.iload_n 3, .iconst 1, .isub] = true := by decide +kernel
theorem d_293_106 : decode ov_m293.2.1 106 = .ok (.goto 4, 3) := by decide +kernel
theorem b_289_0_2 : ov_ds ov_m289.2.1 0 [.iload_n 1, .aload_n 0] = true := by decide +kernel
theorem d_289_2 : decode ov_m289.2.1 2 = .ok (.getfield 93, 3) := by decide +kernel
theorem b_289_5_1 : ov_ds ov_m289.2.1 5 [.iconst 0] = true := by decide +kernel
theorem d_289_6 : decode ov_m289.2.1 6 = .ok (.iaload, 1) := by decide +kernel
theorem d_289_7 : decode ov_m289.2.1 7 = .ok (.if_icmp .ne 7, 3) := by decide +kernel
theorem b_289_14_11 : ov_ds ov_m289.2.1 14 [.iload_n 1, .sipush 1200, .imul, .iload_n 2, .iadd, .bipush 10, .imul, .iload_n 3, .iadd, .istore 4, .aload_n 0] = true := by decide +kernel
theorem d_289_29 : decode ov_m289.2.1 29 = .ok (.getfield 129, 3) := by decide +kernel
theorem b_289_32_1 : ov_ds ov_m289.2.1 32 [.iload 4] = true := by decide +kernel
theorem d_289_34 : decode ov_m289.2.1 34 = .ok (.iaload, 1) := by decide +kernel
theorem d_289_35 : decode ov_m289.2.1 35 = .ok (.ifCond .ne 65, 3) := by decide +kernel
theorem b_289_100_1 : ov_ds ov_m289.2.1 100 [.aload_n 0] = true := by decide +kernel
theorem d_289_101 : decode ov_m289.2.1 101 = .ok (.getfield 129, 3) := by decide +kernel
theorem b_289_104_1 : ov_ds ov_m289.2.1 104 [.iload 4] = true := by decide +kernel
theorem d_289_106 : decode ov_m289.2.1 106 = .ok (.iaload, 1) := by decide +kernel
theorem d_289_107 : decode ov_m289.2.1 107 = .ok (.ireturn, 1) := by decide +kernel
theorem d_289_38 : decode ov_m289.2.1 38 = .ok (.ldc_w 338, 3) := by decide +kernel
theorem b_289_41_2 : ov_ds ov_m289.2.1 41 [.istore 5, .aload_n 0] = true := by decide +kernel
theorem d_289_44 : decode ov_m289.2.1 44 = .ok (.invokevirtual 414, 3) := by decide +kernel
theorem b_289_47_1 : ov_ds ov_m289.2.1 47 [.istore 6] = true := by decide +kernel
theorem b_289_49_2 : ov_ds ov_m289.2.1 49 [.iload 6, .aload_n 0] = true := by decide +kernel
theorem d_289_52 : decode ov_m289.2.1 52 = .ok (.invokevirtual 417, 3) := by decide +kernel
theorem d_289_55 : decode ov_m289.2.1 55 = .ok (.if_icmp .gt 36, 3) := by decide +kernel
theorem b_289_91_1 : ov_ds ov_m289.2.1 91 [.aload_n 0] = true := by decide +kernel
theorem d_289_92 : decode ov_m289.2.1 92 = .ok (.getfield 129, 3) := by decide +kernel
theorem b_289_95_2 : ov_ds ov_m289.2.1 95 [.iload 4, .iload 5] = true := by decide +kernel
theorem d_289_99 : decode ov_m289.2.1 99 = .ok (.iastore, 1) := by decide +kernel
theorem b_289_58_5 : ov_ds ov_m289.2.1 58 [.aload_n 0, .iload_n 1, .iload_n 2, .iload_n 3, .iload 6] = true := by decide +kernel
theorem d_289_64 : decode ov_m289.2.1 64 = .ok (.invokevirtual 420, 3) := by decide +kernel
theorem b_289_67_3 : ov_ds ov_m289.2.1 67 [.istore 7, .iload 7, .iload 5] = true := by decide +kernel
theorem d_289_73 : decode ov_m289.2.1 73 = .ok (.if_icmp .ge 8, 3) := by decide +kernel
theorem b_289_81_3 : ov_ds ov_m289.2.1 81 [.iload 5, .istore 5, .iinc 6 1] = true := by decide +kernel
theorem d_289_88 : decode ov_m289.2.1 88 = .ok (.goto (-39), 3) := by decide +kernel
theorem b_289_76_1 : ov_ds ov_m289.2.1 76 [.iload 7] = true := by decide +kernel
theorem d_289_78 : decode ov_m289.2.1 78 = .ok (.goto 5, 3) := by decide +kernel
theorem b_289_83_2 : ov_ds ov_m289.2.1 83 [.istore 5, .iinc 6 1] = true := by decide +kernel
theorem b_289_10_3 : ov_ds ov_m289.2.1 10 [.iconst 1, .iload_n 2, .iadd] = true := by decide +kernel
theorem d_289_13 : decode ov_m289.2.1 13 = .ok (.ireturn, 1) := by decide +kernel
theorem b_288_0_2 : ov_ds ov_m288.2.1 0 [.aload_n 0, .iconst 0] = true := by decide +kernel
theorem d_288_2 : decode ov_m288.2.1 2 = .ok (.putfield 1, 3) := by decide +kernel
theorem b_288_5_2 : ov_ds ov_m288.2.1 5 [.aload_n 0, .iload_n 1] = true := by decide +kernel
theorem d_288_7 : decode ov_m288.2.1 7 = .ok (.invokevirtual 306, 3) := by decide +kernel
theorem d_288_10 : decode ov_m288.2.1 10 = .ok (.ifCond .eq 28, 3) := by decide +kernel
theorem b_288_38_1 : ov_ds ov_m288.2.1 38 [.iconst (-1)] = true := by decide +kernel
theorem d_288_39 : decode ov_m288.2.1 39 = .ok (.ireturn, 1) := by decide +kernel
theorem b_288_13_4 : ov_ds ov_m288.2.1 13 [.iload_n 2, .iconst 0, .iconst 1, .aload_n 0] = true := by decide +kernel
theorem d_288_17 : decode ov_m288.2.1 17 = .ok (.getfield 93, 3) := by decide +kernel
theorem b_288_20_1 : ov_ds ov_m288.2.1 20 [.iconst 0] = true := by decide +kernel
theorem d_288_21 : decode ov_m288.2.1 21 = .ok (.iaload, 1) := by decide +kernel
theorem b_288_22_1 : ov_ds ov_m288.2.1 22 [.iadd] = true := by decide +kernel
theorem d_288_23 : decode ov_m288.2.1 23 = .ok (.invokestatic 299, 3) := by decide +kernel
theorem d_288_26 : decode ov_m288.2.1 26 = .ok (.ifCond .eq 12, 3) := by decide +kernel
theorem b_288_29_1 : ov_ds ov_m288.2.1 29 [.aload_n 0] = true := by decide +kernel
theorem d_288_30 : decode ov_m288.2.1 30 = .ok (.getfield 93, 3) := by decide +kernel
theorem b_288_33_1 : ov_ds ov_m288.2.1 33 [.iconst 0] = true := by decide +kernel
theorem d_288_34 : decode ov_m288.2.1 34 = .ok (.iaload, 1) := by decide +kernel
theorem d_288_35 : decode ov_m288.2.1 35 = .ok (.ifCond .ne 5, 3) := by decide +kernel
theorem b_288_40_2 : ov_ds ov_m288.2.1 40 [.iconst 0, .istore_n 3] = true := by decide +kernel
theorem b_288_42_1 : ov_ds ov_m288.2.1 42 [.iload_n 3] = true := by decide +kernel
theorem d_288_43 : decode ov_m288.2.1 43 = .ok (.ldc 128, 2) := by decide +kernel
theorem d_288_45 : decode ov_m288.2.1 45 = .ok (.if_icmp .ge 16, 3) := by decide +kernel
theorem b_288_61_2 : ov_ds ov_m288.2.1 61 [.aload_n 0, .iload_n 1] = true := by decide +kernel
theorem d_288_63 : decode ov_m288.2.1 63 = .ok (.putfield 426, 3) := by decide +kernel
theorem b_288_66_1 : ov_ds ov_m288.2.1 66 [.aload_n 0] = true := by decide +kernel
theorem d_288_67 : decode ov_m288.2.1 67 = .ok (.getfield 81, 3) := by decide +kernel
theorem b_288_70_1 : ov_ds ov_m288.2.1 70 [.bipush 6] = true := by decide +kernel
theorem d_288_72 : decode ov_m288.2.1 72 = .ok (.iaload, 1) := by decide +kernel
theorem b_288_73_1 : ov_ds ov_m288.2.1 73 [.iconst 1] = true := by decide +kernel
theorem d_288_74 : decode ov_m288.2.1 74 = .ok (.if_icmp .ne 7, 3) := by decide +kernel
theorem b_288_81_1 : ov_ds ov_m288.2.1 81 [.aload_n 0] = true := by decide +kernel
theorem d_288_82 : decode ov_m288.2.1 82 = .ok (.getfield 81, 3) := by decide +kernel
theorem b_288_85_1 : ov_ds ov_m288.2.1 85 [.iconst 5] = true := by decide +kernel
theorem d_288_86 : decode ov_m288.2.1 86 = .ok (.iaload, 1) := by decide +kernel
theorem b_288_87_5 : ov_ds ov_m288.2.1 87 [.istore_n 3, .aload_n 0, .iconst 0, .iconst 0, .iload_n 3] = true := by decide +kernel
theorem d_288_92 : decode ov_m288.2.1 92 = .ok (.invokevirtual 429, 3) := by decide +kernel
theorem b_288_95_2 : ov_ds ov_m288.2.1 95 [.istore 4, .iload 4] = true := by decide +kernel
theorem d_288_99 : decode ov_m288.2.1 99 = .ok (.ldc_w 338, 3) := by decide +kernel
theorem d_288_102 : decode ov_m288.2.1 102 = .ok (.if_icmp .eq 8, 3) := by decide +kernel
theorem b_288_110_1 : ov_ds ov_m288.2.1 110 [.iload 4] = true := by decide +kernel
theorem d_288_112 : decode ov_m288.2.1 112 = .ok (.ldc_w 338, 3) := by decide +kernel
theorem d_288_115 : decode ov_m288.2.1 115 = .ok (.if_icmp .ne 7, 3) := by decide +kernel
theorem b_288_118_1 : ov_ds ov_m288.2.1 118 [.iconst (-1)] = true := by decide +kernel
theorem d_288_119 : decode ov_m288.2.1 119 = .ok (.goto 26, 3) := by decide +kernel
theorem d_288_145 : decode ov_m288.2.1 145 = .ok (.ireturn, 1) := by decide +kernel
theorem b_288_105_2 : ov_ds ov_m288.2.1 105 [.iload_n 2, .iconst 2] = true := by decide +kernel
theorem d_288_107 : decode ov_m288.2.1 107 = .ok (.if_icmp .ge 39, 3) := by decide +kernel
theorem b_288_146_6 : ov_ds ov_m288.2.1 146 [.iconst 0, .istore 5, .iconst 0, .istore 6, .iconst 0, .istore 7] = true := by decide +kernel
theorem b_288_155_4 : ov_ds ov_m288.2.1 155 [.iload 7, .iload_n 2, .iconst 2, .isub] = true := by decide +kernel
theorem d_288_160 : decode ov_m288.2.1 160 = .ok (.if_icmp .gt 105, 3) := by decide +kernel
theorem b_288_265_1 : ov_ds ov_m288.2.1 265 [.iload 6] = true := by decide +kernel
theorem d_288_267 : decode ov_m288.2.1 267 = .ok (.ireturn, 1) := by decide +kernel
theorem b_288_163_1 : ov_ds ov_m288.2.1 163 [.aload_n 0] = true := by decide +kernel
theorem d_288_164 : decode ov_m288.2.1 164 = .ok (.invokevirtual 414, 3) := by decide +kernel
theorem b_288_167_1 : ov_ds ov_m288.2.1 167 [.istore 6] = true := by decide +kernel
theorem b_288_169_1 : ov_ds ov_m288.2.1 169 [.aload_n 0] = true := by decide +kernel
theorem b_288_170_4 : ov_ds ov_m288.2.1 170 [.iload 7, .iload 5, .iload_n 3, .iload 6] = true := by decide +kernel
theorem d_288_177 : decode ov_m288.2.1 177 = .ok (.invokevirtual 420, 3) := by decide +kernel
theorem b_288_180_4 : ov_ds ov_m288.2.1 180 [.aload_n 0, .iload 7, .iload 5, .iload_n 3] = true := by decide +kernel
theorem d_288_186 : decode ov_m288.2.1 186 = .ok (.invokevirtual 429, 3) := by decide +kernel
theorem d_288_189 : decode ov_m288.2.1 189 = .ok (.if_icmp .eq 9, 3) := by decide +kernel
theorem b_288_198_2 : ov_ds ov_m288.2.1 198 [.aload_n 0, .iload 7] = true := by decide +kernel
theorem d_288_201 : decode ov_m288.2.1 201 = .ok (.invokevirtual 423, 3) := by decide +kernel
theorem b_288_204_8 : ov_ds ov_m288.2.1 204 [.istore 8, .iload 5, .aload_n 0, .iload 8, .iload 7, .iload 8, .isub, .aload_n 0] = true := by decide +kernel
theorem d_288_217 : decode ov_m288.2.1 217 = .ok (.getfield 93, 3) := by decide +kernel
theorem b_288_220_5 : ov_ds ov_m288.2.1 220 [.iconst 1, .iconst 2, .iload 7, .imul, .iadd] = true := by decide +kernel
theorem d_288_226 : decode ov_m288.2.1 226 = .ok (.iaload, 1) := by decide +kernel
theorem b_288_227_3 : ov_ds ov_m288.2.1 227 [.iload_n 1, .iload 5, .iadd] = true := by decide +kernel
theorem d_288_231 : decode ov_m288.2.1 231 = .ok (.invokevirtual 315, 3) := by decide +kernel
theorem b_288_234_7 : ov_ds ov_m288.2.1 234 [.iload 6, .iadd, .iadd, .istore 5, .iload_n 3, .iload 6, .aload_n 0] = true := by decide +kernel
theorem d_288_244 : decode ov_m288.2.1 244 = .ok (.getfield 81, 3) := by decide +kernel
theorem b_288_247_1 : ov_ds ov_m288.2.1 247 [.iconst 2] = true := by decide +kernel
theorem d_288_248 : decode ov_m288.2.1 248 = .ok (.iaload, 1) := by decide +kernel
theorem d_288_249 : decode ov_m288.2.1 249 = .ok (.if_icmp .ge 7, 3) := by decide +kernel
theorem b_288_256_2 : ov_ds ov_m288.2.1 256 [.iconst 0, .isub] = true := by decide +kernel
theorem b_288_258_2 : ov_ds ov_m288.2.1 258 [.istore_n 3, .iinc 7 1] = true := by decide +kernel
theorem d_288_262 : decode ov_m288.2.1 262 = .ok (.goto (-107), 3) := by decide +kernel
theorem b_288_252_1 : ov_ds ov_m288.2.1 252 [.iconst 1] = true := by decide +kernel
theorem d_288_253 : decode ov_m288.2.1 253 = .ok (.goto 4, 3) := by decide +kernel
theorem b_288_257_1 : ov_ds ov_m288.2.1 257 [.isub] = true := by decide +kernel
theorem b_288_192_1 : ov_ds ov_m288.2.1 192 [.iinc 6 1] = true := by decide +kernel
theorem d_288_195 : decode ov_m288.2.1 195 = .ok (.goto (-26), 3) := by decide +kernel
theorem b_288_122_1 : ov_ds ov_m288.2.1 122 [.iload_n 2] = true := by decide +kernel
theorem d_288_123 : decode ov_m288.2.1 123 = .ok (.ifCond .ne 12, 3) := by decide +kernel
theorem b_288_135_2 : ov_ds ov_m288.2.1 135 [.iload_n 1, .iload 4] = true := by decide +kernel
theorem d_288_138 : decode ov_m288.2.1 138 = .ok (.ldc_w 432, 3) := by decide +kernel
theorem d_288_141 : decode ov_m288.2.1 141 = .ok (.irem, 1) := by decide +kernel
theorem b_288_142_3 : ov_ds ov_m288.2.1 142 [.iadd, .iconst 1, .isub] = true := by decide +kernel
theorem b_288_126_1 : ov_ds ov_m288.2.1 126 [.iload 4] = true := by decide +kernel
theorem d_288_128 : decode ov_m288.2.1 128 = .ok (.ldc_w 432, 3) := by decide +kernel
theorem d_288_131 : decode ov_m288.2.1 131 = .ok (.idiv, 1) := by decide +kernel
theorem d_288_132 : decode ov_m288.2.1 132 = .ok (.goto 13, 3) := by decide +kernel
theorem b_288_77_1 : ov_ds ov_m288.2.1 77 [.iconst 0] = true := by decide +kernel
theorem d_288_78 : decode ov_m288.2.1 78 = .ok (.goto 9, 3) := by decide +kernel
theorem b_288_48_1 : ov_ds ov_m288.2.1 48 [.aload_n 0] = true := by decide +kernel
theorem d_288_49 : decode ov_m288.2.1 49 = .ok (.getfield 129, 3) := by decide +kernel
theorem b_288_52_2 : ov_ds ov_m288.2.1 52 [.iload_n 3, .iconst 0] = true := by decide +kernel
theorem d_288_54 : decode ov_m288.2.1 54 = .ok (.iastore, 1) := by decide +kernel
theorem b_288_55_1 : ov_ds ov_m288.2.1 55 [.iinc 3 1] = true := by decide +kernel
theorem d_288_58 : decode ov_m288.2.1 58 = .ok (.goto (-16), 3) := by decide +kernel

theorem b_277_0_5 : ov_ds ov_m277.2.1 0 [.aload_n 0, .iload_n 1, .iload_n 2, .iload_n 3, .iload 5] = true := by decide +kernel
theorem d_277_6 : decode ov_m277.2.1 6 = .ok (.invokevirtual 315, 3) := by decide +kernel
theorem b_277_9_1 : ov_ds ov_m277.2.1 9 [.aload_n 0] = true := by decide +kernel
theorem d_277_10 : decode ov_m277.2.1 10 = .ok (.getfield 81, 3) := by decide +kernel
theorem b_277_13_1 : ov_ds ov_m277.2.1 13 [.iconst 2] = true := by decide +kernel
theorem d_277_14 : decode ov_m277.2.1 14 = .ok (.iaload, 1) := by decide +kernel
theorem b_277_15_14 : ov_ds ov_m277.2.1 15 [.iadd, .istore 6, .aload_n 0, .iload_n 1, .iconst 1, .iadd, .iload_n 3, .isub, .iload_n 2, .iload_n 3, .iadd, .iload 4, .iload 6, .iadd] = true := by decide +kernel
theorem d_277_32 : decode ov_m277.2.1 32 = .ok (.invokevirtual 377, 3) := by decide +kernel
theorem b_277_35_2 : ov_ds ov_m277.2.1 35 [.istore 7, .iload 7] = true := by decide +kernel
theorem d_277_39 : decode ov_m277.2.1 39 = .ok (.ifCond .ge 7, 3) := by decide +kernel
theorem b_277_46_2 : ov_ds ov_m277.2.1 46 [.iload 7, .aload_n 0] = true := by decide +kernel
theorem d_277_49 : decode ov_m277.2.1 49 = .ok (.getfield 349, 3) := by decide +kernel
theorem d_277_52 : decode ov_m277.2.1 52 = .ok (.ifCond .eq 8, 3) := by decide +kernel
theorem b_277_60_4 : ov_ds ov_m277.2.1 60 [.sipush 1000, .iload 6, .imul, .iadd] = true := by decide +kernel
theorem d_277_67 : decode ov_m277.2.1 67 = .ok (.ireturn, 1) := by decide +kernel
theorem b_277_55_1 : ov_ds ov_m277.2.1 55 [.iload 6] = true := by decide +kernel
theorem d_277_57 : decode ov_m277.2.1 57 = .ok (.goto 9, 3) := by decide +kernel
theorem b_277_66_1 : ov_ds ov_m277.2.1 66 [.iadd] = true := by decide +kernel
theorem b_277_42_1 : ov_ds ov_m277.2.1 42 [.iconst (-1)] = true := by decide +kernel
theorem d_277_43 : decode ov_m277.2.1 43 = .ok (.goto 24, 3) := by decide +kernel
theorem b_276_0_4 : ov_ds ov_m276.2.1 0 [.aload_n 0, .iload_n 1, .iload_n 2, .iconst 0] = true := by decide +kernel
theorem d_276_4 : decode ov_m276.2.1 4 = .ok (.invokevirtual 309, 3) := by decide +kernel
theorem b_276_7_5 : ov_ds ov_m276.2.1 7 [.istore 5, .aload_n 0, .iload_n 1, .iload_n 2, .iconst 1] = true := by decide +kernel
theorem d_276_13 : decode ov_m276.2.1 13 = .ok (.invokevirtual 309, 3) := by decide +kernel
theorem b_276_16_2 : ov_ds ov_m276.2.1 16 [.istore 6, .aload_n 0] = true := by decide +kernel
theorem d_276_19 : decode ov_m276.2.1 19 = .ok (.getfield 116, 3) := by decide +kernel
theorem b_276_22_1 : ov_ds ov_m276.2.1 22 [.iconst 3] = true := by decide +kernel
theorem d_276_23 : decode ov_m276.2.1 23 = .ok (.if_icmp .ne 77, 3) := by decide +kernel
theorem b_276_100_1 : ov_ds ov_m276.2.1 100 [.iload 5] = true := by decide +kernel
theorem d_276_102 : decode ov_m276.2.1 102 = .ok (.ifCond .eq 8, 3) := by decide +kernel
theorem b_276_110_1 : ov_ds ov_m276.2.1 110 [.iload 5] = true := by decide +kernel
theorem d_276_112 : decode ov_m276.2.1 112 = .ok (.ifCond .eq 7, 3) := by decide +kernel
theorem b_276_119_1 : ov_ds ov_m276.2.1 119 [.iload 6] = true := by decide +kernel
theorem d_276_121 : decode ov_m276.2.1 121 = .ok (.ifCond .eq 7, 3) := by decide +kernel
theorem b_276_128_1 : ov_ds ov_m276.2.1 128 [.iconst (-1)] = true := by decide +kernel
theorem d_276_129 : decode ov_m276.2.1 129 = .ok (.ireturn, 1) := by decide +kernel
theorem b_276_124_1 : ov_ds ov_m276.2.1 124 [.iconst 1] = true := by decide +kernel
theorem d_276_125 : decode ov_m276.2.1 125 = .ok (.goto 4, 3) := by decide +kernel
theorem b_276_105_1 : ov_ds ov_m276.2.1 105 [.iload 6] = true := by decide +kernel
theorem d_276_107 : decode ov_m276.2.1 107 = .ok (.ifCond .ne 23, 3) := by decide +kernel
theorem b_276_130_5 : ov_ds ov_m276.2.1 130 [.aload_n 0, .iload_n 1, .iload_n 2, .iconst 0, .iload 4] = true := by decide +kernel
theorem d_276_136 : decode ov_m276.2.1 136 = .ok (.invokevirtual 315, 3) := by decide +kernel
theorem b_276_139_6 : ov_ds ov_m276.2.1 139 [.istore 7, .aload_n 0, .iload_n 1, .iload_n 2, .iconst 1, .iload 4] = true := by decide +kernel
theorem d_276_147 : decode ov_m276.2.1 147 = .ok (.invokevirtual 315, 3) := by decide +kernel
theorem b_276_150_2 : ov_ds ov_m276.2.1 150 [.istore 8, .aload_n 0] = true := by decide +kernel
theorem d_276_153 : decode ov_m276.2.1 153 = .ok (.getfield 116, 3) := by decide +kernel
theorem b_276_156_1 : ov_ds ov_m276.2.1 156 [.iconst 3] = true := by decide +kernel
theorem d_276_157 : decode ov_m276.2.1 157 = .ok (.if_icmp .ge 31, 3) := by decide +kernel
theorem b_276_188_1 : ov_ds ov_m276.2.1 188 [.aload_n 0] = true := by decide +kernel
theorem d_276_189 : decode ov_m276.2.1 189 = .ok (.getfield 96, 3) := by decide +kernel
theorem b_276_192_2 : ov_ds ov_m276.2.1 192 [.iconst 0, .iload 7] = true := by decide +kernel
theorem d_276_195 : decode ov_m276.2.1 195 = .ok (.iastore, 1) := by decide +kernel
theorem b_276_196_1 : ov_ds ov_m276.2.1 196 [.aload_n 0] = true := by decide +kernel
theorem d_276_197 : decode ov_m276.2.1 197 = .ok (.getfield 96, 3) := by decide +kernel
theorem b_276_200_2 : ov_ds ov_m276.2.1 200 [.iconst 1, .iload 8] = true := by decide +kernel
theorem d_276_203 : decode ov_m276.2.1 203 = .ok (.iastore, 1) := by decide +kernel
theorem b_276_204_1 : ov_ds ov_m276.2.1 204 [.aload_n 0] = true := by decide +kernel
theorem d_276_205 : decode ov_m276.2.1 205 = .ok (.getfield 96, 3) := by decide +kernel
theorem b_276_208_2 : ov_ds ov_m276.2.1 208 [.iconst 2, .aload_n 0] = true := by decide +kernel
theorem d_276_210 : decode ov_m276.2.1 210 = .ok (.invokevirtual 275, 3) := by decide +kernel
theorem b_276_213_4 : ov_ds ov_m276.2.1 213 [.iconst 1, .isub, .iload_n 1, .isub] = true := by decide +kernel
theorem d_276_217 : decode ov_m276.2.1 217 = .ok (.iastore, 1) := by decide +kernel
theorem b_276_218_1 : ov_ds ov_m276.2.1 218 [.aload_n 0] = true := by decide +kernel
theorem d_276_219 : decode ov_m276.2.1 219 = .ok (.getfield 96, 3) := by decide +kernel
theorem b_276_222_2 : ov_ds ov_m276.2.1 222 [.iconst 3, .aload_n 0] = true := by decide +kernel
theorem d_276_224 : decode ov_m276.2.1 224 = .ok (.invokevirtual 279, 3) := by decide +kernel
theorem b_276_227_4 : ov_ds ov_m276.2.1 227 [.iconst 1, .isub, .iload_n 2, .isub] = true := by decide +kernel
theorem d_276_231 : decode ov_m276.2.1 231 = .ok (.iastore, 1) := by decide +kernel
theorem b_276_232_2 : ov_ds ov_m276.2.1 232 [.aload_n 0, .aload_n 0] = true := by decide +kernel
theorem d_276_234 : decode ov_m276.2.1 234 = .ok (.getfield 81, 3) := by decide +kernel
theorem b_276_237_2 : ov_ds ov_m276.2.1 237 [.sipush 280, .aload_n 0] = true := by decide +kernel
theorem d_276_241 : decode ov_m276.2.1 241 = .ok (.getfield 116, 3) := by decide +kernel
theorem b_276_244_3 : ov_ds ov_m276.2.1 244 [.iadd, .iconst 4, .isub] = true := by decide +kernel
theorem d_276_247 : decode ov_m276.2.1 247 = .ok (.iaload, 1) := by decide +kernel
theorem d_276_248 : decode ov_m276.2.1 248 = .ok (.invokevirtual 380, 3) := by decide +kernel
theorem d_276_251 : decode ov_m276.2.1 251 = .ok (.ifCond .eq 7, 3) := by decide +kernel
theorem b_276_258_1 : ov_ds ov_m276.2.1 258 [.iconst 1] = true := by decide +kernel
theorem d_276_259 : decode ov_m276.2.1 259 = .ok (.ireturn, 1) := by decide +kernel
theorem b_276_254_1 : ov_ds ov_m276.2.1 254 [.iconst 0] = true := by decide +kernel
theorem d_276_255 : decode ov_m276.2.1 255 = .ok (.goto 4, 3) := by decide +kernel
theorem b_276_160_1 : ov_ds ov_m276.2.1 160 [.aload_n 0] = true := by decide +kernel
theorem d_276_161 : decode ov_m276.2.1 161 = .ok (.getfield 116, 3) := by decide +kernel
theorem b_276_164_1 : ov_ds ov_m276.2.1 164 [.iconst 2] = true := by decide +kernel
theorem d_276_165 : decode ov_m276.2.1 165 = .ok (.if_icmp .ge 10, 3) := by decide +kernel
theorem b_276_175_2 : ov_ds ov_m276.2.1 175 [.iload 7, .iload 8] = true := by decide +kernel
theorem d_276_179 : decode ov_m276.2.1 179 = .ok (.if_icmp .gt 7, 3) := by decide +kernel
theorem b_276_186_1 : ov_ds ov_m276.2.1 186 [.iconst 1] = true := by decide +kernel
theorem d_276_187 : decode ov_m276.2.1 187 = .ok (.ireturn, 1) := by decide +kernel
theorem b_276_182_1 : ov_ds ov_m276.2.1 182 [.iconst 0] = true := by decide +kernel
theorem d_276_183 : decode ov_m276.2.1 183 = .ok (.goto 4, 3) := by decide +kernel
theorem b_276_168_1 : ov_ds ov_m276.2.1 168 [.aload_n 0] = true := by decide +kernel
theorem d_276_169 : decode ov_m276.2.1 169 = .ok (.getfield 116, 3) := by decide +kernel
theorem d_276_172 : decode ov_m276.2.1 172 = .ok (.goto 15, 3) := by decide +kernel
theorem b_276_115_1 : ov_ds ov_m276.2.1 115 [.iconst 0] = true := by decide +kernel
theorem d_276_116 : decode ov_m276.2.1 116 = .ok (.goto 13, 3) := by decide +kernel
theorem b_276_26_1 : ov_ds ov_m276.2.1 26 [.iload 5] = true := by decide +kernel
theorem d_276_28 : decode ov_m276.2.1 28 = .ok (.ifCond .eq 16, 3) := by decide +kernel
theorem b_276_44_1 : ov_ds ov_m276.2.1 44 [.iconst (-1)] = true := by decide +kernel
theorem b_276_45_2 : ov_ds ov_m276.2.1 45 [.istore 7, .iload 6] = true := by decide +kernel
theorem d_276_49 : decode ov_m276.2.1 49 = .ok (.ifCond .eq 16, 3) := by decide +kernel
theorem b_276_65_1 : ov_ds ov_m276.2.1 65 [.iconst (-1)] = true := by decide +kernel
theorem b_276_66_2 : ov_ds ov_m276.2.1 66 [.istore 8, .iload 7] = true := by decide +kernel
theorem d_276_70 : decode ov_m276.2.1 70 = .ok (.ifCond .lt 19, 3) := by decide +kernel
theorem b_276_89_1 : ov_ds ov_m276.2.1 89 [.iload 8] = true := by decide +kernel
theorem d_276_91 : decode ov_m276.2.1 91 = .ok (.ifCond .lt 7, 3) := by decide +kernel
theorem b_276_98_1 : ov_ds ov_m276.2.1 98 [.iconst (-1)] = true := by decide +kernel
theorem d_276_99 : decode ov_m276.2.1 99 = .ok (.ireturn, 1) := by decide +kernel
theorem b_276_52_6 : ov_ds ov_m276.2.1 52 [.aload_n 0, .iload_n 1, .iload_n 2, .iconst 1, .iload_n 3, .iload 4] = true := by decide +kernel
theorem d_276_59 : decode ov_m276.2.1 59 = .ok (.invokevirtual 374, 3) := by decide +kernel
theorem d_276_62 : decode ov_m276.2.1 62 = .ok (.goto 4, 3) := by decide +kernel
theorem b_276_94_1 : ov_ds ov_m276.2.1 94 [.iconst 1] = true := by decide +kernel
theorem d_276_95 : decode ov_m276.2.1 95 = .ok (.goto 4, 3) := by decide +kernel
theorem b_276_31_6 : ov_ds ov_m276.2.1 31 [.aload_n 0, .iload_n 1, .iload_n 2, .iconst 0, .iload_n 3, .iload 4] = true := by decide +kernel
theorem d_276_38 : decode ov_m276.2.1 38 = .ok (.invokevirtual 374, 3) := by decide +kernel
theorem d_276_41 : decode ov_m276.2.1 41 = .ok (.goto 4, 3) := by decide +kernel
theorem b_276_73_1 : ov_ds ov_m276.2.1 73 [.iload 8] = true := by decide +kernel
theorem d_276_75 : decode ov_m276.2.1 75 = .ok (.ifCond .lt 10, 3) := by decide +kernel
theorem b_276_85_1 : ov_ds ov_m276.2.1 85 [.iconst 0] = true := by decide +kernel
theorem d_276_86 : decode ov_m276.2.1 86 = .ok (.goto 13, 3) := by decide +kernel
theorem b_276_78_2 : ov_ds ov_m276.2.1 78 [.iload 7, .iload 8] = true := by decide +kernel
theorem d_276_82 : decode ov_m276.2.1 82 = .ok (.if_icmp .gt 7, 3) := by decide +kernel
theorem b_275_0_5 : ov_ds ov_m275.2.1 0 [.aload_n 0, .iload_n 1, .iload_n 2, .iload_n 3, .iload 4] = true := by decide +kernel
theorem d_275_6 : decode ov_m275.2.1 6 = .ok (.invokevirtual 371, 3) := by decide +kernel
theorem b_275_9_2 : ov_ds ov_m275.2.1 9 [.istore 5, .iload 5] = true := by decide +kernel
theorem d_275_13 : decode ov_m275.2.1 13 = .ok (.ifCond .ge 7, 3) := by decide +kernel
theorem b_275_20_6 : ov_ds ov_m275.2.1 20 [.aload_n 0, .iload_n 1, .iload_n 2, .iload 5, .iload_n 3, .iload 4] = true := by decide +kernel
theorem d_275_28 : decode ov_m275.2.1 28 = .ok (.invokevirtual 374, 3) := by decide +kernel
theorem d_275_31 : decode ov_m275.2.1 31 = .ok (.ireturn, 1) := by decide +kernel
theorem b_275_16_1 : ov_ds ov_m275.2.1 16 [.iconst (-1)] = true := by decide +kernel
theorem d_275_17 : decode ov_m275.2.1 17 = .ok (.goto 14, 3) := by decide +kernel
theorem b_274_0_8 : ov_ds ov_m274.2.1 0 [.lconst 0, .lstore 4, .iconst 0, .istore 6, .aload_n 0, .iload_n 1, .iload_n 2, .iconst 1] = true := by decide +kernel
theorem d_274_10 : decode ov_m274.2.1 10 = .ok (.invokevirtual 289, 3) := by decide +kernel
theorem b_274_13_3 : ov_ds ov_m274.2.1 13 [.istore 7, .iconst 0, .istore 8] = true := by decide +kernel
theorem b_274_18_2 : ov_ds ov_m274.2.1 18 [.iload 8, .iload 7] = true := by decide +kernel
theorem d_274_22 : decode ov_m274.2.1 22 = .ok (.if_icmp .ge 51, 3) := by decide +kernel
theorem b_274_73_1 : ov_ds ov_m274.2.1 73 [.aload_n 0] = true := by decide +kernel
theorem d_274_74 : decode ov_m274.2.1 74 = .ok (.getfield 349, 3) := by decide +kernel
theorem d_274_77 : decode ov_m274.2.1 77 = .ok (.ifCond .eq 8, 3) := by decide +kernel
theorem b_274_85_3 : ov_ds ov_m274.2.1 85 [.lload 4, .iload 7, .i2l] = true := by decide +kernel
theorem d_274_90 : decode ov_m274.2.1 90 = .ok (.ldiv, 1) := by decide +kernel
theorem b_274_91_1 : ov_ds ov_m274.2.1 91 [.l2i] = true := by decide +kernel
theorem d_274_92 : decode ov_m274.2.1 92 = .ok (.ireturn, 1) := by decide +kernel
theorem b_274_80_1 : ov_ds ov_m274.2.1 80 [.iload 6] = true := by decide +kernel
theorem d_274_82 : decode ov_m274.2.1 82 = .ok (.goto 10, 3) := by decide +kernel
theorem b_274_25_5 : ov_ds ov_m274.2.1 25 [.aload_n 0, .iload_n 1, .iload_n 2, .iload_n 3, .iload 8] = true := by decide +kernel
theorem d_274_31 : decode ov_m274.2.1 31 = .ok (.invokevirtual 368, 3) := by decide +kernel
theorem b_274_34_2 : ov_ds ov_m274.2.1 34 [.istore 9, .iload 9] = true := by decide +kernel
theorem d_274_38 : decode ov_m274.2.1 38 = .ok (.ifCond .ge 5, 3) := by decide +kernel
theorem b_274_43_7 : ov_ds ov_m274.2.1 43 [.lload 4, .iload 9, .i2l, .ladd, .lstore 4, .iload 9, .iload 6] = true := by decide +kernel
theorem d_274_55 : decode ov_m274.2.1 55 = .ok (.if_icmp .le 8, 3) := by decide +kernel
theorem b_274_63_3 : ov_ds ov_m274.2.1 63 [.iload 6, .istore 6, .iinc 8 1] = true := by decide +kernel
theorem d_274_70 : decode ov_m274.2.1 70 = .ok (.goto (-52), 3) := by decide +kernel
theorem b_274_58_1 : ov_ds ov_m274.2.1 58 [.iload 9] = true := by decide +kernel
theorem d_274_60 : decode ov_m274.2.1 60 = .ok (.goto 5, 3) := by decide +kernel
theorem b_274_65_2 : ov_ds ov_m274.2.1 65 [.istore 6, .iinc 8 1] = true := by decide +kernel
theorem b_274_41_1 : ov_ds ov_m274.2.1 41 [.iconst (-1)] = true := by decide +kernel
theorem d_274_42 : decode ov_m274.2.1 42 = .ok (.ireturn, 1) := by decide +kernel
theorem b_272_0_3 : ov_ds ov_m272.2.1 0 [.aload_n 0, .iload_n 1, .iload_n 2] = true := by decide +kernel
theorem d_272_3 : decode ov_m272.2.1 3 = .ok (.invokevirtual 335, 3) := by decide +kernel
theorem d_272_6 : decode ov_m272.2.1 6 = .ok (.ifCond .eq 5, 3) := by decide +kernel
theorem b_272_11_2 : ov_ds ov_m272.2.1 11 [.iload_n 3, .aload_n 0] = true := by decide +kernel
theorem d_272_13 : decode ov_m272.2.1 13 = .ok (.getfield 81, 3) := by decide +kernel
theorem b_272_16_1 : ov_ds ov_m272.2.1 16 [.bipush 9] = true := by decide +kernel
theorem d_272_18 : decode ov_m272.2.1 18 = .ok (.iaload, 1) := by decide +kernel
theorem d_272_19 : decode ov_m272.2.1 19 = .ok (.irem, 1) := by decide +kernel
theorem b_272_20_12 : ov_ds ov_m272.2.1 20 [.istore 4, .sipush 1200, .bipush 6, .iload_n 2, .imul, .iload_n 1, .iadd, .imul, .iload 4, .iadd, .istore 5, .aload_n 0] = true := by decide +kernel
theorem d_272_38 : decode ov_m272.2.1 38 = .ok (.getfield 113, 3) := by decide +kernel
theorem b_272_41_1 : ov_ds ov_m272.2.1 41 [.iload 5] = true := by decide +kernel
theorem d_272_43 : decode ov_m272.2.1 43 = .ok (.iaload, 1) := by decide +kernel
theorem b_272_44_1 : ov_ds ov_m272.2.1 44 [.aload_n 0] = true := by decide +kernel
theorem d_272_45 : decode ov_m272.2.1 45 = .ok (.getfield 359, 3) := by decide +kernel
theorem d_272_48 : decode ov_m272.2.1 48 = .ok (.if_icmp .eq 78, 3) := by decide +kernel
theorem b_272_126_1 : ov_ds ov_m272.2.1 126 [.aload_n 0] = true := by decide +kernel
theorem d_272_127 : decode ov_m272.2.1 127 = .ok (.getfield 110, 3) := by decide +kernel
theorem b_272_130_1 : ov_ds ov_m272.2.1 130 [.iload 5] = true := by decide +kernel
theorem d_272_132 : decode ov_m272.2.1 132 = .ok (.iaload, 1) := by decide +kernel
theorem d_272_133 : decode ov_m272.2.1 133 = .ok (.ireturn, 1) := by decide +kernel
theorem b_272_51_3 : ov_ds ov_m272.2.1 51 [.aload_n 0, .iload_n 1, .iload_n 2] = true := by decide +kernel
theorem d_272_54 : decode ov_m272.2.1 54 = .ok (.invokevirtual 362, 3) := by decide +kernel
theorem d_272_57 : decode ov_m272.2.1 57 = .ok (.ifCond .eq 14, 3) := by decide +kernel
theorem b_272_71_10 : ov_ds ov_m272.2.1 71 [.aload_n 0, .iload_n 1, .iload_n 2, .iload 4, .bipush 6, .iload_n 2, .imul, .iload_n 1, .iadd, .aload_n 0] = true := by decide +kernel
theorem d_272_83 : decode ov_m272.2.1 83 = .ok (.getfield 119, 3) := by decide +kernel
theorem d_272_86 : decode ov_m272.2.1 86 = .ok (.if_icmp .ne 13, 3) := by decide +kernel
theorem b_272_99_1 : ov_ds ov_m272.2.1 99 [.iload 4] = true := by decide +kernel
theorem d_272_101 : decode ov_m272.2.1 101 = .ok (.invokevirtual 368, 3) := by decide +kernel
theorem b_272_104_2 : ov_ds ov_m272.2.1 104 [.istore 6, .aload_n 0] = true := by decide +kernel
theorem d_272_107 : decode ov_m272.2.1 107 = .ok (.getfield 110, 3) := by decide +kernel
theorem b_272_110_2 : ov_ds ov_m272.2.1 110 [.iload 5, .iload 6] = true := by decide +kernel
theorem d_272_114 : decode ov_m272.2.1 114 = .ok (.iastore, 1) := by decide +kernel
theorem b_272_115_1 : ov_ds ov_m272.2.1 115 [.aload_n 0] = true := by decide +kernel
theorem d_272_116 : decode ov_m272.2.1 116 = .ok (.getfield 113, 3) := by decide +kernel
theorem b_272_119_2 : ov_ds ov_m272.2.1 119 [.iload 5, .aload_n 0] = true := by decide +kernel
theorem d_272_122 : decode ov_m272.2.1 122 = .ok (.getfield 359, 3) := by decide +kernel
theorem d_272_125 : decode ov_m272.2.1 125 = .ok (.iastore, 1) := by decide +kernel
theorem b_272_89_2 : ov_ds ov_m272.2.1 89 [.iload 4, .aload_n 0] = true := by decide +kernel
theorem d_272_92 : decode ov_m272.2.1 92 = .ok (.getfield 356, 3) := by decide +kernel
theorem b_272_95_1 : ov_ds ov_m272.2.1 95 [.iadd] = true := by decide +kernel
theorem d_272_96 : decode ov_m272.2.1 96 = .ok (.goto 5, 3) := by decide +kernel
theorem b_272_60_4 : ov_ds ov_m272.2.1 60 [.aload_n 0, .iload_n 1, .iload_n 2, .iload 4] = true := by decide +kernel
theorem d_272_65 : decode ov_m272.2.1 65 = .ok (.invokevirtual 365, 3) := by decide +kernel
theorem d_272_68 : decode ov_m272.2.1 68 = .ok (.goto 36, 3) := by decide +kernel
theorem b_272_9_1 : ov_ds ov_m272.2.1 9 [.iconst 0] = true := by decide +kernel
theorem d_272_10 : decode ov_m272.2.1 10 = .ok (.ireturn, 1) := by decide +kernel

theorem b_206_0_2 : ov_ds ov_m206.2.1 0 [.aload_n 0, .aload_n 0] = true := by decide +kernel
theorem d_206_2 : decode ov_m206.2.1 2 = .ok (.getfield 11, 3) := by decide +kernel
theorem d_206_5 : decode ov_m206.2.1 5 = .ok (.putfield 158, 3) := by decide +kernel
theorem b_206_8_2 : ov_ds ov_m206.2.1 8 [.aload_n 0, .iconst 0] = true := by decide +kernel
theorem d_206_10 : decode ov_m206.2.1 10 = .ok (.putfield 11, 3) := by decide +kernel
theorem b_206_13_4 : ov_ds ov_m206.2.1 13 [.iconst 0, .istore_n 1, .iconst 0, .istore_n 2] = true := by decide +kernel
theorem b_206_17_2 : ov_ds ov_m206.2.1 17 [.iload_n 2, .aload_n 0] = true := by decide +kernel
theorem d_206_19 : decode ov_m206.2.1 19 = .ok (.getfield 158, 3) := by decide +kernel
theorem d_206_22 : decode ov_m206.2.1 22 = .ok (.if_icmp .ge 257, 3) := by decide +kernel
theorem b_206_279_1 : ov_ds ov_m206.2.1 279 [.aload_n 0] = true := by decide +kernel
theorem d_206_280 : decode ov_m206.2.1 280 = .ok (.getfield 24, 3) := by decide +kernel
theorem b_206_283_2 : ov_ds ov_m206.2.1 283 [.iload_n 1, .iconst 0] = true := by decide +kernel
theorem d_206_285 : decode ov_m206.2.1 285 = .ok (.iastore, 1) := by decide +kernel
theorem b_206_286_1 : ov_ds ov_m206.2.1 286 [.aload_n 0] = true := by decide +kernel
theorem d_206_287 : decode ov_m206.2.1 287 = .ok (.getfield 27, 3) := by decide +kernel
theorem b_206_290_2 : ov_ds ov_m206.2.1 290 [.iload_n 1, .aload_n 0] = true := by decide +kernel
theorem d_206_292 : decode ov_m206.2.1 292 = .ok (.getfield 158, 3) := by decide +kernel
theorem d_206_295 : decode ov_m206.2.1 295 = .ok (.iastore, 1) := by decide +kernel
theorem b_206_296_2 : ov_ds ov_m206.2.1 296 [.aload_n 0, .iconst 0] = true := by decide +kernel
theorem d_206_298 : decode ov_m206.2.1 298 = .ok (.putfield 177, 3) := by decide +kernel
theorem b_206_301_2 : ov_ds ov_m206.2.1 301 [.aload_n 0, .iconst 0] = true := by decide +kernel
theorem d_206_303 : decode ov_m206.2.1 303 = .ok (.putfield 180, 3) := by decide +kernel
theorem d_206_306 : decode ov_m206.2.1 306 = .ok (.return_, 1) := by decide +kernel
theorem b_206_25_1 : ov_ds ov_m206.2.1 25 [.aload_n 0] = true := by decide +kernel
theorem d_206_26 : decode ov_m206.2.1 26 = .ok (.getfield 14, 3) := by decide +kernel
theorem b_206_29_1 : ov_ds ov_m206.2.1 29 [.iload_n 2] = true := by decide +kernel
theorem d_206_30 : decode ov_m206.2.1 30 = .ok (.iaload, 1) := by decide +kernel
theorem b_206_31_3 : ov_ds ov_m206.2.1 31 [.istore_n 3, .iload_n 3, .bipush 10] = true := by decide +kernel
theorem d_206_35 : decode ov_m206.2.1 35 = .ok (.if_icmp .eq 9, 3) := by decide +kernel
theorem b_206_44_1 : ov_ds ov_m206.2.1 44 [.iinc 2 1] = true := by decide +kernel
theorem d_206_47 : decode ov_m206.2.1 47 = .ok (.goto (-30), 3) := by decide +kernel
theorem b_206_38_2 : ov_ds ov_m206.2.1 38 [.iload_n 3, .bipush 32] = true := by decide +kernel
theorem d_206_41 : decode ov_m206.2.1 41 = .ok (.if_icmp .ne 9, 3) := by decide +kernel
theorem b_206_50_5 : ov_ds ov_m206.2.1 50 [.iload_n 2, .istore 4, .lconst 0, .lstore 5, .aload_n 0] = true := by decide +kernel
theorem d_206_57 : decode ov_m206.2.1 57 = .ok (.getfield 27, 3) := by decide +kernel
theorem b_206_60_2 : ov_ds ov_m206.2.1 60 [.iload_n 1, .iload_n 2] = true := by decide +kernel
theorem d_206_62 : decode ov_m206.2.1 62 = .ok (.iastore, 1) := by decide +kernel
theorem b_206_63_1 : ov_ds ov_m206.2.1 63 [.iload_n 3] = true := by decide +kernel
theorem d_206_64 : decode ov_m206.2.1 64 = .ok (.invokestatic 154, 3) := by decide +kernel
theorem d_206_67 : decode ov_m206.2.1 67 = .ok (.ifCond .eq 85, 3) := by decide +kernel
theorem b_206_152_1 : ov_ds ov_m206.2.1 152 [.iload_n 3] = true := by decide +kernel
theorem d_206_153 : decode ov_m206.2.1 153 = .ok (.invokestatic 167, 3) := by decide +kernel
theorem d_206_156 : decode ov_m206.2.1 156 = .ok (.ifCond .eq 84, 3) := by decide +kernel
theorem b_206_240_4 : ov_ds ov_m206.2.1 240 [.iload_n 3, .i2l, .lstore 5, .aload_n 0] = true := by decide +kernel
theorem d_206_245 : decode ov_m206.2.1 245 = .ok (.getfield 24, 3) := by decide +kernel
theorem b_206_248_2 : ov_ds ov_m206.2.1 248 [.iload_n 1, .iload_n 3] = true := by decide +kernel
theorem d_206_250 : decode ov_m206.2.1 250 = .ok (.invokestatic 174, 3) := by decide +kernel
theorem d_206_253 : decode ov_m206.2.1 253 = .ok (.ifCond .eq 7, 3) := by decide +kernel
theorem b_206_260_1 : ov_ds ov_m206.2.1 260 [.iconst 4] = true := by decide +kernel
theorem d_206_261 : decode ov_m206.2.1 261 = .ok (.iastore, 1) := by decide +kernel
theorem b_206_262_2 : ov_ds ov_m206.2.1 262 [.iinc 2 1, .aload_n 0] = true := by decide +kernel
theorem d_206_266 : decode ov_m206.2.1 266 = .ok (.getfield 30, 3) := by decide +kernel
theorem b_206_269_2 : ov_ds ov_m206.2.1 269 [.iload_n 1, .lload 5] = true := by decide +kernel
theorem d_206_272 : decode ov_m206.2.1 272 = .ok (.lastore, 1) := by decide +kernel
theorem b_206_273_1 : ov_ds ov_m206.2.1 273 [.iinc 1 1] = true := by decide +kernel
theorem d_206_276 : decode ov_m206.2.1 276 = .ok (.goto (-259), 3) := by decide +kernel
theorem b_206_256_1 : ov_ds ov_m206.2.1 256 [.iconst 3] = true := by decide +kernel
theorem d_206_257 : decode ov_m206.2.1 257 = .ok (.goto 4, 3) := by decide +kernel
theorem b_206_159_2 : ov_ds ov_m206.2.1 159 [.iload_n 2, .aload_n 0] = true := by decide +kernel
theorem d_206_161 : decode ov_m206.2.1 161 = .ok (.getfield 158, 3) := by decide +kernel
theorem d_206_164 : decode ov_m206.2.1 164 = .ok (.if_icmp .ge 54, 3) := by decide +kernel
theorem b_206_218_1 : ov_ds ov_m206.2.1 218 [.aload_n 0] = true := by decide +kernel
theorem d_206_219 : decode ov_m206.2.1 219 = .ok (.getfield 24, 3) := by decide +kernel
theorem b_206_222_5 : ov_ds ov_m206.2.1 222 [.iload_n 1, .iload_n 2, .iload 4, .isub, .iconst 4] = true := by decide +kernel
theorem d_206_228 : decode ov_m206.2.1 228 = .ok (.if_icmp .le 7, 3) := by decide +kernel
theorem b_206_235_1 : ov_ds ov_m206.2.1 235 [.iconst 2] = true := by decide +kernel
theorem d_206_236 : decode ov_m206.2.1 236 = .ok (.iastore, 1) := by decide +kernel
theorem d_206_237 : decode ov_m206.2.1 237 = .ok (.goto 28, 3) := by decide +kernel
theorem b_206_265_1 : ov_ds ov_m206.2.1 265 [.aload_n 0] = true := by decide +kernel
theorem b_206_231_1 : ov_ds ov_m206.2.1 231 [.iconst 4] = true := by decide +kernel
theorem d_206_232 : decode ov_m206.2.1 232 = .ok (.goto 4, 3) := by decide +kernel
theorem b_206_167_1 : ov_ds ov_m206.2.1 167 [.aload_n 0] = true := by decide +kernel
theorem d_206_168 : decode ov_m206.2.1 168 = .ok (.getfield 14, 3) := by decide +kernel
theorem b_206_171_1 : ov_ds ov_m206.2.1 171 [.iload_n 2] = true := by decide +kernel
theorem d_206_172 : decode ov_m206.2.1 172 = .ok (.iaload, 1) := by decide +kernel
theorem d_206_173 : decode ov_m206.2.1 173 = .ok (.invokestatic 167, 3) := by decide +kernel
theorem d_206_176 : decode ov_m206.2.1 176 = .ok (.ifCond .eq 42, 3) := by decide +kernel
theorem b_206_179_4 : ov_ds ov_m206.2.1 179 [.iload_n 2, .iload 4, .isub, .iconst 4] = true := by decide +kernel
theorem d_206_184 : decode ov_m206.2.1 184 = .ok (.if_icmp .ge 24, 3) := by decide +kernel
theorem b_206_208_3 : ov_ds ov_m206.2.1 208 [.lload 5, .lstore 5, .iinc 2 1] = true := by decide +kernel
theorem d_206_215 : decode ov_m206.2.1 215 = .ok (.goto (-56), 3) := by decide +kernel
theorem d_206_187 : decode ov_m206.2.1 187 = .ok (.ldc2_w 170, 3) := by decide +kernel
theorem b_206_190_2 : ov_ds ov_m206.2.1 190 [.lload 5, .lmul] = true := by decide +kernel
theorem b_206_193_1 : ov_ds ov_m206.2.1 193 [.aload_n 0] = true := by decide +kernel
theorem d_206_194 : decode ov_m206.2.1 194 = .ok (.getfield 14, 3) := by decide +kernel
theorem b_206_197_1 : ov_ds ov_m206.2.1 197 [.iload_n 2] = true := by decide +kernel
theorem d_206_198 : decode ov_m206.2.1 198 = .ok (.iaload, 1) := by decide +kernel
theorem b_206_199_2 : ov_ds ov_m206.2.1 199 [.i2l, .ladd] = true := by decide +kernel
theorem d_206_201 : decode ov_m206.2.1 201 = .ok (.ldc2_w 172, 3) := by decide +kernel
theorem b_206_204_1 : ov_ds ov_m206.2.1 204 [.lsub] = true := by decide +kernel
theorem d_206_205 : decode ov_m206.2.1 205 = .ok (.goto 5, 3) := by decide +kernel
theorem b_206_210_2 : ov_ds ov_m206.2.1 210 [.lstore 5, .iinc 2 1] = true := by decide +kernel
theorem b_206_70_2 : ov_ds ov_m206.2.1 70 [.iload_n 2, .aload_n 0] = true := by decide +kernel
theorem d_206_72 : decode ov_m206.2.1 72 = .ok (.getfield 158, 3) := by decide +kernel
theorem d_206_75 : decode ov_m206.2.1 75 = .ok (.if_icmp .ge 54, 3) := by decide +kernel
theorem b_206_129_1 : ov_ds ov_m206.2.1 129 [.aload_n 0] = true := by decide +kernel
theorem d_206_130 : decode ov_m206.2.1 130 = .ok (.getfield 24, 3) := by decide +kernel
theorem b_206_133_5 : ov_ds ov_m206.2.1 133 [.iload_n 1, .iload_n 2, .iload 4, .isub, .bipush 8] = true := by decide +kernel
theorem d_206_140 : decode ov_m206.2.1 140 = .ok (.if_icmp .le 7, 3) := by decide +kernel
theorem b_206_147_1 : ov_ds ov_m206.2.1 147 [.iconst 1] = true := by decide +kernel
theorem d_206_148 : decode ov_m206.2.1 148 = .ok (.iastore, 1) := by decide +kernel
theorem d_206_149 : decode ov_m206.2.1 149 = .ok (.goto 116, 3) := by decide +kernel
theorem b_206_143_1 : ov_ds ov_m206.2.1 143 [.iconst 4] = true := by decide +kernel
theorem d_206_144 : decode ov_m206.2.1 144 = .ok (.goto 4, 3) := by decide +kernel
theorem b_206_78_1 : ov_ds ov_m206.2.1 78 [.aload_n 0] = true := by decide +kernel
theorem d_206_79 : decode ov_m206.2.1 79 = .ok (.getfield 14, 3) := by decide +kernel
theorem b_206_82_1 : ov_ds ov_m206.2.1 82 [.iload_n 2] = true := by decide +kernel
theorem d_206_83 : decode ov_m206.2.1 83 = .ok (.iaload, 1) := by decide +kernel
theorem d_206_84 : decode ov_m206.2.1 84 = .ok (.invokestatic 154, 3) := by decide +kernel
theorem d_206_87 : decode ov_m206.2.1 87 = .ok (.ifCond .eq 42, 3) := by decide +kernel
theorem b_206_90_4 : ov_ds ov_m206.2.1 90 [.iload_n 2, .iload 4, .isub, .bipush 8] = true := by decide +kernel
theorem d_206_96 : decode ov_m206.2.1 96 = .ok (.if_icmp .ge 23, 3) := by decide +kernel
theorem b_206_119_3 : ov_ds ov_m206.2.1 119 [.lload 5, .lstore 5, .iinc 2 1] = true := by decide +kernel
theorem d_206_126 : decode ov_m206.2.1 126 = .ok (.goto (-56), 3) := by decide +kernel
theorem d_206_99 : decode ov_m206.2.1 99 = .ok (.ldc2_w 161, 3) := by decide +kernel
theorem b_206_102_2 : ov_ds ov_m206.2.1 102 [.lload 5, .lmul] = true := by decide +kernel
theorem b_206_105_1 : ov_ds ov_m206.2.1 105 [.aload_n 0] = true := by decide +kernel
theorem d_206_106 : decode ov_m206.2.1 106 = .ok (.getfield 14, 3) := by decide +kernel
theorem b_206_109_1 : ov_ds ov_m206.2.1 109 [.iload_n 2] = true := by decide +kernel
theorem d_206_110 : decode ov_m206.2.1 110 = .ok (.iaload, 1) := by decide +kernel
theorem d_206_111 : decode ov_m206.2.1 111 = .ok (.invokestatic 163, 3) := by decide +kernel
theorem b_206_114_2 : ov_ds ov_m206.2.1 114 [.i2l, .ladd] = true := by decide +kernel
theorem d_206_116 : decode ov_m206.2.1 116 = .ok (.goto 5, 3) := by decide +kernel
theorem b_206_121_2 : ov_ds ov_m206.2.1 121 [.lstore 5, .iinc 2 1] = true := by decide +kernel
theorem b_214_0_1 : ov_ds ov_m214.2.1 0 [.aload_n 0] = true := by decide +kernel
theorem d_214_1 : decode ov_m214.2.1 1 = .ok (.getfield 180, 3) := by decide +kernel
theorem d_214_4 : decode ov_m214.2.1 4 = .ok (.ifCond .ne 21, 3) := by decide +kernel
theorem d_214_25 : decode ov_m214.2.1 25 = .ok (.return_, 1) := by decide +kernel
theorem b_214_7_4 : ov_ds ov_m214.2.1 7 [.aload_n 0, .iload_n 1, .bipush 16, .aload_n 0] = true := by decide +kernel
theorem d_214_12 : decode ov_m214.2.1 12 = .ok (.getfield 27, 3) := by decide +kernel
theorem b_214_15_1 : ov_ds ov_m214.2.1 15 [.aload_n 0] = true := by decide +kernel
theorem d_214_16 : decode ov_m214.2.1 16 = .ok (.getfield 177, 3) := by decide +kernel
theorem d_214_19 : decode ov_m214.2.1 19 = .ok (.iaload, 1) := by decide +kernel
theorem b_214_20_2 : ov_ds ov_m214.2.1 20 [.imul, .iadd] = true := by decide +kernel
theorem d_214_22 : decode ov_m214.2.1 22 = .ok (.putfield 180, 3) := by decide +kernel
theorem b_217_0_1 : ov_ds ov_m217.2.1 0 [.aload_n 0] = true := by decide +kernel
theorem d_217_1 : decode ov_m217.2.1 1 = .ok (.getfield 180, 3) := by decide +kernel
theorem d_217_4 : decode ov_m217.2.1 4 = .ok (.ifCond .ne 35, 3) := by decide +kernel
theorem b_217_39_1 : ov_ds ov_m217.2.1 39 [.iconst 0] = true := by decide +kernel
theorem d_217_40 : decode ov_m217.2.1 40 = .ok (.ireturn, 1) := by decide +kernel
theorem b_217_7_1 : ov_ds ov_m217.2.1 7 [.aload_n 0] = true := by decide +kernel
theorem d_217_8 : decode ov_m217.2.1 8 = .ok (.getfield 24, 3) := by decide +kernel
theorem b_217_11_1 : ov_ds ov_m217.2.1 11 [.aload_n 0] = true := by decide +kernel
theorem d_217_12 : decode ov_m217.2.1 12 = .ok (.getfield 177, 3) := by decide +kernel
theorem d_217_15 : decode ov_m217.2.1 15 = .ok (.iaload, 1) := by decide +kernel
theorem b_217_16_1 : ov_ds ov_m217.2.1 16 [.iconst 3] = true := by decide +kernel
theorem d_217_17 : decode ov_m217.2.1 17 = .ok (.if_icmp .ne 22, 3) := by decide +kernel
theorem b_217_20_1 : ov_ds ov_m217.2.1 20 [.aload_n 0] = true := by decide +kernel
theorem d_217_21 : decode ov_m217.2.1 21 = .ok (.getfield 30, 3) := by decide +kernel
theorem b_217_24_1 : ov_ds ov_m217.2.1 24 [.aload_n 0] = true := by decide +kernel
theorem d_217_25 : decode ov_m217.2.1 25 = .ok (.getfield 177, 3) := by decide +kernel
theorem d_217_28 : decode ov_m217.2.1 28 = .ok (.laload, 1) := by decide +kernel
theorem b_217_29_3 : ov_ds ov_m217.2.1 29 [.iload_n 1, .i2l, .lcmp] = true := by decide +kernel
theorem d_217_32 : decode ov_m217.2.1 32 = .ok (.ifCond .ne 7, 3) := by decide +kernel
theorem b_217_35_1 : ov_ds ov_m217.2.1 35 [.iconst 1] = true := by decide +kernel
theorem d_217_36 : decode ov_m217.2.1 36 = .ok (.goto 4, 3) := by decide +kernel
theorem b_213_0_1 : ov_ds ov_m213.2.1 0 [.aload_n 0] = true := by decide +kernel
theorem d_213_1 : decode ov_m213.2.1 1 = .ok (.getfield 180, 3) := by decide +kernel
theorem d_213_4 : decode ov_m213.2.1 4 = .ok (.ifCond .ne 39, 3) := by decide +kernel
theorem b_213_43_1 : ov_ds ov_m213.2.1 43 [.iconst 0] = true := by decide +kernel
theorem d_213_44 : decode ov_m213.2.1 44 = .ok (.ireturn, 1) := by decide +kernel
theorem b_213_7_1 : ov_ds ov_m213.2.1 7 [.aload_n 0] = true := by decide +kernel
theorem d_213_8 : decode ov_m213.2.1 8 = .ok (.getfield 24, 3) := by decide +kernel
theorem b_213_11_1 : ov_ds ov_m213.2.1 11 [.aload_n 0] = true := by decide +kernel
theorem d_213_12 : decode ov_m213.2.1 12 = .ok (.getfield 177, 3) := by decide +kernel
theorem d_213_15 : decode ov_m213.2.1 15 = .ok (.iaload, 1) := by decide +kernel
theorem b_213_16_1 : ov_ds ov_m213.2.1 16 [.iconst 1] = true := by decide +kernel
theorem d_213_17 : decode ov_m213.2.1 17 = .ok (.if_icmp .ne 26, 3) := by decide +kernel
theorem b_213_20_1 : ov_ds ov_m213.2.1 20 [.aload_n 0] = true := by decide +kernel
theorem d_213_21 : decode ov_m213.2.1 21 = .ok (.getfield 30, 3) := by decide +kernel
theorem b_213_24_1 : ov_ds ov_m213.2.1 24 [.aload_n 0] = true := by decide +kernel
theorem d_213_25 : decode ov_m213.2.1 25 = .ok (.getfield 177, 3) := by decide +kernel
theorem d_213_28 : decode ov_m213.2.1 28 = .ok (.laload, 1) := by decide +kernel
theorem b_213_29_1 : ov_ds ov_m213.2.1 29 [.aload_n 0] = true := by decide +kernel
theorem d_213_30 : decode ov_m213.2.1 30 = .ok (.getfield 78, 3) := by decide +kernel
theorem b_213_33_1 : ov_ds ov_m213.2.1 33 [.iload_n 1] = true := by decide +kernel
theorem d_213_34 : decode ov_m213.2.1 34 = .ok (.laload, 1) := by decide +kernel
theorem b_213_35_1 : ov_ds ov_m213.2.1 35 [.lcmp] = true := by decide +kernel
theorem d_213_36 : decode ov_m213.2.1 36 = .ok (.ifCond .ne 7, 3) := by decide +kernel
theorem b_213_39_1 : ov_ds ov_m213.2.1 39 [.iconst 1] = true := by decide +kernel
theorem d_213_40 : decode ov_m213.2.1 40 = .ok (.goto 4, 3) := by decide +kernel
theorem b_216_0_2 : ov_ds ov_m216.2.1 0 [.aload_n 0, .iload_n 1] = true := by decide +kernel
theorem d_216_2 : decode ov_m216.2.1 2 = .ok (.invokevirtual 183, 3) := by decide +kernel
theorem d_216_5 : decode ov_m216.2.1 5 = .ok (.ifCond .eq 16, 3) := by decide +kernel
theorem b_216_21_2 : ov_ds ov_m216.2.1 21 [.aload_n 0, .iconst 1] = true := by decide +kernel
theorem d_216_23 : decode ov_m216.2.1 23 = .ok (.invokevirtual 186, 3) := by decide +kernel
theorem d_216_26 : decode ov_m216.2.1 26 = .ok (.return_, 1) := by decide +kernel
theorem b_216_8_2 : ov_ds ov_m216.2.1 8 [.aload_n 0, .dup] = true := by decide +kernel
theorem d_216_10 : decode ov_m216.2.1 10 = .ok (.getfield 177, 3) := by decide +kernel
theorem b_216_13_2 : ov_ds ov_m216.2.1 13 [.iconst 1, .iadd] = true := by decide +kernel
theorem d_216_15 : decode ov_m216.2.1 15 = .ok (.putfield 177, 3) := by decide +kernel
theorem d_216_18 : decode ov_m216.2.1 18 = .ok (.goto 8, 3) := by decide +kernel
theorem b_232_0_2 : ov_ds ov_m232.2.1 0 [.aload_n 0, .iload_n 1] = true := by decide +kernel
theorem d_232_2 : decode ov_m232.2.1 2 = .ok (.invokevirtual 183, 3) := by decide +kernel
theorem b_232_5_3 : ov_ds ov_m232.2.1 5 [.istore_n 2, .aload_n 0, .dup] = true := by decide +kernel
theorem d_232_8 : decode ov_m232.2.1 8 = .ok (.getfield 177, 3) := by decide +kernel
theorem b_232_11_1 : ov_ds ov_m232.2.1 11 [.iload_n 2] = true := by decide +kernel
theorem d_232_12 : decode ov_m232.2.1 12 = .ok (.ifCond .eq 7, 3) := by decide +kernel
theorem b_232_19_2 : ov_ds ov_m232.2.1 19 [.iconst 0, .iadd] = true := by decide +kernel
theorem d_232_21 : decode ov_m232.2.1 21 = .ok (.putfield 177, 3) := by decide +kernel
theorem b_232_24_1 : ov_ds ov_m232.2.1 24 [.iload_n 2] = true := by decide +kernel
theorem d_232_25 : decode ov_m232.2.1 25 = .ok (.ireturn, 1) := by decide +kernel
theorem b_232_15_1 : ov_ds ov_m232.2.1 15 [.iconst 1] = true := by decide +kernel
theorem d_232_16 : decode ov_m232.2.1 16 = .ok (.goto 4, 3) := by decide +kernel
theorem b_232_20_1 : ov_ds ov_m232.2.1 20 [.iadd] = true := by decide +kernel
theorem b_212_0_2 : ov_ds ov_m212.2.1 0 [.aload_n 0, .iload_n 1] = true := by decide +kernel
theorem d_212_2 : decode ov_m212.2.1 2 = .ok (.invokevirtual 189, 3) := by decide +kernel
theorem b_212_5_3 : ov_ds ov_m212.2.1 5 [.istore_n 2, .aload_n 0, .dup] = true := by decide +kernel
theorem d_212_8 : decode ov_m212.2.1 8 = .ok (.getfield 177, 3) := by decide +kernel
theorem b_212_11_1 : ov_ds ov_m212.2.1 11 [.iload_n 2] = true := by decide +kernel
theorem d_212_12 : decode ov_m212.2.1 12 = .ok (.ifCond .eq 7, 3) := by decide +kernel
theorem b_212_19_2 : ov_ds ov_m212.2.1 19 [.iconst 0, .iadd] = true := by decide +kernel
theorem d_212_21 : decode ov_m212.2.1 21 = .ok (.putfield 177, 3) := by decide +kernel
theorem b_212_24_1 : ov_ds ov_m212.2.1 24 [.iload_n 2] = true := by decide +kernel
theorem d_212_25 : decode ov_m212.2.1 25 = .ok (.ireturn, 1) := by decide +kernel
theorem b_212_15_1 : ov_ds ov_m212.2.1 15 [.iconst 1] = true := by decide +kernel
theorem d_212_16 : decode ov_m212.2.1 16 = .ok (.goto 4, 3) := by decide +kernel
theorem b_212_20_1 : ov_ds ov_m212.2.1 20 [.iadd] = true := by decide +kernel
theorem b_211_0_2 : ov_ds ov_m211.2.1 0 [.aload_n 0, .iload_n 1] = true := by decide +kernel
theorem d_211_2 : decode ov_m211.2.1 2 = .ok (.invokevirtual 192, 3) := by decide +kernel
theorem d_211_5 : decode ov_m211.2.1 5 = .ok (.ifCond .ne 8, 3) := by decide +kernel
theorem d_211_13 : decode ov_m211.2.1 13 = .ok (.return_, 1) := by decide +kernel
theorem b_211_8_2 : ov_ds ov_m211.2.1 8 [.aload_n 0, .iconst 1] = true := by decide +kernel
theorem d_211_10 : decode ov_m211.2.1 10 = .ok (.invokevirtual 186, 3) := by decide +kernel
theorem b_215_0_1 : ov_ds ov_m215.2.1 0 [.aload_n 0] = true := by decide +kernel
theorem d_215_1 : decode ov_m215.2.1 1 = .ok (.getfield 180, 3) := by decide +kernel
theorem d_215_4 : decode ov_m215.2.1 4 = .ok (.ifCond .ne 24, 3) := by decide +kernel
theorem b_215_28_1 : ov_ds ov_m215.2.1 28 [.aload_n 0] = true := by decide +kernel
theorem d_215_29 : decode ov_m215.2.1 29 = .ok (.getfield 180, 3) := by decide +kernel
theorem d_215_32 : decode ov_m215.2.1 32 = .ok (.ifCond .ne 38, 3) := by decide +kernel
theorem b_215_70_1 : ov_ds ov_m215.2.1 70 [.aload_n 0] = true := by decide +kernel
theorem d_215_71 : decode ov_m215.2.1 71 = .ok (.getfield 180, 3) := by decide +kernel
theorem d_215_74 : decode ov_m215.2.1 74 = .ok (.ifCond .le 5, 3) := by decide +kernel
theorem b_215_77_1 : ov_ds ov_m215.2.1 77 [.iconst 0] = true := by decide +kernel
theorem d_215_78 : decode ov_m215.2.1 78 = .ok (.ireturn, 1) := by decide +kernel
theorem b_215_7_1 : ov_ds ov_m215.2.1 7 [.aload_n 0] = true := by decide +kernel
theorem d_215_8 : decode ov_m215.2.1 8 = .ok (.getfield 24, 3) := by decide +kernel
theorem b_215_11_1 : ov_ds ov_m215.2.1 11 [.aload_n 0] = true := by decide +kernel
theorem d_215_12 : decode ov_m215.2.1 12 = .ok (.getfield 177, 3) := by decide +kernel
theorem d_215_15 : decode ov_m215.2.1 15 = .ok (.iaload, 1) := by decide +kernel
theorem b_215_16_1 : ov_ds ov_m215.2.1 16 [.iconst 2] = true := by decide +kernel
theorem d_215_17 : decode ov_m215.2.1 17 = .ok (.if_icmp .eq 11, 3) := by decide +kernel
theorem b_215_35_1 : ov_ds ov_m215.2.1 35 [.aload_n 0] = true := by decide +kernel
theorem d_215_36 : decode ov_m215.2.1 36 = .ok (.getfield 30, 3) := by decide +kernel
theorem b_215_39_1 : ov_ds ov_m215.2.1 39 [.aload_n 0] = true := by decide +kernel
theorem d_215_40 : decode ov_m215.2.1 40 = .ok (.getfield 177, 3) := by decide +kernel
theorem d_215_43 : decode ov_m215.2.1 43 = .ok (.laload, 1) := by decide +kernel
theorem b_215_44_3 : ov_ds ov_m215.2.1 44 [.iload_n 1, .i2l, .lcmp] = true := by decide +kernel
theorem d_215_47 : decode ov_m215.2.1 47 = .ok (.ifCond .lt 18, 3) := by decide +kernel
theorem b_215_65_2 : ov_ds ov_m215.2.1 65 [.aload_n 0, .iconst 4] = true := by decide +kernel
theorem d_215_67 : decode ov_m215.2.1 67 = .ok (.invokevirtual 186, 3) := by decide +kernel
theorem b_215_50_1 : ov_ds ov_m215.2.1 50 [.aload_n 0] = true := by decide +kernel
theorem d_215_51 : decode ov_m215.2.1 51 = .ok (.getfield 30, 3) := by decide +kernel
theorem b_215_54_1 : ov_ds ov_m215.2.1 54 [.aload_n 0] = true := by decide +kernel
theorem d_215_55 : decode ov_m215.2.1 55 = .ok (.getfield 177, 3) := by decide +kernel
theorem d_215_58 : decode ov_m215.2.1 58 = .ok (.laload, 1) := by decide +kernel
theorem b_215_59_3 : ov_ds ov_m215.2.1 59 [.iload_n 2, .i2l, .lcmp] = true := by decide +kernel
theorem d_215_62 : decode ov_m215.2.1 62 = .ok (.ifCond .le 8, 3) := by decide +kernel
theorem b_215_79_2 : ov_ds ov_m215.2.1 79 [.aload_n 0, .dup] = true := by decide +kernel
theorem d_215_81 : decode ov_m215.2.1 81 = .ok (.getfield 177, 3) := by decide +kernel
theorem b_215_84_2 : ov_ds ov_m215.2.1 84 [.iconst 1, .iadd] = true := by decide +kernel
theorem d_215_86 : decode ov_m215.2.1 86 = .ok (.putfield 177, 3) := by decide +kernel
theorem b_215_89_1 : ov_ds ov_m215.2.1 89 [.aload_n 0] = true := by decide +kernel
theorem d_215_90 : decode ov_m215.2.1 90 = .ok (.getfield 30, 3) := by decide +kernel
theorem b_215_93_1 : ov_ds ov_m215.2.1 93 [.aload_n 0] = true := by decide +kernel
theorem d_215_94 : decode ov_m215.2.1 94 = .ok (.getfield 177, 3) := by decide +kernel
theorem b_215_97_2 : ov_ds ov_m215.2.1 97 [.iconst 1, .isub] = true := by decide +kernel
theorem d_215_99 : decode ov_m215.2.1 99 = .ok (.laload, 1) := by decide +kernel
theorem b_215_100_1 : ov_ds ov_m215.2.1 100 [.l2i] = true := by decide +kernel
theorem d_215_101 : decode ov_m215.2.1 101 = .ok (.ireturn, 1) := by decide +kernel
theorem b_215_20_2 : ov_ds ov_m215.2.1 20 [.aload_n 0, .iconst 1] = true := by decide +kernel
theorem d_215_22 : decode ov_m215.2.1 22 = .ok (.invokevirtual 186, 3) := by decide +kernel
theorem d_215_25 : decode ov_m215.2.1 25 = .ok (.goto 45, 3) := by decide +kernel
theorem b_221_0_2 : ov_ds ov_m221.2.1 0 [.aload_n 0, .iload_n 1] = true := by decide +kernel
theorem d_221_2 : decode ov_m221.2.1 2 = .ok (.invokevirtual 195, 3) := by decide +kernel
theorem b_221_5_3 : ov_ds ov_m221.2.1 5 [.aload_n 0, .iload_n 2, .iload_n 3] = true := by decide +kernel
theorem d_221_8 : decode ov_m221.2.1 8 = .ok (.invokevirtual 198, 3) := by decide +kernel
theorem d_221_11 : decode ov_m221.2.1 11 = .ok (.ireturn, 1) := by decide +kernel
theorem b_220_0_4 : ov_ds ov_m220.2.1 0 [.iconst (-1), .istore_n 3, .iconst 0, .istore 4] = true := by decide +kernel
theorem b_220_5_2 : ov_ds ov_m220.2.1 5 [.iload 4, .iload_n 2] = true := by decide +kernel
theorem d_220_8 : decode ov_m220.2.1 8 = .ok (.if_icmp .ge 27, 3) := by decide +kernel
theorem b_220_35_1 : ov_ds ov_m220.2.1 35 [.iload_n 3] = true := by decide +kernel
theorem d_220_36 : decode ov_m220.2.1 36 = .ok (.ireturn, 1) := by decide +kernel
theorem b_220_11_4 : ov_ds ov_m220.2.1 11 [.aload_n 0, .iload_n 1, .iload 4, .iadd] = true := by decide +kernel
theorem d_220_16 : decode ov_m220.2.1 16 = .ok (.invokevirtual 189, 3) := by decide +kernel
theorem d_220_19 : decode ov_m220.2.1 19 = .ok (.ifCond .eq 8, 3) := by decide +kernel
theorem b_220_27_3 : ov_ds ov_m220.2.1 27 [.iload_n 3, .istore_n 3, .iinc 4 1] = true := by decide +kernel
theorem d_220_32 : decode ov_m220.2.1 32 = .ok (.goto (-27), 3) := by decide +kernel
theorem b_220_22_1 : ov_ds ov_m220.2.1 22 [.iload 4] = true := by decide +kernel
theorem d_220_24 : decode ov_m220.2.1 24 = .ok (.goto 4, 3) := by decide +kernel
theorem b_220_28_2 : ov_ds ov_m220.2.1 28 [.istore_n 3, .iinc 4 1] = true := by decide +kernel
theorem b_225_0_1 : ov_ds ov_m225.2.1 0 [.aload_n 0] = true := by decide +kernel
theorem d_225_1 : decode ov_m225.2.1 1 = .ok (.getfield 180, 3) := by decide +kernel
theorem d_225_4 : decode ov_m225.2.1 4 = .ok (.ifCond .ne 30, 3) := by decide +kernel
theorem b_225_34_1 : ov_ds ov_m225.2.1 34 [.iconst 0] = true := by decide +kernel
theorem d_225_35 : decode ov_m225.2.1 35 = .ok (.ireturn, 1) := by decide +kernel
theorem b_225_7_1 : ov_ds ov_m225.2.1 7 [.aload_n 0] = true := by decide +kernel
theorem d_225_8 : decode ov_m225.2.1 8 = .ok (.getfield 24, 3) := by decide +kernel
theorem b_225_11_1 : ov_ds ov_m225.2.1 11 [.aload_n 0] = true := by decide +kernel
theorem d_225_12 : decode ov_m225.2.1 12 = .ok (.getfield 177, 3) := by decide +kernel
theorem d_225_15 : decode ov_m225.2.1 15 = .ok (.iaload, 1) := by decide +kernel
theorem b_225_16_1 : ov_ds ov_m225.2.1 16 [.iconst 1] = true := by decide +kernel
theorem d_225_17 : decode ov_m225.2.1 17 = .ok (.if_icmp .ne 17, 3) := by decide +kernel
theorem b_225_20_3 : ov_ds ov_m225.2.1 20 [.aload_n 0, .iconst 0, .bipush 20] = true := by decide +kernel
theorem d_225_24 : decode ov_m225.2.1 24 = .ok (.invokevirtual 202, 3) := by decide +kernel
theorem d_225_27 : decode ov_m225.2.1 27 = .ok (.ifCond .ge 7, 3) := by decide +kernel
theorem b_225_30_1 : ov_ds ov_m225.2.1 30 [.iconst 1] = true := by decide +kernel
theorem d_225_31 : decode ov_m225.2.1 31 = .ok (.goto 4, 3) := by decide +kernel
abbrev P_Mo_cutAll_90 (F : ov_H × ov_Z) (z : ov_Z) (h : ov_H) : Option ov_V → ov_Z → ov_H → Prop := fun r0 z' h' => r0 = none ∧ ov_N F z' h' ∧ ((h' 90 13) = (h 90 13) ∧ (h' 90 20) = (h 90 20) ∧ (h' 90 22) = (h 90 22) ∧ (h' 90 25) = (h 90 25) ∧ (h' 90 26) = (h 90 26) ∧ (h' 90 28) = (h 90 28) ∧ (h' 90 29) = (h 90 29) ∧ (h' 90 30) = (h 90 30) ∧ (h' 90 34) = (h 90 34) ∧ (h' 90 7) = 0 ∧ (h' 90 8) = 0 ∧ (h' 90 2) = 0) ∧ h' 91 = h 91 ∧ h' 95 = h 95 ∧ h' 96 = h 96 ∧ h' 97 = h 97 ∧ h' 98 = h 98 ∧ h' 99 = h 99 ∧ h' 100 = h 100 ∧ h' 103 = h 103 ∧ h' 104 = h 104 ∧ h' 105 = h 105 ∧ h' 106 = h 106 ∧ h' 109 = h 109 ∧ h' 114 = h 114 ∧ (∃ n : Int, 0 ≤ n ∧ n ≤ 1000 ∧ (h' 92) n = 0)
set_option maxHeartbeats 4000000 in
theorem c_Mo_cutAll_90 {u : ov_U} {F : ov_H × ov_Z} {z : ov_Z} {h : ov_H} (d : Nat) (hd : 2 ≤ d) (U : ov_cap u) (I : ov_N F z h) : ov_T u d ov_m206 [ov_r 90] z h (P_Mo_cutAll_90 F z h) := by
  refine ov_en rfl (Nat.le_of_ble_eq_true rfl) ?_
  show ov_R u d ov_m206 0 [(0, ov_r 90)] [] z h (P_Mo_cutAll_90 F z h)
  refine ov_blk (ls2 := [(0, ov_r 90)]) (st2 := [ov_r 90, ov_r 90]) (pc2 := 2) b_206_0_2 rfl rfl ?_
  refine ov_getf (v := ov_i (h 90 2)) d_206_2 fl_Mo_11 (zb_90 I) (zs_90 I) rfl ?_
  have g1 := rg_90_2 I
  refine ov_putf (x := (h 90 2)) d_206_5 fl_Mo_158 (zb_90 I) (zs_90 I) rfl nk_0 rfl ?_
  have I2 := up_90_3 (x := (h 90 2)) I (by omega)
  refine ov_blk (ls2 := [(0, ov_r 90)]) (st2 := [ov_i 0, ov_r 90]) (pc2 := 10) b_206_8_2 rfl rfl ?_
  refine ov_putf (x := 0) d_206_10 fl_Mo_11 (zb_90 I2) (zs_90 I2) rfl nk_0 rfl ?_
  have I3 := up_90_2 (x := 0) I2 (by omega)
  refine ov_blk (ls2 := [(0, ov_r 90), (1, ov_i 0), (2, ov_i 0)]) (st2 := []) (pc2 := 17) b_206_13_4 rfl rfl ?_
  have L7 : ∀ (n4 : Nat) (x1 : Int) (x2 : Int) (z8 : ov_Z) (h9 : ov_H) (I10 : ov_N F z8 h9) (E11 : h9 91 = h 91) (E12 : h9 95 = h 95) (E13 : h9 96 = h 96) (E14 : h9 97 = h 97) (E15 : h9 98 = h 98) (E16 : h9 99 = h 99) (E17 : h9 100 = h 100) (E18 : h9 103 = h 103) (E19 : h9 104 = h 104) (E20 : h9 105 = h 105) (E21 : h9 106 = h 106) (E22 : h9 109 = h 109) (E23 : h9 114 = h 114) (q6 : 0 ≤ x1 ∧ x1 ≤ x2 ∧ 0 ≤ x2 ∧ x2 ≤ 1000 ∧ (h9 90 3) ≤ 1000 ∧ (h9 90 2) = 0 ∧ (h9 90 7) = (h 90 7) ∧ (h9 90 8) = (h 90 8) ∧ (h9 90 13) = (h 90 13) ∧ (h9 90 20) = (h 90 20) ∧ (h9 90 22) = (h 90 22) ∧ (h9 90 25) = (h 90 25) ∧ (h9 90 26) = (h 90 26) ∧ (h9 90 28) = (h 90 28) ∧ (h9 90 29) = (h 90 29) ∧ (h9 90 30) = (h 90 30) ∧ (h9 90 34) = (h 90 34)), 1000 - x2 < (n4 : Int) → ov_R u d ov_m206 17 [(0, ov_r 90), (1, ov_i x1), (2, ov_i x2)] [] z8 h9 (P_Mo_cutAll_90 F z h) := by
    intro n4
    induction n4 with
    | zero =>
      intro x1 x2 z8 h9 I10 E11 E12 E13 E14 E15 E16 E17 E18 E19 E20 E21 E22 E23 q6 hn24
      exact absurd hn24 (by omega)
    | succ n4 ih5 =>
      intro x1 x2 z8 h9 I10 E11 E12 E13 E14 E15 E16 E17 E18 E19 E20 E21 E22 E23 q6 hn24
      refine ov_blk (ls2 := [(0, ov_r 90), (1, ov_i x1), (2, ov_i x2)]) (st2 := [ov_r 90, ov_i x2]) (pc2 := 19) b_206_17_2 rfl rfl ?_
      refine ov_getf (v := ov_i (h9 90 3)) d_206_19 fl_Mo_158 (zb_90 I10) (zs_90 I10) rfl ?_
      have g25 := rg_90_3 I10
      refine ov_icge (tgt := 279) d_206_22 (by decide) (by omega) (by omega) (fun c26 => ?_) (fun c26 => ?_)
      · skip
        refine ov_blk (ls2 := [(0, ov_r 90), (1, ov_i x1), (2, ov_i x2)]) (st2 := [ov_r 90]) (pc2 := 280) b_206_279_1 rfl rfl ?_
        refine ov_getf (v := ov_r 92) d_206_280 fl_Mo_24 (zb_90 I10) (zs_90 I10) (congrArg ov_r (rg_90_4 I10)) ?_
        refine ov_blk (ls2 := [(0, ov_r 90), (1, ov_i x1), (2, ov_i x2)]) (st2 := [ov_i 0, ov_i x1, ov_r 92]) (pc2 := 285) b_206_283_2 rfl rfl ?_
        refine ov_iast d_206_285 (zb_92 I10) (zs_92 I10) (by omega) ?_
        have I27 := ua_92 (k := x1) (x := 0) I10 (by omega)
        refine ov_blk (ls2 := [(0, ov_r 90), (1, ov_i x1), (2, ov_i x2)]) (st2 := [ov_r 90]) (pc2 := 287) b_206_286_1 rfl rfl ?_
        refine ov_getf (v := ov_r 93) d_206_287 fl_Mo_27 (zb_90 I27) (zs_90 I27) (congrArg ov_r (rg_90_5 I27)) ?_
        refine ov_blk (ls2 := [(0, ov_r 90), (1, ov_i x1), (2, ov_i x2)]) (st2 := [ov_r 90, ov_i x1, ov_r 93]) (pc2 := 292) b_206_290_2 rfl rfl ?_
        refine ov_getf (v := ov_i (h9 90 3)) d_206_292 fl_Mo_158 (zb_90 I27) (zs_90 I27) rfl ?_
        refine ov_iast d_206_295 (zb_93 I27) (zs_93 I27) (by omega) ?_
        have I29 := ua_93 (k := x1) (x := (h9 90 3)) I27 (by omega)
        refine ov_blk (ls2 := [(0, ov_r 90), (1, ov_i x1), (2, ov_i x2)]) (st2 := [ov_i 0, ov_r 90]) (pc2 := 298) b_206_296_2 rfl rfl ?_
        refine ov_putf (x := 0) d_206_298 fl_Mo_177 (zb_90 I29) (zs_90 I29) rfl nk_0 rfl ?_
        have I30 := up_90_7 (x := 0) I29 (by omega)
        refine ov_blk (ls2 := [(0, ov_r 90), (1, ov_i x1), (2, ov_i x2)]) (st2 := [ov_i 0, ov_r 90]) (pc2 := 303) b_206_301_2 rfl rfl ?_
        refine ov_putf (x := 0) d_206_303 fl_Mo_180 (zb_90 I30) (zs_90 I30) rfl nk_0 rfl ?_
        have I31 := up_90_8 (x := 0) I30 (by omega)
        exact ov_retv (st := []) d_206_306 rfl ⟨rfl, I31, (by show (h9 90 13) = (h 90 13) ∧ (h9 90 20) = (h 90 20) ∧ (h9 90 22) = (h 90 22) ∧ (h9 90 25) = (h 90 25) ∧ (h9 90 26) = (h 90 26) ∧ (h9 90 28) = (h 90 28) ∧ (h9 90 29) = (h 90 29) ∧ (h9 90 30) = (h 90 30) ∧ (h9 90 34) = (h 90 34) ∧ 0 = 0 ∧ 0 = 0 ∧ (h9 90 2) = 0; omega), E11, E12, E13, E14, E15, E16, E17, E18, E19, E20, E21, E22, E23, ⟨x1, by omega, by omega, by show ((ov_up h9 92 x1 0) 92 x1) = 0; rw [ov_up_row, ov_rs_eq]⟩⟩
      · skip
        refine ov_blk (ls2 := [(0, ov_r 90), (1, ov_i x1), (2, ov_i x2)]) (st2 := [ov_r 90]) (pc2 := 26) b_206_25_1 rfl rfl ?_
        refine ov_getf (v := ov_r 91) d_206_26 fl_Mo_14 (zb_90 I10) (zs_90 I10) (congrArg ov_r (rg_90_1 I10)) ?_
        refine ov_blk (ls2 := [(0, ov_r 90), (1, ov_i x1), (2, ov_i x2)]) (st2 := [ov_i x2, ov_r 91]) (pc2 := 30) b_206_29_1 rfl rfl ?_
        refine ov_iald d_206_30 (zb_91 I10) (zs_91 I10) (by omega) ?_
        rw [show h9 91 = h 91 from E11]
        have g32 := ra_91 I x2
        refine ov_blk (ls2 := [(0, ov_r 90), (1, ov_i x1), (2, ov_i x2), (3, ov_i (h 91 x2))]) (st2 := [ov_i 10, ov_i (h 91 x2)]) (pc2 := 35) b_206_31_3 rfl rfl ?_
        refine ov_iceq (tgt := 44) d_206_35 (by decide) (by omega) (by omega) (fun c33 => ?_) (fun c33 => ?_)
        · skip
          refine ov_blk (ls2 := [(0, ov_r 90), (1, ov_i x1), (2, ov_i (x2 + 1)), (3, ov_i (h 91 x2))]) (st2 := []) (pc2 := 47) b_206_44_1 rfl rfl ?_
          refine ov_goto (tgt := 17) d_206_47 (by decide) ?_
          refine ov_sub (ls2 := [(0, ov_r 90), (1, ov_i x1), (2, ov_i (x2 + 1))]) (List.Sublist.subset (by repeat (first | exact List.Sublist.refl _ | apply List.Sublist.cons_cons | apply List.Sublist.cons))) ?_
          exact ih5 x1 (x2 + 1) _ _ I10 E11 E12 E13 E14 E15 E16 E17 E18 E19 E20 E21 E22 E23 (by show 0 ≤ x1 ∧ x1 ≤ (x2 + 1) ∧ 0 ≤ (x2 + 1) ∧ (x2 + 1) ≤ 1000 ∧ (h9 90 3) ≤ 1000 ∧ (h9 90 2) = 0 ∧ (h9 90 7) = (h 90 7) ∧ (h9 90 8) = (h 90 8) ∧ (h9 90 13) = (h 90 13) ∧ (h9 90 20) = (h 90 20) ∧ (h9 90 22) = (h 90 22) ∧ (h9 90 25) = (h 90 25) ∧ (h9 90 26) = (h 90 26) ∧ (h9 90 28) = (h 90 28) ∧ (h9 90 29) = (h 90 29) ∧ (h9 90 30) = (h 90 30) ∧ (h9 90 34) = (h 90 34); omega) (by omega)
        · skip
          refine ov_blk (ls2 := [(0, ov_r 90), (1, ov_i x1), (2, ov_i x2), (3, ov_i (h 91 x2))]) (st2 := [ov_i 32, ov_i (h 91 x2)]) (pc2 := 41) b_206_38_2 rfl rfl ?_
          refine ov_icne (tgt := 50) d_206_41 (by decide) (by omega) (by omega) (fun c34 => ?_) (fun c34 => ?_)
          · skip
            refine ov_blk (ls2 := [(0, ov_r 90), (1, ov_i x1), (2, ov_i x2), (3, ov_i (h 91 x2)), (4, ov_i x2), (5, ov_l 0)]) (st2 := [ov_r 90]) (pc2 := 57) b_206_50_5 rfl rfl ?_
            refine ov_getf (v := ov_r 93) d_206_57 fl_Mo_27 (zb_90 I10) (zs_90 I10) (congrArg ov_r (rg_90_5 I10)) ?_
            refine ov_blk (ls2 := [(0, ov_r 90), (1, ov_i x1), (2, ov_i x2), (3, ov_i (h 91 x2)), (4, ov_i x2), (5, ov_l 0)]) (st2 := [ov_i x2, ov_i x1, ov_r 93]) (pc2 := 62) b_206_60_2 rfl rfl ?_
            refine ov_iast d_206_62 (zb_93 I10) (zs_93 I10) (by omega) ?_
            have I35 := ua_93 (k := x1) (x := x2) I10 (by omega)
            refine ov_blk (ls2 := [(0, ov_r 90), (1, ov_i x1), (2, ov_i x2), (3, ov_i (h 91 x2)), (4, ov_i x2), (5, ov_l 0)]) (st2 := [ov_i (h 91 x2)]) (pc2 := 64) b_206_63_1 rfl rfl ?_
            refine ov_cS (as := [ov_i (h 91 x2)]) (st := []) (d2 := d - 1) d_206_64 lk_Mo_154 rfl (Nat.le_of_ble_eq_true rfl) (by omega) (c_Mo_isLetter (d - 1) (by omega) U I35 (h 91 x2) (by omega)) ?_
            rintro _ _ _ ⟨v37, rfl, rfl, rfl, f36⟩
            show ov_R u d ov_m206 67 [(0, ov_r 90), (1, ov_i x1), (2, ov_i x2), (3, ov_i (h 91 x2)), (4, ov_i x2), (5, ov_l 0)] [ov_i v37] z8 (ov_up h9 93 x1 x2) (P_Mo_cutAll_90 F z h)
            have f38 : (v37 = 0 ∨ v37 = 1) ∧ (v37 = 1 → 97 ≤ (h 91 x2) ∧ (h 91 x2) ≤ 122) ∧ (v37 = 0 → (h 91 x2) < 97 ∨ 122 < (h 91 x2)) := f36
            clear f36
            refine ov_ifeq (tgt := 152) d_206_67 (by decide) (by omega) (fun c39 => ?_) (fun c39 => ?_)
            · skip
              have f38_ : v37 = 0 := by omega
              have f40 : (h 91 x2) < 97 ∨ 122 < (h 91 x2) := f38.2.2 (by omega)
              clear f38
              refine ov_blk (ls2 := [(0, ov_r 90), (1, ov_i x1), (2, ov_i x2), (3, ov_i (h 91 x2)), (4, ov_i x2), (5, ov_l 0)]) (st2 := [ov_i (h 91 x2)]) (pc2 := 153) b_206_152_1 rfl rfl ?_
              refine ov_cS (as := [ov_i (h 91 x2)]) (st := []) (d2 := d - 1) d_206_153 lk_Mo_167 rfl (Nat.le_of_ble_eq_true rfl) (by omega) (c_Mo_isDigit (d - 1) (by omega) U I35 (h 91 x2) (by omega)) ?_
              rintro _ _ _ ⟨v42, rfl, rfl, rfl, f41⟩
              show ov_R u d ov_m206 156 [(0, ov_r 90), (1, ov_i x1), (2, ov_i x2), (3, ov_i (h 91 x2)), (4, ov_i x2), (5, ov_l 0)] [ov_i v42] z8 (ov_up h9 93 x1 x2) (P_Mo_cutAll_90 F z h)
              have f43 : (v42 = 0 ∨ v42 = 1) ∧ (v42 = 1 → 48 ≤ (h 91 x2) ∧ (h 91 x2) ≤ 57) ∧ (v42 = 0 → (h 91 x2) < 48 ∨ 57 < (h 91 x2)) := f41
              clear f41
              refine ov_ifeq (tgt := 240) d_206_156 (by decide) (by omega) (fun c44 => ?_) (fun c44 => ?_)
              · skip
                have f43_ : v42 = 0 := by omega
                have f45 : (h 91 x2) < 48 ∨ 57 < (h 91 x2) := f43.2.2 (by omega)
                clear f43
                refine ov_blk (ls2 := [(0, ov_r 90), (1, ov_i x1), (2, ov_i x2), (3, ov_i (h 91 x2)), (4, ov_i x2), (5, ov_l (ov_w (h 91 x2)))]) (st2 := [ov_r 90]) (pc2 := 245) b_206_240_4 rfl rfl ?_
                have g46 := ov_wg (h 91 x2)
                have g47 := ov_wq (h 91 x2)
                refine ov_getf (v := ov_r 92) d_206_245 fl_Mo_24 (zb_90 I35) (zs_90 I35) (congrArg ov_r (rg_90_4 I35)) ?_
                refine ov_blk (ls2 := [(0, ov_r 90), (1, ov_i x1), (2, ov_i x2), (3, ov_i (h 91 x2)), (4, ov_i x2), (5, ov_l (ov_w (h 91 x2)))]) (st2 := [ov_i (h 91 x2), ov_i x1, ov_r 92]) (pc2 := 250) b_206_248_2 rfl rfl ?_
                refine ov_cS (as := [ov_i (h 91 x2)]) (st := [ov_i x1, ov_r 92]) (d2 := d - 1) d_206_250 lk_Mo_174 rfl (Nat.le_of_ble_eq_true rfl) (by omega) (c_Mo_isSignOf (d - 1) (by omega) U I35 (h 91 x2) (by omega)) ?_
                rintro _ _ _ ⟨v49, rfl, rfl, rfl, f48⟩
                show ov_R u d ov_m206 253 [(0, ov_r 90), (1, ov_i x1), (2, ov_i x2), (3, ov_i (h 91 x2)), (4, ov_i x2), (5, ov_l (ov_w (h 91 x2)))] [ov_i v49, ov_i x1, ov_r 92] z8 (ov_up h9 93 x1 x2) (P_Mo_cutAll_90 F z h)
                have f50 : (v49 = 0 ∨ v49 = 1) := f48
                clear f48
                refine ov_ifeq (tgt := 260) d_206_253 (by decide) (by omega) (fun c51 => ?_) (fun c51 => ?_)
                · skip
                  refine ov_blk (ls2 := [(0, ov_r 90), (1, ov_i x1), (2, ov_i x2), (3, ov_i (h 91 x2)), (4, ov_i x2), (5, ov_l (ov_w (h 91 x2)))]) (st2 := [ov_i 4, ov_i x1, ov_r 92]) (pc2 := 261) b_206_260_1 rfl rfl ?_
                  refine ov_iast d_206_261 (zb_92 I35) (zs_92 I35) (by omega) ?_
                  have I52 := ua_92 (k := x1) (x := 4) I35 (by omega)
                  refine ov_blk (ls2 := [(0, ov_r 90), (1, ov_i x1), (2, ov_i (x2 + 1)), (3, ov_i (h 91 x2)), (4, ov_i x2), (5, ov_l (ov_w (h 91 x2)))]) (st2 := [ov_r 90]) (pc2 := 266) b_206_262_2 rfl rfl ?_
                  refine ov_getf (v := ov_r 94) d_206_266 fl_Mo_30 (zb_90 I52) (zs_90 I52) (congrArg ov_r (rg_90_6 I52)) ?_
                  refine ov_blk (ls2 := [(0, ov_r 90), (1, ov_i x1), (2, ov_i (x2 + 1)), (3, ov_i (h 91 x2)), (4, ov_i x2), (5, ov_l (ov_w (h 91 x2)))]) (st2 := [ov_l (ov_w (h 91 x2)), ov_i x1, ov_r 94]) (pc2 := 272) b_206_269_2 rfl rfl ?_
                  refine ov_last d_206_272 (zb_94 I52) (zs_94 I52) (by omega) ?_
                  have I53 := ua_94 (k := x1) (x := (ov_w (h 91 x2))) I52 (by omega)
                  refine ov_blk (ls2 := [(0, ov_r 90), (1, ov_i (x1 + 1)), (2, ov_i (x2 + 1)), (3, ov_i (h 91 x2)), (4, ov_i x2), (5, ov_l (ov_w (h 91 x2)))]) (st2 := []) (pc2 := 276) b_206_273_1 rfl rfl ?_
                  refine ov_goto (tgt := 17) d_206_276 (by decide) ?_
                  refine ov_sub (ls2 := [(0, ov_r 90), (1, ov_i (x1 + 1)), (2, ov_i (x2 + 1))]) (List.Sublist.subset (by repeat (first | exact List.Sublist.refl _ | apply List.Sublist.cons_cons | apply List.Sublist.cons))) ?_
                  exact ih5 (x1 + 1) (x2 + 1) _ _ I53 E11 E12 E13 E14 E15 E16 E17 E18 E19 E20 E21 E22 E23 (by show 0 ≤ (x1 + 1) ∧ (x1 + 1) ≤ (x2 + 1) ∧ 0 ≤ (x2 + 1) ∧ (x2 + 1) ≤ 1000 ∧ (h9 90 3) ≤ 1000 ∧ (h9 90 2) = 0 ∧ (h9 90 7) = (h 90 7) ∧ (h9 90 8) = (h 90 8) ∧ (h9 90 13) = (h 90 13) ∧ (h9 90 20) = (h 90 20) ∧ (h9 90 22) = (h 90 22) ∧ (h9 90 25) = (h 90 25) ∧ (h9 90 26) = (h 90 26) ∧ (h9 90 28) = (h 90 28) ∧ (h9 90 29) = (h 90 29) ∧ (h9 90 30) = (h 90 30) ∧ (h9 90 34) = (h 90 34); omega) (by omega)
                · skip
                  refine ov_blk (ls2 := [(0, ov_r 90), (1, ov_i x1), (2, ov_i x2), (3, ov_i (h 91 x2)), (4, ov_i x2), (5, ov_l (ov_w (h 91 x2)))]) (st2 := [ov_i 3, ov_i x1, ov_r 92]) (pc2 := 257) b_206_256_1 rfl rfl ?_
                  refine ov_goto (tgt := 261) d_206_257 (by decide) ?_
                  refine ov_iast d_206_261 (zb_92 I35) (zs_92 I35) (by omega) ?_
                  have I54 := ua_92 (k := x1) (x := 3) I35 (by omega)
                  refine ov_blk (ls2 := [(0, ov_r 90), (1, ov_i x1), (2, ov_i (x2 + 1)), (3, ov_i (h 91 x2)), (4, ov_i x2), (5, ov_l (ov_w (h 91 x2)))]) (st2 := [ov_r 90]) (pc2 := 266) b_206_262_2 rfl rfl ?_
                  refine ov_getf (v := ov_r 94) d_206_266 fl_Mo_30 (zb_90 I54) (zs_90 I54) (congrArg ov_r (rg_90_6 I54)) ?_
                  refine ov_blk (ls2 := [(0, ov_r 90), (1, ov_i x1), (2, ov_i (x2 + 1)), (3, ov_i (h 91 x2)), (4, ov_i x2), (5, ov_l (ov_w (h 91 x2)))]) (st2 := [ov_l (ov_w (h 91 x2)), ov_i x1, ov_r 94]) (pc2 := 272) b_206_269_2 rfl rfl ?_
                  refine ov_last d_206_272 (zb_94 I54) (zs_94 I54) (by omega) ?_
                  have I55 := ua_94 (k := x1) (x := (ov_w (h 91 x2))) I54 (by omega)
                  refine ov_blk (ls2 := [(0, ov_r 90), (1, ov_i (x1 + 1)), (2, ov_i (x2 + 1)), (3, ov_i (h 91 x2)), (4, ov_i x2), (5, ov_l (ov_w (h 91 x2)))]) (st2 := []) (pc2 := 276) b_206_273_1 rfl rfl ?_
                  refine ov_goto (tgt := 17) d_206_276 (by decide) ?_
                  refine ov_sub (ls2 := [(0, ov_r 90), (1, ov_i (x1 + 1)), (2, ov_i (x2 + 1))]) (List.Sublist.subset (by repeat (first | exact List.Sublist.refl _ | apply List.Sublist.cons_cons | apply List.Sublist.cons))) ?_
                  exact ih5 (x1 + 1) (x2 + 1) _ _ I55 E11 E12 E13 E14 E15 E16 E17 E18 E19 E20 E21 E22 E23 (by show 0 ≤ (x1 + 1) ∧ (x1 + 1) ≤ (x2 + 1) ∧ 0 ≤ (x2 + 1) ∧ (x2 + 1) ≤ 1000 ∧ (h9 90 3) ≤ 1000 ∧ (h9 90 2) = 0 ∧ (h9 90 7) = (h 90 7) ∧ (h9 90 8) = (h 90 8) ∧ (h9 90 13) = (h 90 13) ∧ (h9 90 20) = (h 90 20) ∧ (h9 90 22) = (h 90 22) ∧ (h9 90 25) = (h 90 25) ∧ (h9 90 26) = (h 90 26) ∧ (h9 90 28) = (h 90 28) ∧ (h9 90 29) = (h 90 29) ∧ (h9 90 30) = (h 90 30) ∧ (h9 90 34) = (h 90 34); omega) (by omega)
              · skip
                have f43_ : v42 = 1 := by omega
                have f56 : 48 ≤ (h 91 x2) ∧ (h 91 x2) ≤ 57 := f43.2.1 (by omega)
                clear f43
                have L60 : ∀ (n57 : Nat) (x2_ : Int) (x5 : Int) (q59 : -9223372036854775808 ≤ x5 ∧ x5 ≤ 9223372036854775807 ∧ x2 ≤ x2_ ∧ x2_ ≤ 1000 ∧ (x2_ = x2 → x2_ < (h9 90 3) ∧ 48 ≤ (h 91 (x2_)) ∧ (h 91 (x2_)) ≤ 57)), 1000 - x2_ < (n57 : Int) → ov_R u d ov_m206 159 [(0, ov_r 90), (1, ov_i x1), (2, ov_i x2_), (3, ov_i (h 91 x2)), (4, ov_i x2), (5, ov_l x5)] [] z8 (ov_up h9 93 x1 x2) (P_Mo_cutAll_90 F z h) := by
                  intro n57
                  induction n57 with
                  | zero =>
                    intro x2_ x5 q59 hn61
                    exact absurd hn61 (by omega)
                  | succ n57 ih58 =>
                    intro x2_ x5 q59 hn61
                    refine ov_blk (ls2 := [(0, ov_r 90), (1, ov_i x1), (2, ov_i x2_), (3, ov_i (h 91 x2)), (4, ov_i x2), (5, ov_l x5)]) (st2 := [ov_r 90, ov_i x2_]) (pc2 := 161) b_206_159_2 rfl rfl ?_
                    refine ov_getf (v := ov_i (h9 90 3)) d_206_161 fl_Mo_158 (zb_90 I35) (zs_90 I35) rfl ?_
                    refine ov_icge (tgt := 218) d_206_164 (by decide) (by omega) (by omega) (fun c63 => ?_) (fun c63 => ?_)
                    · skip
                      refine ov_blk (ls2 := [(0, ov_r 90), (1, ov_i x1), (2, ov_i x2_), (3, ov_i (h 91 x2)), (4, ov_i x2), (5, ov_l x5)]) (st2 := [ov_r 90]) (pc2 := 219) b_206_218_1 rfl rfl ?_
                      refine ov_getf (v := ov_r 92) d_206_219 fl_Mo_24 (zb_90 I35) (zs_90 I35) (congrArg ov_r (rg_90_4 I35)) ?_
                      refine ov_blk (ls2 := [(0, ov_r 90), (1, ov_i x1), (2, ov_i x2_), (3, ov_i (h 91 x2)), (4, ov_i x2), (5, ov_l x5)]) (st2 := [ov_i 4, ov_i (x2_ - x2), ov_i x1, ov_r 92]) (pc2 := 228) b_206_222_5 rfl rfl ?_
                      refine ov_icle (tgt := 235) d_206_228 (by decide) (by omega) (by omega) (fun c64 => ?_) (fun c64 => ?_)
                      · skip
                        refine ov_blk (ls2 := [(0, ov_r 90), (1, ov_i x1), (2, ov_i x2_), (3, ov_i (h 91 x2)), (4, ov_i x2), (5, ov_l x5)]) (st2 := [ov_i 2, ov_i x1, ov_r 92]) (pc2 := 236) b_206_235_1 rfl rfl ?_
                        refine ov_iast d_206_236 (zb_92 I35) (zs_92 I35) (by omega) ?_
                        have I65 := ua_92 (k := x1) (x := 2) I35 (by omega)
                        refine ov_goto (tgt := 265) d_206_237 (by decide) ?_
                        refine ov_blk (ls2 := [(0, ov_r 90), (1, ov_i x1), (2, ov_i x2_), (3, ov_i (h 91 x2)), (4, ov_i x2), (5, ov_l x5)]) (st2 := [ov_r 90]) (pc2 := 266) b_206_265_1 rfl rfl ?_
                        refine ov_getf (v := ov_r 94) d_206_266 fl_Mo_30 (zb_90 I65) (zs_90 I65) (congrArg ov_r (rg_90_6 I65)) ?_
                        refine ov_blk (ls2 := [(0, ov_r 90), (1, ov_i x1), (2, ov_i x2_), (3, ov_i (h 91 x2)), (4, ov_i x2), (5, ov_l x5)]) (st2 := [ov_l x5, ov_i x1, ov_r 94]) (pc2 := 272) b_206_269_2 rfl rfl ?_
                        refine ov_last d_206_272 (zb_94 I65) (zs_94 I65) (by omega) ?_
                        have I66 := ua_94 (k := x1) (x := x5) I65 (by omega)
                        refine ov_blk (ls2 := [(0, ov_r 90), (1, ov_i (x1 + 1)), (2, ov_i x2_), (3, ov_i (h 91 x2)), (4, ov_i x2), (5, ov_l x5)]) (st2 := []) (pc2 := 276) b_206_273_1 rfl rfl ?_
                        refine ov_goto (tgt := 17) d_206_276 (by decide) ?_
                        refine ov_sub (ls2 := [(0, ov_r 90), (1, ov_i (x1 + 1)), (2, ov_i x2_)]) (List.Sublist.subset (by repeat (first | exact List.Sublist.refl _ | apply List.Sublist.cons_cons | apply List.Sublist.cons))) ?_
                        exact ih5 (x1 + 1) x2_ _ _ I66 E11 E12 E13 E14 E15 E16 E17 E18 E19 E20 E21 E22 E23 (by show 0 ≤ (x1 + 1) ∧ (x1 + 1) ≤ x2_ ∧ 0 ≤ x2_ ∧ x2_ ≤ 1000 ∧ (h9 90 3) ≤ 1000 ∧ (h9 90 2) = 0 ∧ (h9 90 7) = (h 90 7) ∧ (h9 90 8) = (h 90 8) ∧ (h9 90 13) = (h 90 13) ∧ (h9 90 20) = (h 90 20) ∧ (h9 90 22) = (h 90 22) ∧ (h9 90 25) = (h 90 25) ∧ (h9 90 26) = (h 90 26) ∧ (h9 90 28) = (h 90 28) ∧ (h9 90 29) = (h 90 29) ∧ (h9 90 30) = (h 90 30) ∧ (h9 90 34) = (h 90 34); omega) (by omega)
                      · skip
                        refine ov_blk (ls2 := [(0, ov_r 90), (1, ov_i x1), (2, ov_i x2_), (3, ov_i (h 91 x2)), (4, ov_i x2), (5, ov_l x5)]) (st2 := [ov_i 4, ov_i x1, ov_r 92]) (pc2 := 232) b_206_231_1 rfl rfl ?_
                        refine ov_goto (tgt := 236) d_206_232 (by decide) ?_
                        refine ov_iast d_206_236 (zb_92 I35) (zs_92 I35) (by omega) ?_
                        have I67 := ua_92 (k := x1) (x := 4) I35 (by omega)
                        refine ov_goto (tgt := 265) d_206_237 (by decide) ?_
                        refine ov_blk (ls2 := [(0, ov_r 90), (1, ov_i x1), (2, ov_i x2_), (3, ov_i (h 91 x2)), (4, ov_i x2), (5, ov_l x5)]) (st2 := [ov_r 90]) (pc2 := 266) b_206_265_1 rfl rfl ?_
                        refine ov_getf (v := ov_r 94) d_206_266 fl_Mo_30 (zb_90 I67) (zs_90 I67) (congrArg ov_r (rg_90_6 I67)) ?_
                        refine ov_blk (ls2 := [(0, ov_r 90), (1, ov_i x1), (2, ov_i x2_), (3, ov_i (h 91 x2)), (4, ov_i x2), (5, ov_l x5)]) (st2 := [ov_l x5, ov_i x1, ov_r 94]) (pc2 := 272) b_206_269_2 rfl rfl ?_
                        refine ov_last d_206_272 (zb_94 I67) (zs_94 I67) (by omega) ?_
                        have I68 := ua_94 (k := x1) (x := x5) I67 (by omega)
                        refine ov_blk (ls2 := [(0, ov_r 90), (1, ov_i (x1 + 1)), (2, ov_i x2_), (3, ov_i (h 91 x2)), (4, ov_i x2), (5, ov_l x5)]) (st2 := []) (pc2 := 276) b_206_273_1 rfl rfl ?_
                        refine ov_goto (tgt := 17) d_206_276 (by decide) ?_
                        refine ov_sub (ls2 := [(0, ov_r 90), (1, ov_i (x1 + 1)), (2, ov_i x2_)]) (List.Sublist.subset (by repeat (first | exact List.Sublist.refl _ | apply List.Sublist.cons_cons | apply List.Sublist.cons))) ?_
                        exact ih5 (x1 + 1) x2_ _ _ I68 E11 E12 E13 E14 E15 E16 E17 E18 E19 E20 E21 E22 E23 (by show 0 ≤ (x1 + 1) ∧ (x1 + 1) ≤ x2_ ∧ 0 ≤ x2_ ∧ x2_ ≤ 1000 ∧ (h9 90 3) ≤ 1000 ∧ (h9 90 2) = 0 ∧ (h9 90 7) = (h 90 7) ∧ (h9 90 8) = (h 90 8) ∧ (h9 90 13) = (h 90 13) ∧ (h9 90 20) = (h 90 20) ∧ (h9 90 22) = (h 90 22) ∧ (h9 90 25) = (h 90 25) ∧ (h9 90 26) = (h 90 26) ∧ (h9 90 28) = (h 90 28) ∧ (h9 90 29) = (h 90 29) ∧ (h9 90 30) = (h 90 30) ∧ (h9 90 34) = (h 90 34); omega) (by omega)
                    · skip
                      refine ov_blk (ls2 := [(0, ov_r 90), (1, ov_i x1), (2, ov_i x2_), (3, ov_i (h 91 x2)), (4, ov_i x2), (5, ov_l x5)]) (st2 := [ov_r 90]) (pc2 := 168) b_206_167_1 rfl rfl ?_
                      refine ov_getf (v := ov_r 91) d_206_168 fl_Mo_14 (zb_90 I35) (zs_90 I35) (congrArg ov_r (rg_90_1 I35)) ?_
                      refine ov_blk (ls2 := [(0, ov_r 90), (1, ov_i x1), (2, ov_i x2_), (3, ov_i (h 91 x2)), (4, ov_i x2), (5, ov_l x5)]) (st2 := [ov_i x2_, ov_r 91]) (pc2 := 172) b_206_171_1 rfl rfl ?_
                      refine ov_iald d_206_172 (zb_91 I35) (zs_91 I35) (by omega) ?_
                      show ov_R u d ov_m206 173 [(0, ov_r 90), (1, ov_i x1), (2, ov_i x2_), (3, ov_i (h 91 x2)), (4, ov_i x2), (5, ov_l x5)] [ov_i ((ov_up h9 93 x1 x2) 91 x2_)] z8 (ov_up h9 93 x1 x2) (P_Mo_cutAll_90 F z h)
                      rw [show (ov_up h9 93 x1 x2) 91 = h 91 from E11]
                      have g69 := ra_91 I x2_
                      refine ov_cS (as := [ov_i (h 91 x2_)]) (st := []) (d2 := d - 1) d_206_173 lk_Mo_167 rfl (Nat.le_of_ble_eq_true rfl) (by omega) (c_Mo_isDigit (d - 1) (by omega) U I35 (h 91 x2_) (by omega)) ?_
                      rintro _ _ _ ⟨v71, rfl, rfl, rfl, f70⟩
                      show ov_R u d ov_m206 176 [(0, ov_r 90), (1, ov_i x1), (2, ov_i x2_), (3, ov_i (h 91 x2)), (4, ov_i x2), (5, ov_l x5)] [ov_i v71] z8 (ov_up h9 93 x1 x2) (P_Mo_cutAll_90 F z h)
                      have f72 : (v71 = 0 ∨ v71 = 1) ∧ (v71 = 1 → 48 ≤ (h 91 x2_) ∧ (h 91 x2_) ≤ 57) ∧ (v71 = 0 → (h 91 x2_) < 48 ∨ 57 < (h 91 x2_)) := f70
                      clear f70
                      refine ov_ifeq (tgt := 218) d_206_176 (by decide) (by omega) (fun c73 => ?_) (fun c73 => ?_)
                      · skip
                        have f72_ : v71 = 0 := by omega
                        have f74 : (h 91 x2_) < 48 ∨ 57 < (h 91 x2_) := f72.2.2 (by omega)
                        clear f72
                        refine ov_blk (ls2 := [(0, ov_r 90), (1, ov_i x1), (2, ov_i x2_), (3, ov_i (h 91 x2)), (4, ov_i x2), (5, ov_l x5)]) (st2 := [ov_r 90]) (pc2 := 219) b_206_218_1 rfl rfl ?_
                        refine ov_getf (v := ov_r 92) d_206_219 fl_Mo_24 (zb_90 I35) (zs_90 I35) (congrArg ov_r (rg_90_4 I35)) ?_
                        refine ov_blk (ls2 := [(0, ov_r 90), (1, ov_i x1), (2, ov_i x2_), (3, ov_i (h 91 x2)), (4, ov_i x2), (5, ov_l x5)]) (st2 := [ov_i 4, ov_i (x2_ - x2), ov_i x1, ov_r 92]) (pc2 := 228) b_206_222_5 rfl rfl ?_
                        refine ov_icle (tgt := 235) d_206_228 (by decide) (by omega) (by omega) (fun c75 => ?_) (fun c75 => ?_)
                        · skip
                          refine ov_blk (ls2 := [(0, ov_r 90), (1, ov_i x1), (2, ov_i x2_), (3, ov_i (h 91 x2)), (4, ov_i x2), (5, ov_l x5)]) (st2 := [ov_i 2, ov_i x1, ov_r 92]) (pc2 := 236) b_206_235_1 rfl rfl ?_
                          refine ov_iast d_206_236 (zb_92 I35) (zs_92 I35) (by omega) ?_
                          have I76 := ua_92 (k := x1) (x := 2) I35 (by omega)
                          refine ov_goto (tgt := 265) d_206_237 (by decide) ?_
                          refine ov_blk (ls2 := [(0, ov_r 90), (1, ov_i x1), (2, ov_i x2_), (3, ov_i (h 91 x2)), (4, ov_i x2), (5, ov_l x5)]) (st2 := [ov_r 90]) (pc2 := 266) b_206_265_1 rfl rfl ?_
                          refine ov_getf (v := ov_r 94) d_206_266 fl_Mo_30 (zb_90 I76) (zs_90 I76) (congrArg ov_r (rg_90_6 I76)) ?_
                          refine ov_blk (ls2 := [(0, ov_r 90), (1, ov_i x1), (2, ov_i x2_), (3, ov_i (h 91 x2)), (4, ov_i x2), (5, ov_l x5)]) (st2 := [ov_l x5, ov_i x1, ov_r 94]) (pc2 := 272) b_206_269_2 rfl rfl ?_
                          refine ov_last d_206_272 (zb_94 I76) (zs_94 I76) (by omega) ?_
                          have I77 := ua_94 (k := x1) (x := x5) I76 (by omega)
                          refine ov_blk (ls2 := [(0, ov_r 90), (1, ov_i (x1 + 1)), (2, ov_i x2_), (3, ov_i (h 91 x2)), (4, ov_i x2), (5, ov_l x5)]) (st2 := []) (pc2 := 276) b_206_273_1 rfl rfl ?_
                          refine ov_goto (tgt := 17) d_206_276 (by decide) ?_
                          refine ov_sub (ls2 := [(0, ov_r 90), (1, ov_i (x1 + 1)), (2, ov_i x2_)]) (List.Sublist.subset (by repeat (first | exact List.Sublist.refl _ | apply List.Sublist.cons_cons | apply List.Sublist.cons))) ?_
                          exact ih5 (x1 + 1) x2_ _ _ I77 E11 E12 E13 E14 E15 E16 E17 E18 E19 E20 E21 E22 E23 (by show 0 ≤ (x1 + 1) ∧ (x1 + 1) ≤ x2_ ∧ 0 ≤ x2_ ∧ x2_ ≤ 1000 ∧ (h9 90 3) ≤ 1000 ∧ (h9 90 2) = 0 ∧ (h9 90 7) = (h 90 7) ∧ (h9 90 8) = (h 90 8) ∧ (h9 90 13) = (h 90 13) ∧ (h9 90 20) = (h 90 20) ∧ (h9 90 22) = (h 90 22) ∧ (h9 90 25) = (h 90 25) ∧ (h9 90 26) = (h 90 26) ∧ (h9 90 28) = (h 90 28) ∧ (h9 90 29) = (h 90 29) ∧ (h9 90 30) = (h 90 30) ∧ (h9 90 34) = (h 90 34); omega) (by omega)
                        · skip
                          refine ov_blk (ls2 := [(0, ov_r 90), (1, ov_i x1), (2, ov_i x2_), (3, ov_i (h 91 x2)), (4, ov_i x2), (5, ov_l x5)]) (st2 := [ov_i 4, ov_i x1, ov_r 92]) (pc2 := 232) b_206_231_1 rfl rfl ?_
                          refine ov_goto (tgt := 236) d_206_232 (by decide) ?_
                          refine ov_iast d_206_236 (zb_92 I35) (zs_92 I35) (by omega) ?_
                          have I78 := ua_92 (k := x1) (x := 4) I35 (by omega)
                          refine ov_goto (tgt := 265) d_206_237 (by decide) ?_
                          refine ov_blk (ls2 := [(0, ov_r 90), (1, ov_i x1), (2, ov_i x2_), (3, ov_i (h 91 x2)), (4, ov_i x2), (5, ov_l x5)]) (st2 := [ov_r 90]) (pc2 := 266) b_206_265_1 rfl rfl ?_
                          refine ov_getf (v := ov_r 94) d_206_266 fl_Mo_30 (zb_90 I78) (zs_90 I78) (congrArg ov_r (rg_90_6 I78)) ?_
                          refine ov_blk (ls2 := [(0, ov_r 90), (1, ov_i x1), (2, ov_i x2_), (3, ov_i (h 91 x2)), (4, ov_i x2), (5, ov_l x5)]) (st2 := [ov_l x5, ov_i x1, ov_r 94]) (pc2 := 272) b_206_269_2 rfl rfl ?_
                          refine ov_last d_206_272 (zb_94 I78) (zs_94 I78) (by omega) ?_
                          have I79 := ua_94 (k := x1) (x := x5) I78 (by omega)
                          refine ov_blk (ls2 := [(0, ov_r 90), (1, ov_i (x1 + 1)), (2, ov_i x2_), (3, ov_i (h 91 x2)), (4, ov_i x2), (5, ov_l x5)]) (st2 := []) (pc2 := 276) b_206_273_1 rfl rfl ?_
                          refine ov_goto (tgt := 17) d_206_276 (by decide) ?_
                          refine ov_sub (ls2 := [(0, ov_r 90), (1, ov_i (x1 + 1)), (2, ov_i x2_)]) (List.Sublist.subset (by repeat (first | exact List.Sublist.refl _ | apply List.Sublist.cons_cons | apply List.Sublist.cons))) ?_
                          exact ih5 (x1 + 1) x2_ _ _ I79 E11 E12 E13 E14 E15 E16 E17 E18 E19 E20 E21 E22 E23 (by show 0 ≤ (x1 + 1) ∧ (x1 + 1) ≤ x2_ ∧ 0 ≤ x2_ ∧ x2_ ≤ 1000 ∧ (h9 90 3) ≤ 1000 ∧ (h9 90 2) = 0 ∧ (h9 90 7) = (h 90 7) ∧ (h9 90 8) = (h 90 8) ∧ (h9 90 13) = (h 90 13) ∧ (h9 90 20) = (h 90 20) ∧ (h9 90 22) = (h 90 22) ∧ (h9 90 25) = (h 90 25) ∧ (h9 90 26) = (h 90 26) ∧ (h9 90 28) = (h 90 28) ∧ (h9 90 29) = (h 90 29) ∧ (h9 90 30) = (h 90 30) ∧ (h9 90 34) = (h 90 34); omega) (by omega)
                      · skip
                        have f72_ : v71 = 1 := by omega
                        have f80 : 48 ≤ (h 91 x2_) ∧ (h 91 x2_) ≤ 57 := f72.2.1 (by omega)
                        clear f72
                        refine ov_blk (ls2 := [(0, ov_r 90), (1, ov_i x1), (2, ov_i x2_), (3, ov_i (h 91 x2)), (4, ov_i x2), (5, ov_l x5)]) (st2 := [ov_i 4, ov_i (x2_ - x2)]) (pc2 := 184) b_206_179_4 rfl rfl ?_
                        refine ov_icge (tgt := 208) d_206_184 (by decide) (by omega) (by omega) (fun c81 => ?_) (fun c81 => ?_)
                        · skip
                          refine ov_blk (ls2 := [(0, ov_r 90), (1, ov_i x1), (2, ov_i (x2_ + 1)), (3, ov_i (h 91 x2)), (4, ov_i x2), (5, ov_l x5)]) (st2 := []) (pc2 := 215) b_206_208_3 rfl rfl ?_
                          refine ov_goto (tgt := 159) d_206_215 (by decide) ?_
                          exact ih58 (x2_ + 1) x5 (by show -9223372036854775808 ≤ x5 ∧ x5 ≤ 9223372036854775807 ∧ x2 ≤ (x2_ + 1) ∧ (x2_ + 1) ≤ 1000 ∧ ((x2_ + 1) = x2 → (x2_ + 1) < (h9 90 3) ∧ 48 ≤ (h 91 ((x2_ + 1))) ∧ (h 91 ((x2_ + 1))) ≤ 57); omega) (by omega)
                        · skip
                          refine ov_ldc2 (n := 10) d_206_187 kc_Mo_170 ?_
                          refine ov_blk (ls2 := [(0, ov_r 90), (1, ov_i x1), (2, ov_i x2_), (3, ov_i (h 91 x2)), (4, ov_i x2), (5, ov_l x5)]) (st2 := [ov_l (10 * x5)]) (pc2 := 193) b_206_190_2 rfl rfl ?_
                          refine ov_havl (fun w82 gw82 qw82 => ?_)
                          refine ov_blk (ls2 := [(0, ov_r 90), (1, ov_i x1), (2, ov_i x2_), (3, ov_i (h 91 x2)), (4, ov_i x2), (5, ov_l x5)]) (st2 := [ov_r 90, ov_l w82]) (pc2 := 194) b_206_193_1 rfl rfl ?_
                          refine ov_getf (v := ov_r 91) d_206_194 fl_Mo_14 (zb_90 I35) (zs_90 I35) (congrArg ov_r (rg_90_1 I35)) ?_
                          refine ov_blk (ls2 := [(0, ov_r 90), (1, ov_i x1), (2, ov_i x2_), (3, ov_i (h 91 x2)), (4, ov_i x2), (5, ov_l x5)]) (st2 := [ov_i x2_, ov_r 91, ov_l w82]) (pc2 := 198) b_206_197_1 rfl rfl ?_
                          refine ov_iald d_206_198 (zb_91 I35) (zs_91 I35) (by omega) ?_
                          show ov_R u d ov_m206 199 [(0, ov_r 90), (1, ov_i x1), (2, ov_i x2_), (3, ov_i (h 91 x2)), (4, ov_i x2), (5, ov_l x5)] [ov_i ((ov_up h9 93 x1 x2) 91 x2_), ov_l w82] z8 (ov_up h9 93 x1 x2) (P_Mo_cutAll_90 F z h)
                          rw [show (ov_up h9 93 x1 x2) 91 = h 91 from E11]
                          refine ov_blk (ls2 := [(0, ov_r 90), (1, ov_i x1), (2, ov_i x2_), (3, ov_i (h 91 x2)), (4, ov_i x2), (5, ov_l x5)]) (st2 := [ov_l (w82 + (ov_w (h 91 x2_)))]) (pc2 := 201) b_206_199_2 rfl rfl ?_
                          have g84 := ov_wg (h 91 x2_)
                          have g85 := ov_wq (h 91 x2_)
                          refine ov_havl (fun w86 gw86 qw86 => ?_)
                          refine ov_ldc2 (n := 48) d_206_201 kc_Mo_172 ?_
                          refine ov_blk (ls2 := [(0, ov_r 90), (1, ov_i x1), (2, ov_i x2_), (3, ov_i (h 91 x2)), (4, ov_i x2), (5, ov_l x5)]) (st2 := [ov_l (w86 - 48)]) (pc2 := 205) b_206_204_1 rfl rfl ?_
                          refine ov_havl (fun w87 gw87 qw87 => ?_)
                          refine ov_goto (tgt := 210) d_206_205 (by decide) ?_
                          refine ov_blk (ls2 := [(0, ov_r 90), (1, ov_i x1), (2, ov_i (x2_ + 1)), (3, ov_i (h 91 x2)), (4, ov_i x2), (5, ov_l w87)]) (st2 := []) (pc2 := 215) b_206_210_2 rfl rfl ?_
                          refine ov_goto (tgt := 159) d_206_215 (by decide) ?_
                          exact ih58 (x2_ + 1) w87 (by show -9223372036854775808 ≤ w87 ∧ w87 ≤ 9223372036854775807 ∧ x2 ≤ (x2_ + 1) ∧ (x2_ + 1) ≤ 1000 ∧ ((x2_ + 1) = x2 → (x2_ + 1) < (h9 90 3) ∧ 48 ≤ (h 91 ((x2_ + 1))) ∧ (h 91 ((x2_ + 1))) ≤ 57); omega) (by omega)
                exact L60 1001 x2 0 (by show -9223372036854775808 ≤ 0 ∧ 0 ≤ 9223372036854775807 ∧ x2 ≤ x2 ∧ x2 ≤ 1000 ∧ (x2 = x2 → x2 < (h9 90 3) ∧ 48 ≤ (h 91 (x2)) ∧ (h 91 (x2)) ≤ 57); omega) (by omega)
            · skip
              have f38_ : v37 = 1 := by omega
              have f88 : 97 ≤ (h 91 x2) ∧ (h 91 x2) ≤ 122 := f38.2.1 (by omega)
              clear f38
              have L92 : ∀ (n89 : Nat) (x2__ : Int) (x5_ : Int) (q91 : -9223372036854775808 ≤ x5_ ∧ x5_ ≤ 9223372036854775807 ∧ x2 ≤ x2__ ∧ x2__ ≤ 1000 ∧ (x2__ = x2 → x2__ < (h9 90 3) ∧ 97 ≤ (h 91 (x2__)) ∧ (h 91 (x2__)) ≤ 122)), 1000 - x2__ < (n89 : Int) → ov_R u d ov_m206 70 [(0, ov_r 90), (1, ov_i x1), (2, ov_i x2__), (3, ov_i (h 91 x2)), (4, ov_i x2), (5, ov_l x5_)] [] z8 (ov_up h9 93 x1 x2) (P_Mo_cutAll_90 F z h) := by
                intro n89
                induction n89 with
                | zero =>
                  intro x2__ x5_ q91 hn93
                  exact absurd hn93 (by omega)
                | succ n89 ih90 =>
                  intro x2__ x5_ q91 hn93
                  refine ov_blk (ls2 := [(0, ov_r 90), (1, ov_i x1), (2, ov_i x2__), (3, ov_i (h 91 x2)), (4, ov_i x2), (5, ov_l x5_)]) (st2 := [ov_r 90, ov_i x2__]) (pc2 := 72) b_206_70_2 rfl rfl ?_
                  refine ov_getf (v := ov_i (h9 90 3)) d_206_72 fl_Mo_158 (zb_90 I35) (zs_90 I35) rfl ?_
                  refine ov_icge (tgt := 129) d_206_75 (by decide) (by omega) (by omega) (fun c95 => ?_) (fun c95 => ?_)
                  · skip
                    refine ov_blk (ls2 := [(0, ov_r 90), (1, ov_i x1), (2, ov_i x2__), (3, ov_i (h 91 x2)), (4, ov_i x2), (5, ov_l x5_)]) (st2 := [ov_r 90]) (pc2 := 130) b_206_129_1 rfl rfl ?_
                    refine ov_getf (v := ov_r 92) d_206_130 fl_Mo_24 (zb_90 I35) (zs_90 I35) (congrArg ov_r (rg_90_4 I35)) ?_
                    refine ov_blk (ls2 := [(0, ov_r 90), (1, ov_i x1), (2, ov_i x2__), (3, ov_i (h 91 x2)), (4, ov_i x2), (5, ov_l x5_)]) (st2 := [ov_i 8, ov_i (x2__ - x2), ov_i x1, ov_r 92]) (pc2 := 140) b_206_133_5 rfl rfl ?_
                    refine ov_icle (tgt := 147) d_206_140 (by decide) (by omega) (by omega) (fun c96 => ?_) (fun c96 => ?_)
                    · skip
                      refine ov_blk (ls2 := [(0, ov_r 90), (1, ov_i x1), (2, ov_i x2__), (3, ov_i (h 91 x2)), (4, ov_i x2), (5, ov_l x5_)]) (st2 := [ov_i 1, ov_i x1, ov_r 92]) (pc2 := 148) b_206_147_1 rfl rfl ?_
                      refine ov_iast d_206_148 (zb_92 I35) (zs_92 I35) (by omega) ?_
                      have I97 := ua_92 (k := x1) (x := 1) I35 (by omega)
                      refine ov_goto (tgt := 265) d_206_149 (by decide) ?_
                      refine ov_blk (ls2 := [(0, ov_r 90), (1, ov_i x1), (2, ov_i x2__), (3, ov_i (h 91 x2)), (4, ov_i x2), (5, ov_l x5_)]) (st2 := [ov_r 90]) (pc2 := 266) b_206_265_1 rfl rfl ?_
                      refine ov_getf (v := ov_r 94) d_206_266 fl_Mo_30 (zb_90 I97) (zs_90 I97) (congrArg ov_r (rg_90_6 I97)) ?_
                      refine ov_blk (ls2 := [(0, ov_r 90), (1, ov_i x1), (2, ov_i x2__), (3, ov_i (h 91 x2)), (4, ov_i x2), (5, ov_l x5_)]) (st2 := [ov_l x5_, ov_i x1, ov_r 94]) (pc2 := 272) b_206_269_2 rfl rfl ?_
                      refine ov_last d_206_272 (zb_94 I97) (zs_94 I97) (by omega) ?_
                      have I98 := ua_94 (k := x1) (x := x5_) I97 (by omega)
                      refine ov_blk (ls2 := [(0, ov_r 90), (1, ov_i (x1 + 1)), (2, ov_i x2__), (3, ov_i (h 91 x2)), (4, ov_i x2), (5, ov_l x5_)]) (st2 := []) (pc2 := 276) b_206_273_1 rfl rfl ?_
                      refine ov_goto (tgt := 17) d_206_276 (by decide) ?_
                      refine ov_sub (ls2 := [(0, ov_r 90), (1, ov_i (x1 + 1)), (2, ov_i x2__)]) (List.Sublist.subset (by repeat (first | exact List.Sublist.refl _ | apply List.Sublist.cons_cons | apply List.Sublist.cons))) ?_
                      exact ih5 (x1 + 1) x2__ _ _ I98 E11 E12 E13 E14 E15 E16 E17 E18 E19 E20 E21 E22 E23 (by show 0 ≤ (x1 + 1) ∧ (x1 + 1) ≤ x2__ ∧ 0 ≤ x2__ ∧ x2__ ≤ 1000 ∧ (h9 90 3) ≤ 1000 ∧ (h9 90 2) = 0 ∧ (h9 90 7) = (h 90 7) ∧ (h9 90 8) = (h 90 8) ∧ (h9 90 13) = (h 90 13) ∧ (h9 90 20) = (h 90 20) ∧ (h9 90 22) = (h 90 22) ∧ (h9 90 25) = (h 90 25) ∧ (h9 90 26) = (h 90 26) ∧ (h9 90 28) = (h 90 28) ∧ (h9 90 29) = (h 90 29) ∧ (h9 90 30) = (h 90 30) ∧ (h9 90 34) = (h 90 34); omega) (by omega)
                    · skip
                      refine ov_blk (ls2 := [(0, ov_r 90), (1, ov_i x1), (2, ov_i x2__), (3, ov_i (h 91 x2)), (4, ov_i x2), (5, ov_l x5_)]) (st2 := [ov_i 4, ov_i x1, ov_r 92]) (pc2 := 144) b_206_143_1 rfl rfl ?_
                      refine ov_goto (tgt := 148) d_206_144 (by decide) ?_
                      refine ov_iast d_206_148 (zb_92 I35) (zs_92 I35) (by omega) ?_
                      have I99 := ua_92 (k := x1) (x := 4) I35 (by omega)
                      refine ov_goto (tgt := 265) d_206_149 (by decide) ?_
                      refine ov_blk (ls2 := [(0, ov_r 90), (1, ov_i x1), (2, ov_i x2__), (3, ov_i (h 91 x2)), (4, ov_i x2), (5, ov_l x5_)]) (st2 := [ov_r 90]) (pc2 := 266) b_206_265_1 rfl rfl ?_
                      refine ov_getf (v := ov_r 94) d_206_266 fl_Mo_30 (zb_90 I99) (zs_90 I99) (congrArg ov_r (rg_90_6 I99)) ?_
                      refine ov_blk (ls2 := [(0, ov_r 90), (1, ov_i x1), (2, ov_i x2__), (3, ov_i (h 91 x2)), (4, ov_i x2), (5, ov_l x5_)]) (st2 := [ov_l x5_, ov_i x1, ov_r 94]) (pc2 := 272) b_206_269_2 rfl rfl ?_
                      refine ov_last d_206_272 (zb_94 I99) (zs_94 I99) (by omega) ?_
                      have I100 := ua_94 (k := x1) (x := x5_) I99 (by omega)
                      refine ov_blk (ls2 := [(0, ov_r 90), (1, ov_i (x1 + 1)), (2, ov_i x2__), (3, ov_i (h 91 x2)), (4, ov_i x2), (5, ov_l x5_)]) (st2 := []) (pc2 := 276) b_206_273_1 rfl rfl ?_
                      refine ov_goto (tgt := 17) d_206_276 (by decide) ?_
                      refine ov_sub (ls2 := [(0, ov_r 90), (1, ov_i (x1 + 1)), (2, ov_i x2__)]) (List.Sublist.subset (by repeat (first | exact List.Sublist.refl _ | apply List.Sublist.cons_cons | apply List.Sublist.cons))) ?_
                      exact ih5 (x1 + 1) x2__ _ _ I100 E11 E12 E13 E14 E15 E16 E17 E18 E19 E20 E21 E22 E23 (by show 0 ≤ (x1 + 1) ∧ (x1 + 1) ≤ x2__ ∧ 0 ≤ x2__ ∧ x2__ ≤ 1000 ∧ (h9 90 3) ≤ 1000 ∧ (h9 90 2) = 0 ∧ (h9 90 7) = (h 90 7) ∧ (h9 90 8) = (h 90 8) ∧ (h9 90 13) = (h 90 13) ∧ (h9 90 20) = (h 90 20) ∧ (h9 90 22) = (h 90 22) ∧ (h9 90 25) = (h 90 25) ∧ (h9 90 26) = (h 90 26) ∧ (h9 90 28) = (h 90 28) ∧ (h9 90 29) = (h 90 29) ∧ (h9 90 30) = (h 90 30) ∧ (h9 90 34) = (h 90 34); omega) (by omega)
                  · skip
                    refine ov_blk (ls2 := [(0, ov_r 90), (1, ov_i x1), (2, ov_i x2__), (3, ov_i (h 91 x2)), (4, ov_i x2), (5, ov_l x5_)]) (st2 := [ov_r 90]) (pc2 := 79) b_206_78_1 rfl rfl ?_
                    refine ov_getf (v := ov_r 91) d_206_79 fl_Mo_14 (zb_90 I35) (zs_90 I35) (congrArg ov_r (rg_90_1 I35)) ?_
                    refine ov_blk (ls2 := [(0, ov_r 90), (1, ov_i x1), (2, ov_i x2__), (3, ov_i (h 91 x2)), (4, ov_i x2), (5, ov_l x5_)]) (st2 := [ov_i x2__, ov_r 91]) (pc2 := 83) b_206_82_1 rfl rfl ?_
                    refine ov_iald d_206_83 (zb_91 I35) (zs_91 I35) (by omega) ?_
                    show ov_R u d ov_m206 84 [(0, ov_r 90), (1, ov_i x1), (2, ov_i x2__), (3, ov_i (h 91 x2)), (4, ov_i x2), (5, ov_l x5_)] [ov_i ((ov_up h9 93 x1 x2) 91 x2__)] z8 (ov_up h9 93 x1 x2) (P_Mo_cutAll_90 F z h)
                    rw [show (ov_up h9 93 x1 x2) 91 = h 91 from E11]
                    have g101 := ra_91 I x2__
                    refine ov_cS (as := [ov_i (h 91 x2__)]) (st := []) (d2 := d - 1) d_206_84 lk_Mo_154 rfl (Nat.le_of_ble_eq_true rfl) (by omega) (c_Mo_isLetter (d - 1) (by omega) U I35 (h 91 x2__) (by omega)) ?_
                    rintro _ _ _ ⟨v103, rfl, rfl, rfl, f102⟩
                    show ov_R u d ov_m206 87 [(0, ov_r 90), (1, ov_i x1), (2, ov_i x2__), (3, ov_i (h 91 x2)), (4, ov_i x2), (5, ov_l x5_)] [ov_i v103] z8 (ov_up h9 93 x1 x2) (P_Mo_cutAll_90 F z h)
                    have f104 : (v103 = 0 ∨ v103 = 1) ∧ (v103 = 1 → 97 ≤ (h 91 x2__) ∧ (h 91 x2__) ≤ 122) ∧ (v103 = 0 → (h 91 x2__) < 97 ∨ 122 < (h 91 x2__)) := f102
                    clear f102
                    refine ov_ifeq (tgt := 129) d_206_87 (by decide) (by omega) (fun c105 => ?_) (fun c105 => ?_)
                    · skip
                      have f104_ : v103 = 0 := by omega
                      have f106 : (h 91 x2__) < 97 ∨ 122 < (h 91 x2__) := f104.2.2 (by omega)
                      clear f104
                      refine ov_blk (ls2 := [(0, ov_r 90), (1, ov_i x1), (2, ov_i x2__), (3, ov_i (h 91 x2)), (4, ov_i x2), (5, ov_l x5_)]) (st2 := [ov_r 90]) (pc2 := 130) b_206_129_1 rfl rfl ?_
                      refine ov_getf (v := ov_r 92) d_206_130 fl_Mo_24 (zb_90 I35) (zs_90 I35) (congrArg ov_r (rg_90_4 I35)) ?_
                      refine ov_blk (ls2 := [(0, ov_r 90), (1, ov_i x1), (2, ov_i x2__), (3, ov_i (h 91 x2)), (4, ov_i x2), (5, ov_l x5_)]) (st2 := [ov_i 8, ov_i (x2__ - x2), ov_i x1, ov_r 92]) (pc2 := 140) b_206_133_5 rfl rfl ?_
                      refine ov_icle (tgt := 147) d_206_140 (by decide) (by omega) (by omega) (fun c107 => ?_) (fun c107 => ?_)
                      · skip
                        refine ov_blk (ls2 := [(0, ov_r 90), (1, ov_i x1), (2, ov_i x2__), (3, ov_i (h 91 x2)), (4, ov_i x2), (5, ov_l x5_)]) (st2 := [ov_i 1, ov_i x1, ov_r 92]) (pc2 := 148) b_206_147_1 rfl rfl ?_
                        refine ov_iast d_206_148 (zb_92 I35) (zs_92 I35) (by omega) ?_
                        have I108 := ua_92 (k := x1) (x := 1) I35 (by omega)
                        refine ov_goto (tgt := 265) d_206_149 (by decide) ?_
                        refine ov_blk (ls2 := [(0, ov_r 90), (1, ov_i x1), (2, ov_i x2__), (3, ov_i (h 91 x2)), (4, ov_i x2), (5, ov_l x5_)]) (st2 := [ov_r 90]) (pc2 := 266) b_206_265_1 rfl rfl ?_
                        refine ov_getf (v := ov_r 94) d_206_266 fl_Mo_30 (zb_90 I108) (zs_90 I108) (congrArg ov_r (rg_90_6 I108)) ?_
                        refine ov_blk (ls2 := [(0, ov_r 90), (1, ov_i x1), (2, ov_i x2__), (3, ov_i (h 91 x2)), (4, ov_i x2), (5, ov_l x5_)]) (st2 := [ov_l x5_, ov_i x1, ov_r 94]) (pc2 := 272) b_206_269_2 rfl rfl ?_
                        refine ov_last d_206_272 (zb_94 I108) (zs_94 I108) (by omega) ?_
                        have I109 := ua_94 (k := x1) (x := x5_) I108 (by omega)
                        refine ov_blk (ls2 := [(0, ov_r 90), (1, ov_i (x1 + 1)), (2, ov_i x2__), (3, ov_i (h 91 x2)), (4, ov_i x2), (5, ov_l x5_)]) (st2 := []) (pc2 := 276) b_206_273_1 rfl rfl ?_
                        refine ov_goto (tgt := 17) d_206_276 (by decide) ?_
                        refine ov_sub (ls2 := [(0, ov_r 90), (1, ov_i (x1 + 1)), (2, ov_i x2__)]) (List.Sublist.subset (by repeat (first | exact List.Sublist.refl _ | apply List.Sublist.cons_cons | apply List.Sublist.cons))) ?_
                        exact ih5 (x1 + 1) x2__ _ _ I109 E11 E12 E13 E14 E15 E16 E17 E18 E19 E20 E21 E22 E23 (by show 0 ≤ (x1 + 1) ∧ (x1 + 1) ≤ x2__ ∧ 0 ≤ x2__ ∧ x2__ ≤ 1000 ∧ (h9 90 3) ≤ 1000 ∧ (h9 90 2) = 0 ∧ (h9 90 7) = (h 90 7) ∧ (h9 90 8) = (h 90 8) ∧ (h9 90 13) = (h 90 13) ∧ (h9 90 20) = (h 90 20) ∧ (h9 90 22) = (h 90 22) ∧ (h9 90 25) = (h 90 25) ∧ (h9 90 26) = (h 90 26) ∧ (h9 90 28) = (h 90 28) ∧ (h9 90 29) = (h 90 29) ∧ (h9 90 30) = (h 90 30) ∧ (h9 90 34) = (h 90 34); omega) (by omega)
                      · skip
                        refine ov_blk (ls2 := [(0, ov_r 90), (1, ov_i x1), (2, ov_i x2__), (3, ov_i (h 91 x2)), (4, ov_i x2), (5, ov_l x5_)]) (st2 := [ov_i 4, ov_i x1, ov_r 92]) (pc2 := 144) b_206_143_1 rfl rfl ?_
                        refine ov_goto (tgt := 148) d_206_144 (by decide) ?_
                        refine ov_iast d_206_148 (zb_92 I35) (zs_92 I35) (by omega) ?_
                        have I110 := ua_92 (k := x1) (x := 4) I35 (by omega)
                        refine ov_goto (tgt := 265) d_206_149 (by decide) ?_
                        refine ov_blk (ls2 := [(0, ov_r 90), (1, ov_i x1), (2, ov_i x2__), (3, ov_i (h 91 x2)), (4, ov_i x2), (5, ov_l x5_)]) (st2 := [ov_r 90]) (pc2 := 266) b_206_265_1 rfl rfl ?_
                        refine ov_getf (v := ov_r 94) d_206_266 fl_Mo_30 (zb_90 I110) (zs_90 I110) (congrArg ov_r (rg_90_6 I110)) ?_
                        refine ov_blk (ls2 := [(0, ov_r 90), (1, ov_i x1), (2, ov_i x2__), (3, ov_i (h 91 x2)), (4, ov_i x2), (5, ov_l x5_)]) (st2 := [ov_l x5_, ov_i x1, ov_r 94]) (pc2 := 272) b_206_269_2 rfl rfl ?_
                        refine ov_last d_206_272 (zb_94 I110) (zs_94 I110) (by omega) ?_
                        have I111 := ua_94 (k := x1) (x := x5_) I110 (by omega)
                        refine ov_blk (ls2 := [(0, ov_r 90), (1, ov_i (x1 + 1)), (2, ov_i x2__), (3, ov_i (h 91 x2)), (4, ov_i x2), (5, ov_l x5_)]) (st2 := []) (pc2 := 276) b_206_273_1 rfl rfl ?_
                        refine ov_goto (tgt := 17) d_206_276 (by decide) ?_
                        refine ov_sub (ls2 := [(0, ov_r 90), (1, ov_i (x1 + 1)), (2, ov_i x2__)]) (List.Sublist.subset (by repeat (first | exact List.Sublist.refl _ | apply List.Sublist.cons_cons | apply List.Sublist.cons))) ?_
                        exact ih5 (x1 + 1) x2__ _ _ I111 E11 E12 E13 E14 E15 E16 E17 E18 E19 E20 E21 E22 E23 (by show 0 ≤ (x1 + 1) ∧ (x1 + 1) ≤ x2__ ∧ 0 ≤ x2__ ∧ x2__ ≤ 1000 ∧ (h9 90 3) ≤ 1000 ∧ (h9 90 2) = 0 ∧ (h9 90 7) = (h 90 7) ∧ (h9 90 8) = (h 90 8) ∧ (h9 90 13) = (h 90 13) ∧ (h9 90 20) = (h 90 20) ∧ (h9 90 22) = (h 90 22) ∧ (h9 90 25) = (h 90 25) ∧ (h9 90 26) = (h 90 26) ∧ (h9 90 28) = (h 90 28) ∧ (h9 90 29) = (h 90 29) ∧ (h9 90 30) = (h 90 30) ∧ (h9 90 34) = (h 90 34); omega) (by omega)
                    · skip
                      have f104_ : v103 = 1 := by omega
                      have f112 : 97 ≤ (h 91 x2__) ∧ (h 91 x2__) ≤ 122 := f104.2.1 (by omega)
                      clear f104
                      refine ov_blk (ls2 := [(0, ov_r 90), (1, ov_i x1), (2, ov_i x2__), (3, ov_i (h 91 x2)), (4, ov_i x2), (5, ov_l x5_)]) (st2 := [ov_i 8, ov_i (x2__ - x2)]) (pc2 := 96) b_206_90_4 rfl rfl ?_
                      refine ov_icge (tgt := 119) d_206_96 (by decide) (by omega) (by omega) (fun c113 => ?_) (fun c113 => ?_)
                      · skip
                        refine ov_blk (ls2 := [(0, ov_r 90), (1, ov_i x1), (2, ov_i (x2__ + 1)), (3, ov_i (h 91 x2)), (4, ov_i x2), (5, ov_l x5_)]) (st2 := []) (pc2 := 126) b_206_119_3 rfl rfl ?_
                        refine ov_goto (tgt := 70) d_206_126 (by decide) ?_
                        exact ih90 (x2__ + 1) x5_ (by show -9223372036854775808 ≤ x5_ ∧ x5_ ≤ 9223372036854775807 ∧ x2 ≤ (x2__ + 1) ∧ (x2__ + 1) ≤ 1000 ∧ ((x2__ + 1) = x2 → (x2__ + 1) < (h9 90 3) ∧ 97 ≤ (h 91 ((x2__ + 1))) ∧ (h 91 ((x2__ + 1))) ≤ 122); omega) (by omega)
                      · skip
                        refine ov_ldc2 (n := 37) d_206_99 kc_Mo_161 ?_
                        refine ov_blk (ls2 := [(0, ov_r 90), (1, ov_i x1), (2, ov_i x2__), (3, ov_i (h 91 x2)), (4, ov_i x2), (5, ov_l x5_)]) (st2 := [ov_l (37 * x5_)]) (pc2 := 105) b_206_102_2 rfl rfl ?_
                        refine ov_havl (fun w114 gw114 qw114 => ?_)
                        refine ov_blk (ls2 := [(0, ov_r 90), (1, ov_i x1), (2, ov_i x2__), (3, ov_i (h 91 x2)), (4, ov_i x2), (5, ov_l x5_)]) (st2 := [ov_r 90, ov_l w114]) (pc2 := 106) b_206_105_1 rfl rfl ?_
                        refine ov_getf (v := ov_r 91) d_206_106 fl_Mo_14 (zb_90 I35) (zs_90 I35) (congrArg ov_r (rg_90_1 I35)) ?_
                        refine ov_blk (ls2 := [(0, ov_r 90), (1, ov_i x1), (2, ov_i x2__), (3, ov_i (h 91 x2)), (4, ov_i x2), (5, ov_l x5_)]) (st2 := [ov_i x2__, ov_r 91, ov_l w114]) (pc2 := 110) b_206_109_1 rfl rfl ?_
                        refine ov_iald d_206_110 (zb_91 I35) (zs_91 I35) (by omega) ?_
                        show ov_R u d ov_m206 111 [(0, ov_r 90), (1, ov_i x1), (2, ov_i x2__), (3, ov_i (h 91 x2)), (4, ov_i x2), (5, ov_l x5_)] [ov_i ((ov_up h9 93 x1 x2) 91 x2__), ov_l w114] z8 (ov_up h9 93 x1 x2) (P_Mo_cutAll_90 F z h)
                        rw [show (ov_up h9 93 x1 x2) 91 = h 91 from E11]
                        refine ov_cS (as := [ov_i (h 91 x2__)]) (st := [ov_l w114]) (d2 := d - 1) d_206_111 lk_Mo_163 rfl (Nat.le_of_ble_eq_true rfl) (by omega) (c_Mo_rank (d - 1) (by omega) U I35 (h 91 x2__) (by omega)) ?_
                        rintro _ _ _ ⟨v117, rfl, rfl, rfl, f116⟩
                        show ov_R u d ov_m206 114 [(0, ov_r 90), (1, ov_i x1), (2, ov_i x2__), (3, ov_i (h 91 x2)), (4, ov_i x2), (5, ov_l x5_)] [ov_i v117, ov_l w114] z8 (ov_up h9 93 x1 x2) (P_Mo_cutAll_90 F z h)
                        have f118 : -2147483648 ≤ v117 ∧ v117 ≤ 2147483647 := f116
                        clear f116
                        refine ov_blk (ls2 := [(0, ov_r 90), (1, ov_i x1), (2, ov_i x2__), (3, ov_i (h 91 x2)), (4, ov_i x2), (5, ov_l x5_)]) (st2 := [ov_l (w114 + (ov_w v117))]) (pc2 := 116) b_206_114_2 rfl rfl ?_
                        have g119 := ov_wg v117
                        have g120 := ov_wq v117
                        refine ov_havl (fun w121 gw121 qw121 => ?_)
                        refine ov_goto (tgt := 121) d_206_116 (by decide) ?_
                        refine ov_blk (ls2 := [(0, ov_r 90), (1, ov_i x1), (2, ov_i (x2__ + 1)), (3, ov_i (h 91 x2)), (4, ov_i x2), (5, ov_l w121)]) (st2 := []) (pc2 := 126) b_206_121_2 rfl rfl ?_
                        refine ov_goto (tgt := 70) d_206_126 (by decide) ?_
                        exact ih90 (x2__ + 1) w121 (by show -9223372036854775808 ≤ w121 ∧ w121 ≤ 9223372036854775807 ∧ x2 ≤ (x2__ + 1) ∧ (x2__ + 1) ≤ 1000 ∧ ((x2__ + 1) = x2 → (x2__ + 1) < (h9 90 3) ∧ 97 ≤ (h 91 ((x2__ + 1))) ∧ (h 91 ((x2__ + 1))) ≤ 122); omega) (by omega)
              exact L92 1001 x2 0 (by show -9223372036854775808 ≤ 0 ∧ 0 ≤ 9223372036854775807 ∧ x2 ≤ x2 ∧ x2 ≤ 1000 ∧ (x2 = x2 → x2 < (h9 90 3) ∧ 97 ≤ (h 91 (x2)) ∧ (h 91 (x2)) ≤ 122); omega) (by omega)
          · skip
            refine ov_blk (ls2 := [(0, ov_r 90), (1, ov_i x1), (2, ov_i (x2 + 1)), (3, ov_i (h 91 x2))]) (st2 := []) (pc2 := 47) b_206_44_1 rfl rfl ?_
            refine ov_goto (tgt := 17) d_206_47 (by decide) ?_
            refine ov_sub (ls2 := [(0, ov_r 90), (1, ov_i x1), (2, ov_i (x2 + 1))]) (List.Sublist.subset (by repeat (first | exact List.Sublist.refl _ | apply List.Sublist.cons_cons | apply List.Sublist.cons))) ?_
            exact ih5 x1 (x2 + 1) _ _ I10 E11 E12 E13 E14 E15 E16 E17 E18 E19 E20 E21 E22 E23 (by show 0 ≤ x1 ∧ x1 ≤ (x2 + 1) ∧ 0 ≤ (x2 + 1) ∧ (x2 + 1) ≤ 1000 ∧ (h9 90 3) ≤ 1000 ∧ (h9 90 2) = 0 ∧ (h9 90 7) = (h 90 7) ∧ (h9 90 8) = (h 90 8) ∧ (h9 90 13) = (h 90 13) ∧ (h9 90 20) = (h 90 20) ∧ (h9 90 22) = (h 90 22) ∧ (h9 90 25) = (h 90 25) ∧ (h9 90 26) = (h 90 26) ∧ (h9 90 28) = (h 90 28) ∧ (h9 90 29) = (h 90 29) ∧ (h9 90 30) = (h 90 30) ∧ (h9 90 34) = (h 90 34); omega) (by omega)
  exact L7 1001 0 0 _ _ I3 rfl rfl rfl rfl rfl rfl rfl rfl rfl rfl rfl rfl rfl (by show 0 ≤ 0 ∧ 0 ≤ 0 ∧ 0 ≤ 0 ∧ 0 ≤ 1000 ∧ (h 90 2) ≤ 1000 ∧ 0 = 0 ∧ (h 90 7) = (h 90 7) ∧ (h 90 8) = (h 90 8) ∧ (h 90 13) = (h 90 13) ∧ (h 90 20) = (h 90 20) ∧ (h 90 22) = (h 90 22) ∧ (h 90 25) = (h 90 25) ∧ (h 90 26) = (h 90 26) ∧ (h 90 28) = (h 90 28) ∧ (h 90 29) = (h 90 29) ∧ (h 90 30) = (h 90 30) ∧ (h 90 34) = (h 90 34); omega) (by omega)
abbrev P_Mo_wrong_90 (F : ov_H × ov_Z) (z : ov_Z) (h : ov_H) (w : Int) : Option ov_V → ov_Z → ov_H → Prop := fun r0 z' h' => r0 = none ∧ ov_N F z' h' ∧ ((h' 90 2) = (h 90 2) ∧ (h' 90 7) = (h 90 7) ∧ (h' 90 13) = (h 90 13) ∧ (h' 90 20) = (h 90 20) ∧ (h' 90 22) = (h 90 22) ∧ (h' 90 25) = (h 90 25) ∧ (h' 90 26) = (h 90 26) ∧ (h' 90 28) = (h 90 28) ∧ (h' 90 29) = (h 90 29) ∧ (h' 90 30) = (h 90 30) ∧ (h' 90 34) = (h 90 34) ∧ 0 < (h' 90 8) ∧ (h 90 8) ≤ (h' 90 8)) ∧ h' 91 = h 91 ∧ h' 92 = h 92 ∧ h' 93 = h 93 ∧ h' 94 = h 94 ∧ h' 95 = h 95 ∧ h' 96 = h 96 ∧ h' 97 = h 97 ∧ h' 98 = h 98 ∧ h' 99 = h 99 ∧ h' 100 = h 100 ∧ h' 103 = h 103 ∧ h' 104 = h 104 ∧ h' 105 = h 105 ∧ h' 106 = h 106 ∧ h' 109 = h 109 ∧ h' 114 = h 114
set_option maxHeartbeats 4000000 in
theorem c_Mo_wrong_90 {u : ov_U} {F : ov_H × ov_Z} {z : ov_Z} {h : ov_H} (d : Nat) (hd : 0 ≤ d) (U : ov_cap u) (I : ov_N F z h) (w : Int) (g_w : ov_g w) (p0 : 1 ≤ w ∧ w ≤ 5) : ov_T u d ov_m214 [ov_r 90, ov_i w] z h (P_Mo_wrong_90 F z h w) := by
  refine ov_en rfl (Nat.le_of_ble_eq_true rfl) ?_
  show ov_R u d ov_m214 0 [(0, ov_r 90), (1, ov_i w)] [] z h (P_Mo_wrong_90 F z h w)
  refine ov_blk (ls2 := [(0, ov_r 90), (1, ov_i w)]) (st2 := [ov_r 90]) (pc2 := 1) b_214_0_1 rfl rfl ?_
  refine ov_getf (v := ov_i (h 90 8)) d_214_1 fl_Mo_180 (zb_90 I) (zs_90 I) rfl ?_
  have g1 := rg_90_8 I
  refine ov_ifne (tgt := 25) d_214_4 (by decide) (by omega) (fun c2 => ?_) (fun c2 => ?_)
  · skip
    exact ov_retv (st := []) d_214_25 rfl ⟨rfl, I, ⟨rfl, rfl, rfl, rfl, rfl, rfl, rfl, rfl, rfl, rfl, rfl, (by show 0 < (h 90 8) ∧ (h 90 8) ≤ (h 90 8); omega)⟩, rfl, rfl, rfl, rfl, rfl, rfl, rfl, rfl, rfl, rfl, rfl, rfl, rfl, rfl, rfl, rfl⟩
  · skip
    refine ov_blk (ls2 := [(0, ov_r 90), (1, ov_i w)]) (st2 := [ov_r 90, ov_i 16, ov_i w, ov_r 90]) (pc2 := 12) b_214_7_4 rfl rfl ?_
    refine ov_getf (v := ov_r 93) d_214_12 fl_Mo_27 (zb_90 I) (zs_90 I) (congrArg ov_r (rg_90_5 I)) ?_
    refine ov_blk (ls2 := [(0, ov_r 90), (1, ov_i w)]) (st2 := [ov_r 90, ov_r 93, ov_i 16, ov_i w, ov_r 90]) (pc2 := 16) b_214_15_1 rfl rfl ?_
    refine ov_getf (v := ov_i (h 90 7)) d_214_16 fl_Mo_177 (zb_90 I) (zs_90 I) rfl ?_
    have g3 := rg_90_7 I
    refine ov_iald d_214_19 (zb_93 I) (zs_93 I) (by omega) ?_
    have g4 := ra_93 I (h 90 7)
    refine ov_blk (ls2 := [(0, ov_r 90), (1, ov_i w)]) (st2 := [ov_i (w + (16 * (h 93 (h 90 7)))), ov_r 90]) (pc2 := 22) b_214_20_2 rfl rfl ?_
    refine ov_putf (x := (w + (16 * (h 93 (h 90 7))))) d_214_22 fl_Mo_180 (zb_90 I) (zs_90 I) rfl nk_0 rfl ?_
    have I5 := up_90_8 (x := (w + (16 * (h 93 (h 90 7))))) I (by omega)
    exact ov_retv (st := []) d_214_25 rfl ⟨rfl, I5, ⟨rfl, rfl, rfl, rfl, rfl, rfl, rfl, rfl, rfl, rfl, rfl, (by show 0 < (w + (16 * (h 93 (h 90 7)))) ∧ (h 90 8) ≤ (w + (16 * (h 93 (h 90 7)))); omega)⟩, rfl, rfl, rfl, rfl, rfl, rfl, rfl, rfl, rfl, rfl, rfl, rfl, rfl, rfl, rfl, rfl⟩
abbrev P_Mo_isSign_90 (F : ov_H × ov_Z) (z : ov_Z) (h : ov_H) (n : Int) (c : Int) : Option ov_V → ov_Z → ov_H → Prop := fun r0 z' h' => ∃ r : Int, r0 = some (ov_i r) ∧ z = z' ∧ h = h' ∧ ((r = 0 ∨ r = 1) ∧ (r = 1 → (h 90 7) < n) ∧ (r = 1 → (h 90 8) = 0 ∧ (h 92 ((h 90 7))) = 3 ∧ (h 94 ((h 90 7))) = c) ∧ (r = 0 → ¬ ((h 90 8) = 0 ∧ (h 92 ((h 90 7))) = 3 ∧ (h 94 ((h 90 7))) = c)))
set_option maxHeartbeats 4000000 in
theorem c_Mo_isSign_90 {u : ov_U} {F : ov_H × ov_Z} (n : Int) {z : ov_Z} {h : ov_H} (d : Nat) (hd : 0 ≤ d) (U : ov_cap u) (I : ov_N F z h) (c : Int) (g_c : ov_g c) (p0 : 0 ≤ n ∧ n ≤ 1000 ∧ (h 92 (n)) = 0 ∧ (h 90 7) ≤ n) : ov_T u d ov_m217 [ov_r 90, ov_i c] z h (P_Mo_isSign_90 F z h n c) := by
  refine ov_en rfl (Nat.le_of_ble_eq_true rfl) ?_
  show ov_R u d ov_m217 0 [(0, ov_r 90), (1, ov_i c)] [] z h (P_Mo_isSign_90 F z h n c)
  have qn : h 90 7 = n → h 92 (h 90 7) = h 92 n := fun e => by rw [e]
  refine ov_blk (ls2 := [(0, ov_r 90), (1, ov_i c)]) (st2 := [ov_r 90]) (pc2 := 1) b_217_0_1 rfl rfl ?_
  refine ov_getf (v := ov_i (h 90 8)) d_217_1 fl_Mo_180 (zb_90 I) (zs_90 I) rfl ?_
  have g1 := rg_90_8 I
  refine ov_ifne (tgt := 39) d_217_4 (by decide) (by omega) (fun c2 => ?_) (fun c2 => ?_)
  · skip
    refine ov_blk (ls2 := [(0, ov_r 90), (1, ov_i c)]) (st2 := [ov_i 0]) (pc2 := 40) b_217_39_1 rfl rfl ?_
    exact ov_retz (st := []) d_217_40 rfl (by omega) ⟨_, rfl, rfl, rfl, (by show (0 = 0 ∨ 0 = 1) ∧ (0 = 1 → (h 90 7) < n) ∧ (0 = 1 → (h 90 8) = 0 ∧ (h 92 ((h 90 7))) = 3 ∧ (h 94 ((h 90 7))) = c) ∧ (0 = 0 → ¬ ((h 90 8) = 0 ∧ (h 92 ((h 90 7))) = 3 ∧ (h 94 ((h 90 7))) = c)); omega)⟩
  · skip
    refine ov_blk (ls2 := [(0, ov_r 90), (1, ov_i c)]) (st2 := [ov_r 90]) (pc2 := 8) b_217_7_1 rfl rfl ?_
    refine ov_getf (v := ov_r 92) d_217_8 fl_Mo_24 (zb_90 I) (zs_90 I) (congrArg ov_r (rg_90_4 I)) ?_
    refine ov_blk (ls2 := [(0, ov_r 90), (1, ov_i c)]) (st2 := [ov_r 90, ov_r 92]) (pc2 := 12) b_217_11_1 rfl rfl ?_
    refine ov_getf (v := ov_i (h 90 7)) d_217_12 fl_Mo_177 (zb_90 I) (zs_90 I) rfl ?_
    have g3 := rg_90_7 I
    refine ov_iald d_217_15 (zb_92 I) (zs_92 I) (by omega) ?_
    have g4 := ra_92 I (h 90 7)
    refine ov_blk (ls2 := [(0, ov_r 90), (1, ov_i c)]) (st2 := [ov_i 3, ov_i (h 92 (h 90 7))]) (pc2 := 17) b_217_16_1 rfl rfl ?_
    refine ov_icne (tgt := 39) d_217_17 (by decide) (by omega) (by omega) (fun c5 => ?_) (fun c5 => ?_)
    · skip
      refine ov_blk (ls2 := [(0, ov_r 90), (1, ov_i c)]) (st2 := [ov_i 0]) (pc2 := 40) b_217_39_1 rfl rfl ?_
      exact ov_retz (st := []) d_217_40 rfl (by omega) ⟨_, rfl, rfl, rfl, (by show (0 = 0 ∨ 0 = 1) ∧ (0 = 1 → (h 90 7) < n) ∧ (0 = 1 → (h 90 8) = 0 ∧ (h 92 ((h 90 7))) = 3 ∧ (h 94 ((h 90 7))) = c) ∧ (0 = 0 → ¬ ((h 90 8) = 0 ∧ (h 92 ((h 90 7))) = 3 ∧ (h 94 ((h 90 7))) = c)); omega)⟩
    · skip
      refine ov_blk (ls2 := [(0, ov_r 90), (1, ov_i c)]) (st2 := [ov_r 90]) (pc2 := 21) b_217_20_1 rfl rfl ?_
      refine ov_getf (v := ov_r 94) d_217_21 fl_Mo_30 (zb_90 I) (zs_90 I) (congrArg ov_r (rg_90_6 I)) ?_
      refine ov_blk (ls2 := [(0, ov_r 90), (1, ov_i c)]) (st2 := [ov_r 90, ov_r 94]) (pc2 := 25) b_217_24_1 rfl rfl ?_
      refine ov_getf (v := ov_i (h 90 7)) d_217_25 fl_Mo_177 (zb_90 I) (zs_90 I) rfl ?_
      refine ov_lald d_217_28 (zb_94 I) (zs_94 I) (by omega) ?_
      have g7 := ra_94 I (h 90 7)
      refine ov_blk (ls2 := [(0, ov_r 90), (1, ov_i c)]) (st2 := [ov_i (ov_lcmp (h 94 (h 90 7)) (ov_w c))]) (pc2 := 32) b_217_29_3 rfl rfl ?_
      have g8 := ov_wg c
      have g9 := ov_wq c
      have g10 := ov_lcg (h 94 (h 90 7)) (ov_w c)
      have g11 := ov_lcs (a := (h 94 (h 90 7))) (b := (ov_w c)) (by omega) (by omega)
      refine ov_ifne (tgt := 39) d_217_32 (by decide) (by omega) (fun c12 => ?_) (fun c12 => ?_)
      · skip
        refine ov_blk (ls2 := [(0, ov_r 90), (1, ov_i c)]) (st2 := [ov_i 0]) (pc2 := 40) b_217_39_1 rfl rfl ?_
        exact ov_retz (st := []) d_217_40 rfl (by omega) ⟨_, rfl, rfl, rfl, (by show (0 = 0 ∨ 0 = 1) ∧ (0 = 1 → (h 90 7) < n) ∧ (0 = 1 → (h 90 8) = 0 ∧ (h 92 ((h 90 7))) = 3 ∧ (h 94 ((h 90 7))) = c) ∧ (0 = 0 → ¬ ((h 90 8) = 0 ∧ (h 92 ((h 90 7))) = 3 ∧ (h 94 ((h 90 7))) = c)); omega)⟩
      · skip
        refine ov_blk (ls2 := [(0, ov_r 90), (1, ov_i c)]) (st2 := [ov_i 1]) (pc2 := 36) b_217_35_1 rfl rfl ?_
        refine ov_goto (tgt := 40) d_217_36 (by decide) ?_
        exact ov_retz (st := []) d_217_40 rfl (by omega) ⟨_, rfl, rfl, rfl, (by show (1 = 0 ∨ 1 = 1) ∧ (1 = 1 → (h 90 7) < n) ∧ (1 = 1 → (h 90 8) = 0 ∧ (h 92 ((h 90 7))) = 3 ∧ (h 94 ((h 90 7))) = c) ∧ (1 = 0 → ¬ ((h 90 8) = 0 ∧ (h 92 ((h 90 7))) = 3 ∧ (h 94 ((h 90 7))) = c)); omega)⟩
abbrev P_Mo_isWord_90 (F : ov_H × ov_Z) (z : ov_Z) (h : ov_H) (n : Int) (c : Int) : Option ov_V → ov_Z → ov_H → Prop := fun r0 z' h' => ∃ r : Int, r0 = some (ov_i r) ∧ z = z' ∧ h = h' ∧ ((r = 0 ∨ r = 1) ∧ (r = 1 → (h 90 7) < n) ∧ (r = 1 → (h 90 8) = 0 ∧ (h 92 ((h 90 7))) = 1 ∧ (h 94 ((h 90 7))) = (h 95 (c))) ∧ (r = 0 → ¬ ((h 90 8) = 0 ∧ (h 92 ((h 90 7))) = 1 ∧ (h 94 ((h 90 7))) = (h 95 (c)))))
set_option maxHeartbeats 4000000 in
theorem c_Mo_isWord_90 {u : ov_U} {F : ov_H × ov_Z} (n : Int) {z : ov_Z} {h : ov_H} (d : Nat) (hd : 0 ≤ d) (U : ov_cap u) (I : ov_N F z h) (c : Int) (g_c : ov_g c) (p0 : 0 ≤ n ∧ n ≤ 1000 ∧ (h 92 (n)) = 0 ∧ (h 90 7) ≤ n) (p1 : 0 ≤ c ∧ c ≤ 21) : ov_T u d ov_m213 [ov_r 90, ov_i c] z h (P_Mo_isWord_90 F z h n c) := by
  refine ov_en rfl (Nat.le_of_ble_eq_true rfl) ?_
  show ov_R u d ov_m213 0 [(0, ov_r 90), (1, ov_i c)] [] z h (P_Mo_isWord_90 F z h n c)
  have qn : h 90 7 = n → h 92 (h 90 7) = h 92 n := fun e => by rw [e]
  refine ov_blk (ls2 := [(0, ov_r 90), (1, ov_i c)]) (st2 := [ov_r 90]) (pc2 := 1) b_213_0_1 rfl rfl ?_
  refine ov_getf (v := ov_i (h 90 8)) d_213_1 fl_Mo_180 (zb_90 I) (zs_90 I) rfl ?_
  have g1 := rg_90_8 I
  refine ov_ifne (tgt := 43) d_213_4 (by decide) (by omega) (fun c2 => ?_) (fun c2 => ?_)
  · skip
    refine ov_blk (ls2 := [(0, ov_r 90), (1, ov_i c)]) (st2 := [ov_i 0]) (pc2 := 44) b_213_43_1 rfl rfl ?_
    exact ov_retz (st := []) d_213_44 rfl (by omega) ⟨_, rfl, rfl, rfl, (by show (0 = 0 ∨ 0 = 1) ∧ (0 = 1 → (h 90 7) < n) ∧ (0 = 1 → (h 90 8) = 0 ∧ (h 92 ((h 90 7))) = 1 ∧ (h 94 ((h 90 7))) = (h 95 (c))) ∧ (0 = 0 → ¬ ((h 90 8) = 0 ∧ (h 92 ((h 90 7))) = 1 ∧ (h 94 ((h 90 7))) = (h 95 (c)))); omega)⟩
  · skip
    refine ov_blk (ls2 := [(0, ov_r 90), (1, ov_i c)]) (st2 := [ov_r 90]) (pc2 := 8) b_213_7_1 rfl rfl ?_
    refine ov_getf (v := ov_r 92) d_213_8 fl_Mo_24 (zb_90 I) (zs_90 I) (congrArg ov_r (rg_90_4 I)) ?_
    refine ov_blk (ls2 := [(0, ov_r 90), (1, ov_i c)]) (st2 := [ov_r 90, ov_r 92]) (pc2 := 12) b_213_11_1 rfl rfl ?_
    refine ov_getf (v := ov_i (h 90 7)) d_213_12 fl_Mo_177 (zb_90 I) (zs_90 I) rfl ?_
    have g3 := rg_90_7 I
    refine ov_iald d_213_15 (zb_92 I) (zs_92 I) (by omega) ?_
    have g4 := ra_92 I (h 90 7)
    refine ov_blk (ls2 := [(0, ov_r 90), (1, ov_i c)]) (st2 := [ov_i 1, ov_i (h 92 (h 90 7))]) (pc2 := 17) b_213_16_1 rfl rfl ?_
    refine ov_icne (tgt := 43) d_213_17 (by decide) (by omega) (by omega) (fun c5 => ?_) (fun c5 => ?_)
    · skip
      refine ov_blk (ls2 := [(0, ov_r 90), (1, ov_i c)]) (st2 := [ov_i 0]) (pc2 := 44) b_213_43_1 rfl rfl ?_
      exact ov_retz (st := []) d_213_44 rfl (by omega) ⟨_, rfl, rfl, rfl, (by show (0 = 0 ∨ 0 = 1) ∧ (0 = 1 → (h 90 7) < n) ∧ (0 = 1 → (h 90 8) = 0 ∧ (h 92 ((h 90 7))) = 1 ∧ (h 94 ((h 90 7))) = (h 95 (c))) ∧ (0 = 0 → ¬ ((h 90 8) = 0 ∧ (h 92 ((h 90 7))) = 1 ∧ (h 94 ((h 90 7))) = (h 95 (c)))); omega)⟩
    · skip
      refine ov_blk (ls2 := [(0, ov_r 90), (1, ov_i c)]) (st2 := [ov_r 90]) (pc2 := 21) b_213_20_1 rfl rfl ?_
      refine ov_getf (v := ov_r 94) d_213_21 fl_Mo_30 (zb_90 I) (zs_90 I) (congrArg ov_r (rg_90_6 I)) ?_
      refine ov_blk (ls2 := [(0, ov_r 90), (1, ov_i c)]) (st2 := [ov_r 90, ov_r 94]) (pc2 := 25) b_213_24_1 rfl rfl ?_
      refine ov_getf (v := ov_i (h 90 7)) d_213_25 fl_Mo_177 (zb_90 I) (zs_90 I) rfl ?_
      refine ov_lald d_213_28 (zb_94 I) (zs_94 I) (by omega) ?_
      have g7 := ra_94 I (h 90 7)
      refine ov_blk (ls2 := [(0, ov_r 90), (1, ov_i c)]) (st2 := [ov_r 90, ov_l (h 94 (h 90 7))]) (pc2 := 30) b_213_29_1 rfl rfl ?_
      refine ov_getf (v := ov_r 95) d_213_30 fl_Mo_78 (zb_90 I) (zs_90 I) (congrArg ov_r (rg_90_9 I)) ?_
      refine ov_blk (ls2 := [(0, ov_r 90), (1, ov_i c)]) (st2 := [ov_i c, ov_r 95, ov_l (h 94 (h 90 7))]) (pc2 := 34) b_213_33_1 rfl rfl ?_
      refine ov_lald d_213_34 (zb_95 I) (zs_95 I) (by omega) ?_
      have g8 := ra_95 I c
      refine ov_blk (ls2 := [(0, ov_r 90), (1, ov_i c)]) (st2 := [ov_i (ov_lcmp (h 94 (h 90 7)) (h 95 c))]) (pc2 := 36) b_213_35_1 rfl rfl ?_
      have g9 := ov_lcg (h 94 (h 90 7)) (h 95 c)
      have g10 := ov_lcs (a := (h 94 (h 90 7))) (b := (h 95 c)) (by omega) (by omega)
      refine ov_ifne (tgt := 43) d_213_36 (by decide) (by omega) (fun c11 => ?_) (fun c11 => ?_)
      · skip
        refine ov_blk (ls2 := [(0, ov_r 90), (1, ov_i c)]) (st2 := [ov_i 0]) (pc2 := 44) b_213_43_1 rfl rfl ?_
        exact ov_retz (st := []) d_213_44 rfl (by omega) ⟨_, rfl, rfl, rfl, (by show (0 = 0 ∨ 0 = 1) ∧ (0 = 1 → (h 90 7) < n) ∧ (0 = 1 → (h 90 8) = 0 ∧ (h 92 ((h 90 7))) = 1 ∧ (h 94 ((h 90 7))) = (h 95 (c))) ∧ (0 = 0 → ¬ ((h 90 8) = 0 ∧ (h 92 ((h 90 7))) = 1 ∧ (h 94 ((h 90 7))) = (h 95 (c)))); omega)⟩
      · skip
        refine ov_blk (ls2 := [(0, ov_r 90), (1, ov_i c)]) (st2 := [ov_i 1]) (pc2 := 40) b_213_39_1 rfl rfl ?_
        refine ov_goto (tgt := 44) d_213_40 (by decide) ?_
        exact ov_retz (st := []) d_213_44 rfl (by omega) ⟨_, rfl, rfl, rfl, (by show (1 = 0 ∨ 1 = 1) ∧ (1 = 1 → (h 90 7) < n) ∧ (1 = 1 → (h 90 8) = 0 ∧ (h 92 ((h 90 7))) = 1 ∧ (h 94 ((h 90 7))) = (h 95 (c))) ∧ (1 = 0 → ¬ ((h 90 8) = 0 ∧ (h 92 ((h 90 7))) = 1 ∧ (h 94 ((h 90 7))) = (h 95 (c)))); omega)⟩
abbrev P_Mo_takeSign_90 (F : ov_H × ov_Z) (z : ov_Z) (h : ov_H) (n : Int) (c : Int) : Option ov_V → ov_Z → ov_H → Prop := fun r0 z' h' => r0 = none ∧ ov_N F z' h' ∧ ((h' 90 2) = (h 90 2) ∧ (h' 90 13) = (h 90 13) ∧ (h' 90 20) = (h 90 20) ∧ (h' 90 22) = (h 90 22) ∧ (h' 90 25) = (h 90 25) ∧ (h' 90 26) = (h 90 26) ∧ (h' 90 28) = (h 90 28) ∧ (h' 90 29) = (h 90 29) ∧ (h' 90 30) = (h 90 30) ∧ (h' 90 34) = (h 90 34) ∧ (h 90 7) ≤ (h' 90 7) ∧ (h' 90 7) ≤ n ∧ (h 90 8) ≤ (h' 90 8) ∧ (h 90 7) < (h' 90 7) + (h' 90 8)) ∧ h' 91 = h 91 ∧ h' 92 = h 92 ∧ h' 93 = h 93 ∧ h' 94 = h 94 ∧ h' 95 = h 95 ∧ h' 96 = h 96 ∧ h' 97 = h 97 ∧ h' 98 = h 98 ∧ h' 99 = h 99 ∧ h' 100 = h 100 ∧ h' 103 = h 103 ∧ h' 104 = h 104 ∧ h' 105 = h 105 ∧ h' 106 = h 106 ∧ h' 109 = h 109 ∧ h' 114 = h 114
set_option maxHeartbeats 4000000 in
theorem c_Mo_takeSign_90 {u : ov_U} {F : ov_H × ov_Z} (n : Int) {z : ov_Z} {h : ov_H} (d : Nat) (hd : 1 ≤ d) (U : ov_cap u) (I : ov_N F z h) (c : Int) (g_c : ov_g c) (p0 : 0 ≤ n ∧ n ≤ 1000 ∧ (h 92 (n)) = 0 ∧ (h 90 7) ≤ n) : ov_T u d ov_m216 [ov_r 90, ov_i c] z h (P_Mo_takeSign_90 F z h n c) := by
  refine ov_en rfl (Nat.le_of_ble_eq_true rfl) ?_
  show ov_R u d ov_m216 0 [(0, ov_r 90), (1, ov_i c)] [] z h (P_Mo_takeSign_90 F z h n c)
  refine ov_blk (ls2 := [(0, ov_r 90), (1, ov_i c)]) (st2 := [ov_i c, ov_r 90]) (pc2 := 2) b_216_0_2 rfl rfl ?_
  refine ov_cV (as := [ov_i c]) (st := []) (d2 := d - 1) d_216_2 lk_Mo_183 rfl (Nat.le_of_ble_eq_true rfl) (c := 1) (zb_90 I) (zs_90 I) ⟨by decide, rfl⟩ (by omega) (c_Mo_isSign_90 n (d - 1) (by omega) U I c (by omega) (by show 0 ≤ n ∧ n ≤ 1000 ∧ (h 92 (n)) = 0 ∧ (h 90 7) ≤ n; omega)) ?_
  rintro _ _ _ ⟨v2, rfl, rfl, rfl, f1⟩
  show ov_R u d ov_m216 5 [(0, ov_r 90), (1, ov_i c)] [ov_i v2] z h (P_Mo_takeSign_90 F z h n c)
  have f3 : (v2 = 0 ∨ v2 = 1) ∧ (v2 = 1 → (h 90 7) < n) ∧ (v2 = 1 → (h 90 8) = 0 ∧ (h 92 ((h 90 7))) = 3 ∧ (h 94 ((h 90 7))) = c) ∧ (v2 = 0 → ¬ ((h 90 8) = 0 ∧ (h 92 ((h 90 7))) = 3 ∧ (h 94 ((h 90 7))) = c)) := f1
  clear f1
  refine ov_ifeq (tgt := 21) d_216_5 (by decide) (by omega) (fun c4 => ?_) (fun c4 => ?_)
  · skip
    have f3_ : v2 = 0 := by omega
    have f5 : ¬ ((h 90 8) = 0 ∧ (h 92 ((h 90 7))) = 3 ∧ (h 94 ((h 90 7))) = c) := f3.2.2.2 (by omega)
    clear f3
    refine ov_blk (ls2 := [(0, ov_r 90), (1, ov_i c)]) (st2 := [ov_i 1, ov_r 90]) (pc2 := 23) b_216_21_2 rfl rfl ?_
    refine ov_cV (as := [ov_i 1]) (st := []) (d2 := d - 1) d_216_23 lk_Mo_186 rfl (Nat.le_of_ble_eq_true rfl) (c := 1) (zb_90 I) (zs_90 I) ⟨by decide, rfl⟩ (by omega) (c_Mo_wrong_90 (d - 1) (by omega) U I 1 (by omega) (by omega)) ?_
    rintro _ z23 h24 ⟨rfl, I25, f6, e7, e8, e9, e10, e11, e12, e13, e14, e15, e16, e17, e18, e19, e20, e21, e22⟩
    have E26 : h24 91 = h 91 := e7
    have E27 : h24 92 = h 92 := e8
    have E28 : h24 93 = h 93 := e9
    have E29 : h24 94 = h 94 := e10
    have E30 : h24 95 = h 95 := e11
    have E31 : h24 96 = h 96 := e12
    have E32 : h24 97 = h 97 := e13
    have E33 : h24 98 = h 98 := e14
    have E34 : h24 99 = h 99 := e15
    have E35 : h24 100 = h 100 := e16
    have E36 : h24 103 = h 103 := e17
    have E37 : h24 104 = h 104 := e18
    have E38 : h24 105 = h 105 := e19
    have E39 : h24 106 = h 106 := e20
    have E40 : h24 109 = h 109 := e21
    have E41 : h24 114 = h 114 := e22
    show ov_R u d ov_m216 26 [(0, ov_r 90), (1, ov_i c)] [] z23 h24 (P_Mo_takeSign_90 F z h n c)
    have f42 : (h24 90 2) = (h 90 2) ∧ (h24 90 7) = (h 90 7) ∧ (h24 90 13) = (h 90 13) ∧ (h24 90 20) = (h 90 20) ∧ (h24 90 22) = (h 90 22) ∧ (h24 90 25) = (h 90 25) ∧ (h24 90 26) = (h 90 26) ∧ (h24 90 28) = (h 90 28) ∧ (h24 90 29) = (h 90 29) ∧ (h24 90 30) = (h 90 30) ∧ (h24 90 34) = (h 90 34) ∧ 0 < (h24 90 8) ∧ (h 90 8) ≤ (h24 90 8) := f6
    clear f6
    exact ov_retv (st := []) d_216_26 rfl ⟨rfl, I25, (by show (h24 90 2) = (h 90 2) ∧ (h24 90 13) = (h 90 13) ∧ (h24 90 20) = (h 90 20) ∧ (h24 90 22) = (h 90 22) ∧ (h24 90 25) = (h 90 25) ∧ (h24 90 26) = (h 90 26) ∧ (h24 90 28) = (h 90 28) ∧ (h24 90 29) = (h 90 29) ∧ (h24 90 30) = (h 90 30) ∧ (h24 90 34) = (h 90 34) ∧ (h 90 7) ≤ (h24 90 7) ∧ (h24 90 7) ≤ n ∧ (h 90 8) ≤ (h24 90 8) ∧ (h 90 7) < (h24 90 7) + (h24 90 8); omega), E26, E27, E28, E29, E30, E31, E32, E33, E34, E35, E36, E37, E38, E39, E40, E41⟩
  · skip
    have f3_ : v2 = 1 := by omega
    have f43 : (h 90 7) < n := f3.2.1 (by omega)
    have f44 : (h 90 8) = 0 ∧ (h 92 ((h 90 7))) = 3 ∧ (h 94 ((h 90 7))) = c := f3.2.2.1 (by omega)
    clear f3
    refine ov_blk (ls2 := [(0, ov_r 90), (1, ov_i c)]) (st2 := [ov_r 90, ov_r 90]) (pc2 := 10) b_216_8_2 rfl rfl ?_
    refine ov_getf (v := ov_i (h 90 7)) d_216_10 fl_Mo_177 (zb_90 I) (zs_90 I) rfl ?_
    have g45 := rg_90_7 I
    refine ov_blk (ls2 := [(0, ov_r 90), (1, ov_i c)]) (st2 := [ov_i ((h 90 7) + 1), ov_r 90]) (pc2 := 15) b_216_13_2 rfl rfl ?_
    refine ov_putf (x := ((h 90 7) + 1)) d_216_15 fl_Mo_177 (zb_90 I) (zs_90 I) rfl nk_0 rfl ?_
    have I46 := up_90_7 (x := ((h 90 7) + 1)) I (by omega)
    refine ov_goto (tgt := 26) d_216_18 (by decide) ?_
    exact ov_retv (st := []) d_216_26 rfl ⟨rfl, I46, ⟨rfl, rfl, rfl, rfl, rfl, rfl, rfl, rfl, rfl, rfl, (by show (h 90 7) ≤ ((h 90 7) + 1) ∧ ((h 90 7) + 1) ≤ n ∧ (h 90 8) ≤ (h 90 8) ∧ (h 90 7) < ((h 90 7) + 1) + (h 90 8); omega)⟩, rfl, rfl, rfl, rfl, rfl, rfl, rfl, rfl, rfl, rfl, rfl, rfl, rfl, rfl, rfl, rfl⟩
abbrev P_Mo_hasSign_90 (F : ov_H × ov_Z) (z : ov_Z) (h : ov_H) (n : Int) (c : Int) : Option ov_V → ov_Z → ov_H → Prop := fun r0 z' h' => ∃ r : Int, r0 = some (ov_i r) ∧ ov_N F z' h' ∧ ((h' 90 2) = (h 90 2) ∧ (h' 90 8) = (h 90 8) ∧ (h' 90 13) = (h 90 13) ∧ (h' 90 20) = (h 90 20) ∧ (h' 90 22) = (h 90 22) ∧ (h' 90 25) = (h 90 25) ∧ (h' 90 26) = (h 90 26) ∧ (h' 90 28) = (h 90 28) ∧ (h' 90 29) = (h 90 29) ∧ (h' 90 30) = (h 90 30) ∧ (h' 90 34) = (h 90 34) ∧ (r = 0 ∨ r = 1) ∧ (h 90 7) ≤ (h' 90 7) ∧ (h' 90 7) ≤ n ∧ (r = 1 → (h' 90 7) = (h 90 7) + 1 ∧ (h 90 8) = 0) ∧ (r = 0 → (h' 90 7) = (h 90 7)) ∧ (r = 1 → (h 90 8) = 0 ∧ (h 92 ((h 90 7))) = 3 ∧ (h 94 ((h 90 7))) = c) ∧ (r = 0 → ¬ ((h 90 8) = 0 ∧ (h 92 ((h 90 7))) = 3 ∧ (h 94 ((h 90 7))) = c))) ∧ h' 91 = h 91 ∧ h' 92 = h 92 ∧ h' 93 = h 93 ∧ h' 94 = h 94 ∧ h' 95 = h 95 ∧ h' 96 = h 96 ∧ h' 97 = h 97 ∧ h' 98 = h 98 ∧ h' 99 = h 99 ∧ h' 100 = h 100 ∧ h' 103 = h 103 ∧ h' 104 = h 104 ∧ h' 105 = h 105 ∧ h' 106 = h 106 ∧ h' 109 = h 109 ∧ h' 114 = h 114
set_option maxHeartbeats 4000000 in
theorem c_Mo_hasSign_90 {u : ov_U} {F : ov_H × ov_Z} (n : Int) {z : ov_Z} {h : ov_H} (d : Nat) (hd : 1 ≤ d) (U : ov_cap u) (I : ov_N F z h) (c : Int) (g_c : ov_g c) (p0 : 0 ≤ n ∧ n ≤ 1000 ∧ (h 92 (n)) = 0 ∧ (h 90 7) ≤ n) : ov_T u d ov_m232 [ov_r 90, ov_i c] z h (P_Mo_hasSign_90 F z h n c) := by
  refine ov_en rfl (Nat.le_of_ble_eq_true rfl) ?_
  show ov_R u d ov_m232 0 [(0, ov_r 90), (1, ov_i c)] [] z h (P_Mo_hasSign_90 F z h n c)
  refine ov_blk (ls2 := [(0, ov_r 90), (1, ov_i c)]) (st2 := [ov_i c, ov_r 90]) (pc2 := 2) b_232_0_2 rfl rfl ?_
  refine ov_cV (as := [ov_i c]) (st := []) (d2 := d - 1) d_232_2 lk_Mo_183 rfl (Nat.le_of_ble_eq_true rfl) (c := 1) (zb_90 I) (zs_90 I) ⟨by decide, rfl⟩ (by omega) (c_Mo_isSign_90 n (d - 1) (by omega) U I c (by omega) (by show 0 ≤ n ∧ n ≤ 1000 ∧ (h 92 (n)) = 0 ∧ (h 90 7) ≤ n; omega)) ?_
  rintro _ _ _ ⟨v2, rfl, rfl, rfl, f1⟩
  show ov_R u d ov_m232 5 [(0, ov_r 90), (1, ov_i c)] [ov_i v2] z h (P_Mo_hasSign_90 F z h n c)
  have f3 : (v2 = 0 ∨ v2 = 1) ∧ (v2 = 1 → (h 90 7) < n) ∧ (v2 = 1 → (h 90 8) = 0 ∧ (h 92 ((h 90 7))) = 3 ∧ (h 94 ((h 90 7))) = c) ∧ (v2 = 0 → ¬ ((h 90 8) = 0 ∧ (h 92 ((h 90 7))) = 3 ∧ (h 94 ((h 90 7))) = c)) := f1
  clear f1
  refine ov_blk (ls2 := [(0, ov_r 90), (1, ov_i c), (2, ov_i v2)]) (st2 := [ov_r 90, ov_r 90]) (pc2 := 8) b_232_5_3 rfl rfl ?_
  refine ov_getf (v := ov_i (h 90 7)) d_232_8 fl_Mo_177 (zb_90 I) (zs_90 I) rfl ?_
  have g4 := rg_90_7 I
  refine ov_blk (ls2 := [(0, ov_r 90), (1, ov_i c), (2, ov_i v2)]) (st2 := [ov_i v2, ov_i (h 90 7), ov_r 90]) (pc2 := 12) b_232_11_1 rfl rfl ?_
  refine ov_ifeq (tgt := 19) d_232_12 (by decide) (by omega) (fun c5 => ?_) (fun c5 => ?_)
  · skip
    have f3_ : v2 = 0 := by omega
    have f6 : ¬ ((h 90 8) = 0 ∧ (h 92 ((h 90 7))) = 3 ∧ (h 94 ((h 90 7))) = c) := f3.2.2.2 (by omega)
    clear f3
    refine ov_blk (ls2 := [(0, ov_r 90), (1, ov_i c), (2, ov_i v2)]) (st2 := [ov_i ((h 90 7) + 0), ov_r 90]) (pc2 := 21) b_232_19_2 rfl rfl ?_
    refine ov_putf (x := ((h 90 7) + 0)) d_232_21 fl_Mo_177 (zb_90 I) (zs_90 I) rfl nk_0 rfl ?_
    have I7 := up_90_7 (x := ((h 90 7) + 0)) I (by omega)
    refine ov_blk (ls2 := [(0, ov_r 90), (1, ov_i c), (2, ov_i v2)]) (st2 := [ov_i v2]) (pc2 := 25) b_232_24_1 rfl rfl ?_
    exact ov_retz (st := []) d_232_25 rfl (by omega) ⟨_, rfl, I7, ⟨rfl, rfl, rfl, rfl, rfl, rfl, rfl, rfl, rfl, rfl, rfl, (by show (v2 = 0 ∨ v2 = 1) ∧ (h 90 7) ≤ ((h 90 7) + 0) ∧ ((h 90 7) + 0) ≤ n ∧ (v2 = 1 → ((h 90 7) + 0) = (h 90 7) + 1 ∧ (h 90 8) = 0) ∧ (v2 = 0 → ((h 90 7) + 0) = (h 90 7)) ∧ (v2 = 1 → (h 90 8) = 0 ∧ (h 92 ((h 90 7))) = 3 ∧ (h 94 ((h 90 7))) = c) ∧ (v2 = 0 → ¬ ((h 90 8) = 0 ∧ (h 92 ((h 90 7))) = 3 ∧ (h 94 ((h 90 7))) = c)); omega)⟩, rfl, rfl, rfl, rfl, rfl, rfl, rfl, rfl, rfl, rfl, rfl, rfl, rfl, rfl, rfl, rfl⟩
  · skip
    have f3_ : v2 = 1 := by omega
    have f8 : (h 90 7) < n := f3.2.1 (by omega)
    have f9 : (h 90 8) = 0 ∧ (h 92 ((h 90 7))) = 3 ∧ (h 94 ((h 90 7))) = c := f3.2.2.1 (by omega)
    clear f3
    refine ov_blk (ls2 := [(0, ov_r 90), (1, ov_i c), (2, ov_i v2)]) (st2 := [ov_i 1, ov_i (h 90 7), ov_r 90]) (pc2 := 16) b_232_15_1 rfl rfl ?_
    refine ov_goto (tgt := 20) d_232_16 (by decide) ?_
    refine ov_blk (ls2 := [(0, ov_r 90), (1, ov_i c), (2, ov_i v2)]) (st2 := [ov_i ((h 90 7) + 1), ov_r 90]) (pc2 := 21) b_232_20_1 rfl rfl ?_
    refine ov_putf (x := ((h 90 7) + 1)) d_232_21 fl_Mo_177 (zb_90 I) (zs_90 I) rfl nk_0 rfl ?_
    have I10 := up_90_7 (x := ((h 90 7) + 1)) I (by omega)
    refine ov_blk (ls2 := [(0, ov_r 90), (1, ov_i c), (2, ov_i v2)]) (st2 := [ov_i v2]) (pc2 := 25) b_232_24_1 rfl rfl ?_
    exact ov_retz (st := []) d_232_25 rfl (by omega) ⟨_, rfl, I10, ⟨rfl, rfl, rfl, rfl, rfl, rfl, rfl, rfl, rfl, rfl, rfl, (by show (v2 = 0 ∨ v2 = 1) ∧ (h 90 7) ≤ ((h 90 7) + 1) ∧ ((h 90 7) + 1) ≤ n ∧ (v2 = 1 → ((h 90 7) + 1) = (h 90 7) + 1 ∧ (h 90 8) = 0) ∧ (v2 = 0 → ((h 90 7) + 1) = (h 90 7)) ∧ (v2 = 1 → (h 90 8) = 0 ∧ (h 92 ((h 90 7))) = 3 ∧ (h 94 ((h 90 7))) = c) ∧ (v2 = 0 → ¬ ((h 90 8) = 0 ∧ (h 92 ((h 90 7))) = 3 ∧ (h 94 ((h 90 7))) = c)); omega)⟩, rfl, rfl, rfl, rfl, rfl, rfl, rfl, rfl, rfl, rfl, rfl, rfl, rfl, rfl, rfl, rfl⟩
abbrev P_Mo_hasWord_90 (F : ov_H × ov_Z) (z : ov_Z) (h : ov_H) (n : Int) (c : Int) : Option ov_V → ov_Z → ov_H → Prop := fun r0 z' h' => ∃ r : Int, r0 = some (ov_i r) ∧ ov_N F z' h' ∧ ((h' 90 2) = (h 90 2) ∧ (h' 90 8) = (h 90 8) ∧ (h' 90 13) = (h 90 13) ∧ (h' 90 20) = (h 90 20) ∧ (h' 90 22) = (h 90 22) ∧ (h' 90 25) = (h 90 25) ∧ (h' 90 26) = (h 90 26) ∧ (h' 90 28) = (h 90 28) ∧ (h' 90 29) = (h 90 29) ∧ (h' 90 30) = (h 90 30) ∧ (h' 90 34) = (h 90 34) ∧ (r = 0 ∨ r = 1) ∧ (h 90 7) ≤ (h' 90 7) ∧ (h' 90 7) ≤ n ∧ (r = 1 → (h' 90 7) = (h 90 7) + 1 ∧ (h 90 8) = 0) ∧ (r = 0 → (h' 90 7) = (h 90 7)) ∧ (r = 1 → (h 90 8) = 0 ∧ (h 92 ((h 90 7))) = 1 ∧ (h 94 ((h 90 7))) = (h 95 (c))) ∧ (r = 0 → ¬ ((h 90 8) = 0 ∧ (h 92 ((h 90 7))) = 1 ∧ (h 94 ((h 90 7))) = (h 95 (c))))) ∧ h' 91 = h 91 ∧ h' 92 = h 92 ∧ h' 93 = h 93 ∧ h' 94 = h 94 ∧ h' 95 = h 95 ∧ h' 96 = h 96 ∧ h' 97 = h 97 ∧ h' 98 = h 98 ∧ h' 99 = h 99 ∧ h' 100 = h 100 ∧ h' 103 = h 103 ∧ h' 104 = h 104 ∧ h' 105 = h 105 ∧ h' 106 = h 106 ∧ h' 109 = h 109 ∧ h' 114 = h 114
set_option maxHeartbeats 4000000 in
theorem c_Mo_hasWord_90 {u : ov_U} {F : ov_H × ov_Z} (n : Int) {z : ov_Z} {h : ov_H} (d : Nat) (hd : 1 ≤ d) (U : ov_cap u) (I : ov_N F z h) (c : Int) (g_c : ov_g c) (p0 : 0 ≤ n ∧ n ≤ 1000 ∧ (h 92 (n)) = 0 ∧ (h 90 7) ≤ n) (p1 : 0 ≤ c ∧ c ≤ 21) : ov_T u d ov_m212 [ov_r 90, ov_i c] z h (P_Mo_hasWord_90 F z h n c) := by
  refine ov_en rfl (Nat.le_of_ble_eq_true rfl) ?_
  show ov_R u d ov_m212 0 [(0, ov_r 90), (1, ov_i c)] [] z h (P_Mo_hasWord_90 F z h n c)
  refine ov_blk (ls2 := [(0, ov_r 90), (1, ov_i c)]) (st2 := [ov_i c, ov_r 90]) (pc2 := 2) b_212_0_2 rfl rfl ?_
  refine ov_cV (as := [ov_i c]) (st := []) (d2 := d - 1) d_212_2 lk_Mo_189 rfl (Nat.le_of_ble_eq_true rfl) (c := 1) (zb_90 I) (zs_90 I) ⟨by decide, rfl⟩ (by omega) (c_Mo_isWord_90 n (d - 1) (by omega) U I c (by omega) (by show 0 ≤ n ∧ n ≤ 1000 ∧ (h 92 (n)) = 0 ∧ (h 90 7) ≤ n; omega) (by omega)) ?_
  rintro _ _ _ ⟨v2, rfl, rfl, rfl, f1⟩
  show ov_R u d ov_m212 5 [(0, ov_r 90), (1, ov_i c)] [ov_i v2] z h (P_Mo_hasWord_90 F z h n c)
  have f3 : (v2 = 0 ∨ v2 = 1) ∧ (v2 = 1 → (h 90 7) < n) ∧ (v2 = 1 → (h 90 8) = 0 ∧ (h 92 ((h 90 7))) = 1 ∧ (h 94 ((h 90 7))) = (h 95 (c))) ∧ (v2 = 0 → ¬ ((h 90 8) = 0 ∧ (h 92 ((h 90 7))) = 1 ∧ (h 94 ((h 90 7))) = (h 95 (c)))) := f1
  clear f1
  refine ov_blk (ls2 := [(0, ov_r 90), (1, ov_i c), (2, ov_i v2)]) (st2 := [ov_r 90, ov_r 90]) (pc2 := 8) b_212_5_3 rfl rfl ?_
  refine ov_getf (v := ov_i (h 90 7)) d_212_8 fl_Mo_177 (zb_90 I) (zs_90 I) rfl ?_
  have g4 := rg_90_7 I
  refine ov_blk (ls2 := [(0, ov_r 90), (1, ov_i c), (2, ov_i v2)]) (st2 := [ov_i v2, ov_i (h 90 7), ov_r 90]) (pc2 := 12) b_212_11_1 rfl rfl ?_
  refine ov_ifeq (tgt := 19) d_212_12 (by decide) (by omega) (fun c5 => ?_) (fun c5 => ?_)
  · skip
    have f3_ : v2 = 0 := by omega
    have f6 : ¬ ((h 90 8) = 0 ∧ (h 92 ((h 90 7))) = 1 ∧ (h 94 ((h 90 7))) = (h 95 (c))) := f3.2.2.2 (by omega)
    clear f3
    refine ov_blk (ls2 := [(0, ov_r 90), (1, ov_i c), (2, ov_i v2)]) (st2 := [ov_i ((h 90 7) + 0), ov_r 90]) (pc2 := 21) b_212_19_2 rfl rfl ?_
    refine ov_putf (x := ((h 90 7) + 0)) d_212_21 fl_Mo_177 (zb_90 I) (zs_90 I) rfl nk_0 rfl ?_
    have I7 := up_90_7 (x := ((h 90 7) + 0)) I (by omega)
    refine ov_blk (ls2 := [(0, ov_r 90), (1, ov_i c), (2, ov_i v2)]) (st2 := [ov_i v2]) (pc2 := 25) b_212_24_1 rfl rfl ?_
    exact ov_retz (st := []) d_212_25 rfl (by omega) ⟨_, rfl, I7, ⟨rfl, rfl, rfl, rfl, rfl, rfl, rfl, rfl, rfl, rfl, rfl, (by show (v2 = 0 ∨ v2 = 1) ∧ (h 90 7) ≤ ((h 90 7) + 0) ∧ ((h 90 7) + 0) ≤ n ∧ (v2 = 1 → ((h 90 7) + 0) = (h 90 7) + 1 ∧ (h 90 8) = 0) ∧ (v2 = 0 → ((h 90 7) + 0) = (h 90 7)) ∧ (v2 = 1 → (h 90 8) = 0 ∧ (h 92 ((h 90 7))) = 1 ∧ (h 94 ((h 90 7))) = (h 95 (c))) ∧ (v2 = 0 → ¬ ((h 90 8) = 0 ∧ (h 92 ((h 90 7))) = 1 ∧ (h 94 ((h 90 7))) = (h 95 (c)))); omega)⟩, rfl, rfl, rfl, rfl, rfl, rfl, rfl, rfl, rfl, rfl, rfl, rfl, rfl, rfl, rfl, rfl⟩
  · skip
    have f3_ : v2 = 1 := by omega
    have f8 : (h 90 7) < n := f3.2.1 (by omega)
    have f9 : (h 90 8) = 0 ∧ (h 92 ((h 90 7))) = 1 ∧ (h 94 ((h 90 7))) = (h 95 (c)) := f3.2.2.1 (by omega)
    clear f3
    refine ov_blk (ls2 := [(0, ov_r 90), (1, ov_i c), (2, ov_i v2)]) (st2 := [ov_i 1, ov_i (h 90 7), ov_r 90]) (pc2 := 16) b_212_15_1 rfl rfl ?_
    refine ov_goto (tgt := 20) d_212_16 (by decide) ?_
    refine ov_blk (ls2 := [(0, ov_r 90), (1, ov_i c), (2, ov_i v2)]) (st2 := [ov_i ((h 90 7) + 1), ov_r 90]) (pc2 := 21) b_212_20_1 rfl rfl ?_
    refine ov_putf (x := ((h 90 7) + 1)) d_212_21 fl_Mo_177 (zb_90 I) (zs_90 I) rfl nk_0 rfl ?_
    have I10 := up_90_7 (x := ((h 90 7) + 1)) I (by omega)
    refine ov_blk (ls2 := [(0, ov_r 90), (1, ov_i c), (2, ov_i v2)]) (st2 := [ov_i v2]) (pc2 := 25) b_212_24_1 rfl rfl ?_
    exact ov_retz (st := []) d_212_25 rfl (by omega) ⟨_, rfl, I10, ⟨rfl, rfl, rfl, rfl, rfl, rfl, rfl, rfl, rfl, rfl, rfl, (by show (v2 = 0 ∨ v2 = 1) ∧ (h 90 7) ≤ ((h 90 7) + 1) ∧ ((h 90 7) + 1) ≤ n ∧ (v2 = 1 → ((h 90 7) + 1) = (h 90 7) + 1 ∧ (h 90 8) = 0) ∧ (v2 = 0 → ((h 90 7) + 1) = (h 90 7)) ∧ (v2 = 1 → (h 90 8) = 0 ∧ (h 92 ((h 90 7))) = 1 ∧ (h 94 ((h 90 7))) = (h 95 (c))) ∧ (v2 = 0 → ¬ ((h 90 8) = 0 ∧ (h 92 ((h 90 7))) = 1 ∧ (h 94 ((h 90 7))) = (h 95 (c)))); omega)⟩, rfl, rfl, rfl, rfl, rfl, rfl, rfl, rfl, rfl, rfl, rfl, rfl, rfl, rfl, rfl, rfl⟩
abbrev P_Mo_takeWord_90 (F : ov_H × ov_Z) (z : ov_Z) (h : ov_H) (n : Int) (c : Int) : Option ov_V → ov_Z → ov_H → Prop := fun r0 z' h' => r0 = none ∧ ov_N F z' h' ∧ ((h' 90 2) = (h 90 2) ∧ (h' 90 13) = (h 90 13) ∧ (h' 90 20) = (h 90 20) ∧ (h' 90 22) = (h 90 22) ∧ (h' 90 25) = (h 90 25) ∧ (h' 90 26) = (h 90 26) ∧ (h' 90 28) = (h 90 28) ∧ (h' 90 29) = (h 90 29) ∧ (h' 90 30) = (h 90 30) ∧ (h' 90 34) = (h 90 34) ∧ (h 90 7) ≤ (h' 90 7) ∧ (h' 90 7) ≤ n ∧ (h 90 8) ≤ (h' 90 8)) ∧ h' 91 = h 91 ∧ h' 92 = h 92 ∧ h' 93 = h 93 ∧ h' 94 = h 94 ∧ h' 95 = h 95 ∧ h' 96 = h 96 ∧ h' 97 = h 97 ∧ h' 98 = h 98 ∧ h' 99 = h 99 ∧ h' 100 = h 100 ∧ h' 103 = h 103 ∧ h' 104 = h 104 ∧ h' 105 = h 105 ∧ h' 106 = h 106 ∧ h' 109 = h 109 ∧ h' 114 = h 114
set_option maxHeartbeats 4000000 in
theorem c_Mo_takeWord_90 {u : ov_U} {F : ov_H × ov_Z} (n : Int) {z : ov_Z} {h : ov_H} (d : Nat) (hd : 2 ≤ d) (U : ov_cap u) (I : ov_N F z h) (c : Int) (g_c : ov_g c) (p0 : 0 ≤ n ∧ n ≤ 1000 ∧ (h 92 (n)) = 0 ∧ (h 90 7) ≤ n) (p1 : 0 ≤ c ∧ c ≤ 21) : ov_T u d ov_m211 [ov_r 90, ov_i c] z h (P_Mo_takeWord_90 F z h n c) := by
  refine ov_en rfl (Nat.le_of_ble_eq_true rfl) ?_
  show ov_R u d ov_m211 0 [(0, ov_r 90), (1, ov_i c)] [] z h (P_Mo_takeWord_90 F z h n c)
  refine ov_blk (ls2 := [(0, ov_r 90), (1, ov_i c)]) (st2 := [ov_i c, ov_r 90]) (pc2 := 2) b_211_0_2 rfl rfl ?_
  refine ov_cV (as := [ov_i c]) (st := []) (d2 := d - 1) d_211_2 lk_Mo_192 rfl (Nat.le_of_ble_eq_true rfl) (c := 1) (zb_90 I) (zs_90 I) ⟨by decide, rfl⟩ (by omega) (c_Mo_hasWord_90 n (d - 1) (by omega) U I c (by omega) (by show 0 ≤ n ∧ n ≤ 1000 ∧ (h 92 (n)) = 0 ∧ (h 90 7) ≤ n; omega) (by omega)) ?_
  rintro _ z19 h20 ⟨v2, rfl, I21, f1, e3, e4, e5, e6, e7, e8, e9, e10, e11, e12, e13, e14, e15, e16, e17, e18⟩
  have E22 : h20 91 = h 91 := e3
  have E23 : h20 92 = h 92 := e4
  have E24 : h20 93 = h 93 := e5
  have E25 : h20 94 = h 94 := e6
  have E26 : h20 95 = h 95 := e7
  have E27 : h20 96 = h 96 := e8
  have E28 : h20 97 = h 97 := e9
  have E29 : h20 98 = h 98 := e10
  have E30 : h20 99 = h 99 := e11
  have E31 : h20 100 = h 100 := e12
  have E32 : h20 103 = h 103 := e13
  have E33 : h20 104 = h 104 := e14
  have E34 : h20 105 = h 105 := e15
  have E35 : h20 106 = h 106 := e16
  have E36 : h20 109 = h 109 := e17
  have E37 : h20 114 = h 114 := e18
  show ov_R u d ov_m211 5 [(0, ov_r 90), (1, ov_i c)] [ov_i v2] z19 h20 (P_Mo_takeWord_90 F z h n c)
  have f38 : (h20 90 2) = (h 90 2) ∧ (h20 90 8) = (h 90 8) ∧ (h20 90 13) = (h 90 13) ∧ (h20 90 20) = (h 90 20) ∧ (h20 90 22) = (h 90 22) ∧ (h20 90 25) = (h 90 25) ∧ (h20 90 26) = (h 90 26) ∧ (h20 90 28) = (h 90 28) ∧ (h20 90 29) = (h 90 29) ∧ (h20 90 30) = (h 90 30) ∧ (h20 90 34) = (h 90 34) ∧ (v2 = 0 ∨ v2 = 1) ∧ (h 90 7) ≤ (h20 90 7) ∧ (h20 90 7) ≤ n ∧ (v2 = 1 → (h20 90 7) = (h 90 7) + 1 ∧ (h 90 8) = 0) ∧ (v2 = 0 → (h20 90 7) = (h 90 7)) ∧ (v2 = 1 → (h 90 8) = 0 ∧ (h 92 ((h 90 7))) = 1 ∧ (h 94 ((h 90 7))) = (h 95 (c))) ∧ (v2 = 0 → ¬ ((h 90 8) = 0 ∧ (h 92 ((h 90 7))) = 1 ∧ (h 94 ((h 90 7))) = (h 95 (c)))) := f1
  clear f1
  refine ov_ifne (tgt := 13) d_211_5 (by decide) (by omega) (fun c39 => ?_) (fun c39 => ?_)
  · skip
    have f38_ : v2 = 1 := by omega
    have f40 : (h20 90 2) = (h 90 2) := f38.1
    have f41 : (h20 90 8) = (h 90 8) := f38.2.1
    have f42 : (h20 90 13) = (h 90 13) := f38.2.2.1
    have f43 : (h20 90 20) = (h 90 20) := f38.2.2.2.1
    have f44 : (h20 90 22) = (h 90 22) := f38.2.2.2.2.1
    have f45 : (h20 90 25) = (h 90 25) := f38.2.2.2.2.2.1
    have f46 : (h20 90 26) = (h 90 26) := f38.2.2.2.2.2.2.1
    have f47 : (h20 90 28) = (h 90 28) := f38.2.2.2.2.2.2.2.1
    have f48 : (h20 90 29) = (h 90 29) := f38.2.2.2.2.2.2.2.2.1
    have f49 : (h20 90 30) = (h 90 30) := f38.2.2.2.2.2.2.2.2.2.1
    have f50 : (h20 90 34) = (h 90 34) := f38.2.2.2.2.2.2.2.2.2.2.1
    have f51 : (h 90 7) ≤ (h20 90 7) := f38.2.2.2.2.2.2.2.2.2.2.2.2.1
    have f52 : (h20 90 7) ≤ n := f38.2.2.2.2.2.2.2.2.2.2.2.2.2.1
    have f53 : (h20 90 7) = (h 90 7) + 1 ∧ (h 90 8) = 0 := f38.2.2.2.2.2.2.2.2.2.2.2.2.2.2.1 (by omega)
    have f54 : (h 90 8) = 0 ∧ (h 92 ((h 90 7))) = 1 ∧ (h 94 ((h 90 7))) = (h 95 (c)) := f38.2.2.2.2.2.2.2.2.2.2.2.2.2.2.2.2.1 (by omega)
    clear f38
    exact ov_retv (st := []) d_211_13 rfl ⟨rfl, I21, (by show (h20 90 2) = (h 90 2) ∧ (h20 90 13) = (h 90 13) ∧ (h20 90 20) = (h 90 20) ∧ (h20 90 22) = (h 90 22) ∧ (h20 90 25) = (h 90 25) ∧ (h20 90 26) = (h 90 26) ∧ (h20 90 28) = (h 90 28) ∧ (h20 90 29) = (h 90 29) ∧ (h20 90 30) = (h 90 30) ∧ (h20 90 34) = (h 90 34) ∧ (h 90 7) ≤ (h20 90 7) ∧ (h20 90 7) ≤ n ∧ (h 90 8) ≤ (h20 90 8); omega), E22, E23, E24, E25, E26, E27, E28, E29, E30, E31, E32, E33, E34, E35, E36, E37⟩
  · skip
    have f38_ : v2 = 0 := by omega
    have f55 : (h20 90 2) = (h 90 2) := f38.1
    have f56 : (h20 90 8) = (h 90 8) := f38.2.1
    have f57 : (h20 90 13) = (h 90 13) := f38.2.2.1
    have f58 : (h20 90 20) = (h 90 20) := f38.2.2.2.1
    have f59 : (h20 90 22) = (h 90 22) := f38.2.2.2.2.1
    have f60 : (h20 90 25) = (h 90 25) := f38.2.2.2.2.2.1
    have f61 : (h20 90 26) = (h 90 26) := f38.2.2.2.2.2.2.1
    have f62 : (h20 90 28) = (h 90 28) := f38.2.2.2.2.2.2.2.1
    have f63 : (h20 90 29) = (h 90 29) := f38.2.2.2.2.2.2.2.2.1
    have f64 : (h20 90 30) = (h 90 30) := f38.2.2.2.2.2.2.2.2.2.1
    have f65 : (h20 90 34) = (h 90 34) := f38.2.2.2.2.2.2.2.2.2.2.1
    have f66 : (h 90 7) ≤ (h20 90 7) := f38.2.2.2.2.2.2.2.2.2.2.2.2.1
    have f67 : (h20 90 7) ≤ n := f38.2.2.2.2.2.2.2.2.2.2.2.2.2.1
    have f68 : (h20 90 7) = (h 90 7) := f38.2.2.2.2.2.2.2.2.2.2.2.2.2.2.2.1 (by omega)
    have f69 : ¬ ((h 90 8) = 0 ∧ (h 92 ((h 90 7))) = 1 ∧ (h 94 ((h 90 7))) = (h 95 (c))) := f38.2.2.2.2.2.2.2.2.2.2.2.2.2.2.2.2.2 (by omega)
    clear f38
    refine ov_blk (ls2 := [(0, ov_r 90), (1, ov_i c)]) (st2 := [ov_i 1, ov_r 90]) (pc2 := 10) b_211_8_2 rfl rfl ?_
    refine ov_cV (as := [ov_i 1]) (st := []) (d2 := d - 1) d_211_10 lk_Mo_186 rfl (Nat.le_of_ble_eq_true rfl) (c := 1) (zb_90 I21) (zs_90 I21) ⟨by decide, rfl⟩ (by omega) (c_Mo_wrong_90 (d - 1) (by omega) U I21 1 (by omega) (by omega)) ?_
    rintro _ z87 h88 ⟨rfl, I89, f70, e71, e72, e73, e74, e75, e76, e77, e78, e79, e80, e81, e82, e83, e84, e85, e86⟩
    have E90 : h88 91 = h 91 := Eq.trans e71 E22
    have E91 : h88 92 = h 92 := Eq.trans e72 E23
    have E92 : h88 93 = h 93 := Eq.trans e73 E24
    have E93 : h88 94 = h 94 := Eq.trans e74 E25
    have E94 : h88 95 = h 95 := Eq.trans e75 E26
    have E95 : h88 96 = h 96 := Eq.trans e76 E27
    have E96 : h88 97 = h 97 := Eq.trans e77 E28
    have E97 : h88 98 = h 98 := Eq.trans e78 E29
    have E98 : h88 99 = h 99 := Eq.trans e79 E30
    have E99 : h88 100 = h 100 := Eq.trans e80 E31
    have E100 : h88 103 = h 103 := Eq.trans e81 E32
    have E101 : h88 104 = h 104 := Eq.trans e82 E33
    have E102 : h88 105 = h 105 := Eq.trans e83 E34
    have E103 : h88 106 = h 106 := Eq.trans e84 E35
    have E104 : h88 109 = h 109 := Eq.trans e85 E36
    have E105 : h88 114 = h 114 := Eq.trans e86 E37
    show ov_R u d ov_m211 13 [(0, ov_r 90), (1, ov_i c)] [] z87 h88 (P_Mo_takeWord_90 F z h n c)
    have f106 : (h88 90 2) = (h20 90 2) ∧ (h88 90 7) = (h20 90 7) ∧ (h88 90 13) = (h20 90 13) ∧ (h88 90 20) = (h20 90 20) ∧ (h88 90 22) = (h20 90 22) ∧ (h88 90 25) = (h20 90 25) ∧ (h88 90 26) = (h20 90 26) ∧ (h88 90 28) = (h20 90 28) ∧ (h88 90 29) = (h20 90 29) ∧ (h88 90 30) = (h20 90 30) ∧ (h88 90 34) = (h20 90 34) ∧ 0 < (h88 90 8) ∧ (h20 90 8) ≤ (h88 90 8) := f70
    clear f70
    exact ov_retv (st := []) d_211_13 rfl ⟨rfl, I89, (by show (h88 90 2) = (h 90 2) ∧ (h88 90 13) = (h 90 13) ∧ (h88 90 20) = (h 90 20) ∧ (h88 90 22) = (h 90 22) ∧ (h88 90 25) = (h 90 25) ∧ (h88 90 26) = (h 90 26) ∧ (h88 90 28) = (h 90 28) ∧ (h88 90 29) = (h 90 29) ∧ (h88 90 30) = (h 90 30) ∧ (h88 90 34) = (h 90 34) ∧ (h 90 7) ≤ (h88 90 7) ∧ (h88 90 7) ≤ n ∧ (h 90 8) ≤ (h88 90 8); omega), E90, E91, E92, E93, E94, E95, E96, E97, E98, E99, E100, E101, E102, E103, E104, E105⟩
abbrev P_Mo_takeNumber_90 (F : ov_H × ov_Z) (z : ov_Z) (h : ov_H) (n : Int) (lo : Int) (hi : Int) : Option ov_V → ov_Z → ov_H → Prop := fun r0 z' h' => ∃ r : Int, r0 = some (ov_i r) ∧ ov_N F z' h' ∧ ((h' 90 2) = (h 90 2) ∧ (h' 90 13) = (h 90 13) ∧ (h' 90 20) = (h 90 20) ∧ (h' 90 22) = (h 90 22) ∧ (h' 90 25) = (h 90 25) ∧ (h' 90 26) = (h 90 26) ∧ (h' 90 28) = (h 90 28) ∧ (h' 90 29) = (h 90 29) ∧ (h' 90 30) = (h 90 30) ∧ (h' 90 34) = (h 90 34) ∧ (h 90 7) ≤ (h' 90 7) ∧ (h' 90 7) ≤ n ∧ (h 90 8) ≤ (h' 90 8) ∧ ((h' 90 8) = 0 → lo ≤ r ∧ r ≤ hi) ∧ (0 < (h' 90 8) → r = 0) ∧ (h 90 7) < (h' 90 7) + (h' 90 8)) ∧ h' 91 = h 91 ∧ h' 92 = h 92 ∧ h' 93 = h 93 ∧ h' 94 = h 94 ∧ h' 95 = h 95 ∧ h' 96 = h 96 ∧ h' 97 = h 97 ∧ h' 98 = h 98 ∧ h' 99 = h 99 ∧ h' 100 = h 100 ∧ h' 103 = h 103 ∧ h' 104 = h 104 ∧ h' 105 = h 105 ∧ h' 106 = h 106 ∧ h' 109 = h 109 ∧ h' 114 = h 114
set_option maxHeartbeats 4000000 in
theorem c_Mo_takeNumber_90 {u : ov_U} {F : ov_H × ov_Z} (n : Int) {z : ov_Z} {h : ov_H} (d : Nat) (hd : 1 ≤ d) (U : ov_cap u) (I : ov_N F z h) (lo : Int) (hi : Int) (g_lo : ov_g lo) (g_hi : ov_g hi) (p0 : 0 ≤ n ∧ n ≤ 1000 ∧ (h 92 (n)) = 0 ∧ (h 90 7) ≤ n) : ov_T u d ov_m215 [ov_r 90, ov_i lo, ov_i hi] z h (P_Mo_takeNumber_90 F z h n lo hi) := by
  refine ov_en rfl (Nat.le_of_ble_eq_true rfl) ?_
  show ov_R u d ov_m215 0 [(0, ov_r 90), (1, ov_i lo), (2, ov_i hi)] [] z h (P_Mo_takeNumber_90 F z h n lo hi)
  have qn : h 90 7 = n → h 92 (h 90 7) = h 92 n := fun e => by rw [e]
  refine ov_blk (ls2 := [(0, ov_r 90), (1, ov_i lo), (2, ov_i hi)]) (st2 := [ov_r 90]) (pc2 := 1) b_215_0_1 rfl rfl ?_
  refine ov_getf (v := ov_i (h 90 8)) d_215_1 fl_Mo_180 (zb_90 I) (zs_90 I) rfl ?_
  have g1 := rg_90_8 I
  refine ov_ifne (tgt := 28) d_215_4 (by decide) (by omega) (fun c2 => ?_) (fun c2 => ?_)
  · skip
    refine ov_blk (ls2 := [(0, ov_r 90), (1, ov_i lo), (2, ov_i hi)]) (st2 := [ov_r 90]) (pc2 := 29) b_215_28_1 rfl rfl ?_
    refine ov_getf (v := ov_i (h 90 8)) d_215_29 fl_Mo_180 (zb_90 I) (zs_90 I) rfl ?_
    refine ov_ifne (tgt := 70) d_215_32 (by decide) (by omega) (fun c4 => ?_) (fun c4 => ?_)
    · skip
      refine ov_blk (ls2 := [(0, ov_r 90), (1, ov_i lo), (2, ov_i hi)]) (st2 := [ov_r 90]) (pc2 := 71) b_215_70_1 rfl rfl ?_
      refine ov_getf (v := ov_i (h 90 8)) d_215_71 fl_Mo_180 (zb_90 I) (zs_90 I) rfl ?_
      refine ov_ifle (tgt := 79) d_215_74 (by decide) (by omega) (fun c6 => ?_) (fun c6 => ?_)
      · omega
      · skip
        refine ov_blk (ls2 := [(0, ov_r 90), (1, ov_i lo), (2, ov_i hi)]) (st2 := [ov_i 0]) (pc2 := 78) b_215_77_1 rfl rfl ?_
        exact ov_reti (st := []) d_215_78 rfl ⟨_, rfl, I, ⟨rfl, rfl, rfl, rfl, rfl, rfl, rfl, rfl, rfl, rfl, (by show (h 90 7) ≤ (h 90 7) ∧ (h 90 7) ≤ n ∧ (h 90 8) ≤ (h 90 8) ∧ ((h 90 8) = 0 → lo ≤ 0 ∧ 0 ≤ hi) ∧ (0 < (h 90 8) → 0 = 0) ∧ (h 90 7) < (h 90 7) + (h 90 8); omega)⟩, rfl, rfl, rfl, rfl, rfl, rfl, rfl, rfl, rfl, rfl, rfl, rfl, rfl, rfl, rfl, rfl⟩
    · omega
  · skip
    refine ov_blk (ls2 := [(0, ov_r 90), (1, ov_i lo), (2, ov_i hi)]) (st2 := [ov_r 90]) (pc2 := 8) b_215_7_1 rfl rfl ?_
    refine ov_getf (v := ov_r 92) d_215_8 fl_Mo_24 (zb_90 I) (zs_90 I) (congrArg ov_r (rg_90_4 I)) ?_
    refine ov_blk (ls2 := [(0, ov_r 90), (1, ov_i lo), (2, ov_i hi)]) (st2 := [ov_r 90, ov_r 92]) (pc2 := 12) b_215_11_1 rfl rfl ?_
    refine ov_getf (v := ov_i (h 90 7)) d_215_12 fl_Mo_177 (zb_90 I) (zs_90 I) rfl ?_
    have g7 := rg_90_7 I
    refine ov_iald d_215_15 (zb_92 I) (zs_92 I) (by omega) ?_
    have g8 := ra_92 I (h 90 7)
    refine ov_blk (ls2 := [(0, ov_r 90), (1, ov_i lo), (2, ov_i hi)]) (st2 := [ov_i 2, ov_i (h 92 (h 90 7))]) (pc2 := 17) b_215_16_1 rfl rfl ?_
    refine ov_iceq (tgt := 28) d_215_17 (by decide) (by omega) (by omega) (fun c9 => ?_) (fun c9 => ?_)
    · skip
      refine ov_blk (ls2 := [(0, ov_r 90), (1, ov_i lo), (2, ov_i hi)]) (st2 := [ov_r 90]) (pc2 := 29) b_215_28_1 rfl rfl ?_
      refine ov_getf (v := ov_i (h 90 8)) d_215_29 fl_Mo_180 (zb_90 I) (zs_90 I) rfl ?_
      refine ov_ifne (tgt := 70) d_215_32 (by decide) (by omega) (fun c11 => ?_) (fun c11 => ?_)
      · omega
      · skip
        refine ov_blk (ls2 := [(0, ov_r 90), (1, ov_i lo), (2, ov_i hi)]) (st2 := [ov_r 90]) (pc2 := 36) b_215_35_1 rfl rfl ?_
        refine ov_getf (v := ov_r 94) d_215_36 fl_Mo_30 (zb_90 I) (zs_90 I) (congrArg ov_r (rg_90_6 I)) ?_
        refine ov_blk (ls2 := [(0, ov_r 90), (1, ov_i lo), (2, ov_i hi)]) (st2 := [ov_r 90, ov_r 94]) (pc2 := 40) b_215_39_1 rfl rfl ?_
        refine ov_getf (v := ov_i (h 90 7)) d_215_40 fl_Mo_177 (zb_90 I) (zs_90 I) rfl ?_
        refine ov_lald d_215_43 (zb_94 I) (zs_94 I) (by omega) ?_
        have g13 := ra_94 I (h 90 7)
        refine ov_blk (ls2 := [(0, ov_r 90), (1, ov_i lo), (2, ov_i hi)]) (st2 := [ov_i (ov_lcmp (h 94 (h 90 7)) (ov_w lo))]) (pc2 := 47) b_215_44_3 rfl rfl ?_
        have g14 := ov_wg lo
        have g15 := ov_wq lo
        have g16 := ov_lcg (h 94 (h 90 7)) (ov_w lo)
        have g17 := ov_lcs (a := (h 94 (h 90 7))) (b := (ov_w lo)) (by omega) (by omega)
        refine ov_iflt (tgt := 65) d_215_47 (by decide) (by omega) (fun c18 => ?_) (fun c18 => ?_)
        · skip
          refine ov_blk (ls2 := [(0, ov_r 90), (1, ov_i lo), (2, ov_i hi)]) (st2 := [ov_i 4, ov_r 90]) (pc2 := 67) b_215_65_2 rfl rfl ?_
          refine ov_cV (as := [ov_i 4]) (st := []) (d2 := d - 1) d_215_67 lk_Mo_186 rfl (Nat.le_of_ble_eq_true rfl) (c := 1) (zb_90 I) (zs_90 I) ⟨by decide, rfl⟩ (by omega) (c_Mo_wrong_90 (d - 1) (by omega) U I 4 (by omega) (by omega)) ?_
          rintro _ z36 h37 ⟨rfl, I38, f19, e20, e21, e22, e23, e24, e25, e26, e27, e28, e29, e30, e31, e32, e33, e34, e35⟩
          have E39 : h37 91 = h 91 := e20
          have E40 : h37 92 = h 92 := e21
          have E41 : h37 93 = h 93 := e22
          have E42 : h37 94 = h 94 := e23
          have E43 : h37 95 = h 95 := e24
          have E44 : h37 96 = h 96 := e25
          have E45 : h37 97 = h 97 := e26
          have E46 : h37 98 = h 98 := e27
          have E47 : h37 99 = h 99 := e28
          have E48 : h37 100 = h 100 := e29
          have E49 : h37 103 = h 103 := e30
          have E50 : h37 104 = h 104 := e31
          have E51 : h37 105 = h 105 := e32
          have E52 : h37 106 = h 106 := e33
          have E53 : h37 109 = h 109 := e34
          have E54 : h37 114 = h 114 := e35
          show ov_R u d ov_m215 70 [(0, ov_r 90), (1, ov_i lo), (2, ov_i hi)] [] z36 h37 (P_Mo_takeNumber_90 F z h n lo hi)
          have f55 : (h37 90 2) = (h 90 2) ∧ (h37 90 7) = (h 90 7) ∧ (h37 90 13) = (h 90 13) ∧ (h37 90 20) = (h 90 20) ∧ (h37 90 22) = (h 90 22) ∧ (h37 90 25) = (h 90 25) ∧ (h37 90 26) = (h 90 26) ∧ (h37 90 28) = (h 90 28) ∧ (h37 90 29) = (h 90 29) ∧ (h37 90 30) = (h 90 30) ∧ (h37 90 34) = (h 90 34) ∧ 0 < (h37 90 8) ∧ (h 90 8) ≤ (h37 90 8) := f19
          clear f19
          refine ov_blk (ls2 := [(0, ov_r 90), (1, ov_i lo), (2, ov_i hi)]) (st2 := [ov_r 90]) (pc2 := 71) b_215_70_1 rfl rfl ?_
          refine ov_getf (v := ov_i (h37 90 8)) d_215_71 fl_Mo_180 (zb_90 I38) (zs_90 I38) rfl ?_
          have g56 := rg_90_8 I38
          refine ov_ifle (tgt := 79) d_215_74 (by decide) (by omega) (fun c57 => ?_) (fun c57 => ?_)
          · omega
          · skip
            refine ov_blk (ls2 := [(0, ov_r 90), (1, ov_i lo), (2, ov_i hi)]) (st2 := [ov_i 0]) (pc2 := 78) b_215_77_1 rfl rfl ?_
            exact ov_reti (st := []) d_215_78 rfl ⟨_, rfl, I38, (by show (h37 90 2) = (h 90 2) ∧ (h37 90 13) = (h 90 13) ∧ (h37 90 20) = (h 90 20) ∧ (h37 90 22) = (h 90 22) ∧ (h37 90 25) = (h 90 25) ∧ (h37 90 26) = (h 90 26) ∧ (h37 90 28) = (h 90 28) ∧ (h37 90 29) = (h 90 29) ∧ (h37 90 30) = (h 90 30) ∧ (h37 90 34) = (h 90 34) ∧ (h 90 7) ≤ (h37 90 7) ∧ (h37 90 7) ≤ n ∧ (h 90 8) ≤ (h37 90 8) ∧ ((h37 90 8) = 0 → lo ≤ 0 ∧ 0 ≤ hi) ∧ (0 < (h37 90 8) → 0 = 0) ∧ (h 90 7) < (h37 90 7) + (h37 90 8); omega), E39, E40, E41, E42, E43, E44, E45, E46, E47, E48, E49, E50, E51, E52, E53, E54⟩
        · skip
          refine ov_blk (ls2 := [(0, ov_r 90), (1, ov_i lo), (2, ov_i hi)]) (st2 := [ov_r 90]) (pc2 := 51) b_215_50_1 rfl rfl ?_
          refine ov_getf (v := ov_r 94) d_215_51 fl_Mo_30 (zb_90 I) (zs_90 I) (congrArg ov_r (rg_90_6 I)) ?_
          refine ov_blk (ls2 := [(0, ov_r 90), (1, ov_i lo), (2, ov_i hi)]) (st2 := [ov_r 90, ov_r 94]) (pc2 := 55) b_215_54_1 rfl rfl ?_
          refine ov_getf (v := ov_i (h 90 7)) d_215_55 fl_Mo_177 (zb_90 I) (zs_90 I) rfl ?_
          refine ov_lald d_215_58 (zb_94 I) (zs_94 I) (by omega) ?_
          refine ov_blk (ls2 := [(0, ov_r 90), (1, ov_i lo), (2, ov_i hi)]) (st2 := [ov_i (ov_lcmp (h 94 (h 90 7)) (ov_w hi))]) (pc2 := 62) b_215_59_3 rfl rfl ?_
          have g60 := ov_wg hi
          have g61 := ov_wq hi
          have g62 := ov_lcg (h 94 (h 90 7)) (ov_w hi)
          have g63 := ov_lcs (a := (h 94 (h 90 7))) (b := (ov_w hi)) (by omega) (by omega)
          refine ov_ifle (tgt := 70) d_215_62 (by decide) (by omega) (fun c64 => ?_) (fun c64 => ?_)
          · skip
            refine ov_blk (ls2 := [(0, ov_r 90), (1, ov_i lo), (2, ov_i hi)]) (st2 := [ov_r 90]) (pc2 := 71) b_215_70_1 rfl rfl ?_
            refine ov_getf (v := ov_i (h 90 8)) d_215_71 fl_Mo_180 (zb_90 I) (zs_90 I) rfl ?_
            refine ov_ifle (tgt := 79) d_215_74 (by decide) (by omega) (fun c66 => ?_) (fun c66 => ?_)
            · skip
              refine ov_blk (ls2 := [(0, ov_r 90), (1, ov_i lo), (2, ov_i hi)]) (st2 := [ov_r 90, ov_r 90]) (pc2 := 81) b_215_79_2 rfl rfl ?_
              refine ov_getf (v := ov_i (h 90 7)) d_215_81 fl_Mo_177 (zb_90 I) (zs_90 I) rfl ?_
              refine ov_blk (ls2 := [(0, ov_r 90), (1, ov_i lo), (2, ov_i hi)]) (st2 := [ov_i ((h 90 7) + 1), ov_r 90]) (pc2 := 86) b_215_84_2 rfl rfl ?_
              refine ov_putf (x := ((h 90 7) + 1)) d_215_86 fl_Mo_177 (zb_90 I) (zs_90 I) rfl nk_0 rfl ?_
              have I68 := up_90_7 (x := ((h 90 7) + 1)) I (by omega)
              refine ov_blk (ls2 := [(0, ov_r 90), (1, ov_i lo), (2, ov_i hi)]) (st2 := [ov_r 90]) (pc2 := 90) b_215_89_1 rfl rfl ?_
              refine ov_getf (v := ov_r 94) d_215_90 fl_Mo_30 (zb_90 I68) (zs_90 I68) (congrArg ov_r (rg_90_6 I68)) ?_
              refine ov_blk (ls2 := [(0, ov_r 90), (1, ov_i lo), (2, ov_i hi)]) (st2 := [ov_r 90, ov_r 94]) (pc2 := 94) b_215_93_1 rfl rfl ?_
              refine ov_getf (v := ov_i ((h 90 7) + 1)) d_215_94 fl_Mo_177 (zb_90 I68) (zs_90 I68) rfl ?_
              refine ov_blk (ls2 := [(0, ov_r 90), (1, ov_i lo), (2, ov_i hi)]) (st2 := [ov_i (((h 90 7) + 1) - 1), ov_r 94]) (pc2 := 99) b_215_97_2 rfl rfl ?_
              refine ov_lald d_215_99 (zb_94 I68) (zs_94 I68) (by omega) ?_
              show ov_R u d ov_m215 100 [(0, ov_r 90), (1, ov_i lo), (2, ov_i hi)] [ov_l (h 94 (((h 90 7) + 1) - 1))] z (ov_up h 90 7 ((h 90 7) + 1)) (P_Mo_takeNumber_90 F z h n lo hi)
              have g69 := ra_94 I (((h 90 7) + 1) - 1)
              have qv : (h 94 (((h 90 7) + 1) - 1)) = h 94 (h 90 7) := by congr 1; omega
              refine ov_blk (ls2 := [(0, ov_r 90), (1, ov_i lo), (2, ov_i hi)]) (st2 := [ov_i (h 94 (((h 90 7) + 1) - 1))]) (pc2 := 101) b_215_100_1 rfl rfl ?_
              exact ov_reti (st := []) d_215_101 rfl ⟨_, rfl, I68, ⟨rfl, rfl, rfl, rfl, rfl, rfl, rfl, rfl, rfl, rfl, (by show (h 90 7) ≤ ((h 90 7) + 1) ∧ ((h 90 7) + 1) ≤ n ∧ (h 90 8) ≤ (h 90 8) ∧ ((h 90 8) = 0 → lo ≤ (h 94 (((h 90 7) + 1) - 1)) ∧ (h 94 (((h 90 7) + 1) - 1)) ≤ hi) ∧ (0 < (h 90 8) → (h 94 (((h 90 7) + 1) - 1)) = 0) ∧ (h 90 7) < ((h 90 7) + 1) + (h 90 8); omega)⟩, rfl, rfl, rfl, rfl, rfl, rfl, rfl, rfl, rfl, rfl, rfl, rfl, rfl, rfl, rfl, rfl⟩
            · omega
          · skip
            refine ov_blk (ls2 := [(0, ov_r 90), (1, ov_i lo), (2, ov_i hi)]) (st2 := [ov_i 4, ov_r 90]) (pc2 := 67) b_215_65_2 rfl rfl ?_
            refine ov_cV (as := [ov_i 4]) (st := []) (d2 := d - 1) d_215_67 lk_Mo_186 rfl (Nat.le_of_ble_eq_true rfl) (c := 1) (zb_90 I) (zs_90 I) ⟨by decide, rfl⟩ (by omega) (c_Mo_wrong_90 (d - 1) (by omega) U I 4 (by omega) (by omega)) ?_
            rintro _ z87 h88 ⟨rfl, I89, f70, e71, e72, e73, e74, e75, e76, e77, e78, e79, e80, e81, e82, e83, e84, e85, e86⟩
            have E90 : h88 91 = h 91 := e71
            have E91 : h88 92 = h 92 := e72
            have E92 : h88 93 = h 93 := e73
            have E93 : h88 94 = h 94 := e74
            have E94 : h88 95 = h 95 := e75
            have E95 : h88 96 = h 96 := e76
            have E96 : h88 97 = h 97 := e77
            have E97 : h88 98 = h 98 := e78
            have E98 : h88 99 = h 99 := e79
            have E99 : h88 100 = h 100 := e80
            have E100 : h88 103 = h 103 := e81
            have E101 : h88 104 = h 104 := e82
            have E102 : h88 105 = h 105 := e83
            have E103 : h88 106 = h 106 := e84
            have E104 : h88 109 = h 109 := e85
            have E105 : h88 114 = h 114 := e86
            show ov_R u d ov_m215 70 [(0, ov_r 90), (1, ov_i lo), (2, ov_i hi)] [] z87 h88 (P_Mo_takeNumber_90 F z h n lo hi)
            have f106 : (h88 90 2) = (h 90 2) ∧ (h88 90 7) = (h 90 7) ∧ (h88 90 13) = (h 90 13) ∧ (h88 90 20) = (h 90 20) ∧ (h88 90 22) = (h 90 22) ∧ (h88 90 25) = (h 90 25) ∧ (h88 90 26) = (h 90 26) ∧ (h88 90 28) = (h 90 28) ∧ (h88 90 29) = (h 90 29) ∧ (h88 90 30) = (h 90 30) ∧ (h88 90 34) = (h 90 34) ∧ 0 < (h88 90 8) ∧ (h 90 8) ≤ (h88 90 8) := f70
            clear f70
            refine ov_blk (ls2 := [(0, ov_r 90), (1, ov_i lo), (2, ov_i hi)]) (st2 := [ov_r 90]) (pc2 := 71) b_215_70_1 rfl rfl ?_
            refine ov_getf (v := ov_i (h88 90 8)) d_215_71 fl_Mo_180 (zb_90 I89) (zs_90 I89) rfl ?_
            have g107 := rg_90_8 I89
            refine ov_ifle (tgt := 79) d_215_74 (by decide) (by omega) (fun c108 => ?_) (fun c108 => ?_)
            · omega
            · skip
              refine ov_blk (ls2 := [(0, ov_r 90), (1, ov_i lo), (2, ov_i hi)]) (st2 := [ov_i 0]) (pc2 := 78) b_215_77_1 rfl rfl ?_
              exact ov_reti (st := []) d_215_78 rfl ⟨_, rfl, I89, (by show (h88 90 2) = (h 90 2) ∧ (h88 90 13) = (h 90 13) ∧ (h88 90 20) = (h 90 20) ∧ (h88 90 22) = (h 90 22) ∧ (h88 90 25) = (h 90 25) ∧ (h88 90 26) = (h 90 26) ∧ (h88 90 28) = (h 90 28) ∧ (h88 90 29) = (h 90 29) ∧ (h88 90 30) = (h 90 30) ∧ (h88 90 34) = (h 90 34) ∧ (h 90 7) ≤ (h88 90 7) ∧ (h88 90 7) ≤ n ∧ (h 90 8) ≤ (h88 90 8) ∧ ((h88 90 8) = 0 → lo ≤ 0 ∧ 0 ≤ hi) ∧ (0 < (h88 90 8) → 0 = 0) ∧ (h 90 7) < (h88 90 7) + (h88 90 8); omega), E90, E91, E92, E93, E94, E95, E96, E97, E98, E99, E100, E101, E102, E103, E104, E105⟩
    · skip
      refine ov_blk (ls2 := [(0, ov_r 90), (1, ov_i lo), (2, ov_i hi)]) (st2 := [ov_i 1, ov_r 90]) (pc2 := 22) b_215_20_2 rfl rfl ?_
      refine ov_cV (as := [ov_i 1]) (st := []) (d2 := d - 1) d_215_22 lk_Mo_186 rfl (Nat.le_of_ble_eq_true rfl) (c := 1) (zb_90 I) (zs_90 I) ⟨by decide, rfl⟩ (by omega) (c_Mo_wrong_90 (d - 1) (by omega) U I 1 (by omega) (by omega)) ?_
      rintro _ z126 h127 ⟨rfl, I128, f109, e110, e111, e112, e113, e114, e115, e116, e117, e118, e119, e120, e121, e122, e123, e124, e125⟩
      have E129 : h127 91 = h 91 := e110
      have E130 : h127 92 = h 92 := e111
      have E131 : h127 93 = h 93 := e112
      have E132 : h127 94 = h 94 := e113
      have E133 : h127 95 = h 95 := e114
      have E134 : h127 96 = h 96 := e115
      have E135 : h127 97 = h 97 := e116
      have E136 : h127 98 = h 98 := e117
      have E137 : h127 99 = h 99 := e118
      have E138 : h127 100 = h 100 := e119
      have E139 : h127 103 = h 103 := e120
      have E140 : h127 104 = h 104 := e121
      have E141 : h127 105 = h 105 := e122
      have E142 : h127 106 = h 106 := e123
      have E143 : h127 109 = h 109 := e124
      have E144 : h127 114 = h 114 := e125
      show ov_R u d ov_m215 25 [(0, ov_r 90), (1, ov_i lo), (2, ov_i hi)] [] z126 h127 (P_Mo_takeNumber_90 F z h n lo hi)
      have f145 : (h127 90 2) = (h 90 2) ∧ (h127 90 7) = (h 90 7) ∧ (h127 90 13) = (h 90 13) ∧ (h127 90 20) = (h 90 20) ∧ (h127 90 22) = (h 90 22) ∧ (h127 90 25) = (h 90 25) ∧ (h127 90 26) = (h 90 26) ∧ (h127 90 28) = (h 90 28) ∧ (h127 90 29) = (h 90 29) ∧ (h127 90 30) = (h 90 30) ∧ (h127 90 34) = (h 90 34) ∧ 0 < (h127 90 8) ∧ (h 90 8) ≤ (h127 90 8) := f109
      clear f109
      refine ov_goto (tgt := 70) d_215_25 (by decide) ?_
      refine ov_blk (ls2 := [(0, ov_r 90), (1, ov_i lo), (2, ov_i hi)]) (st2 := [ov_r 90]) (pc2 := 71) b_215_70_1 rfl rfl ?_
      refine ov_getf (v := ov_i (h127 90 8)) d_215_71 fl_Mo_180 (zb_90 I128) (zs_90 I128) rfl ?_
      have g146 := rg_90_8 I128
      refine ov_ifle (tgt := 79) d_215_74 (by decide) (by omega) (fun c147 => ?_) (fun c147 => ?_)
      · omega
      · skip
        refine ov_blk (ls2 := [(0, ov_r 90), (1, ov_i lo), (2, ov_i hi)]) (st2 := [ov_i 0]) (pc2 := 78) b_215_77_1 rfl rfl ?_
        exact ov_reti (st := []) d_215_78 rfl ⟨_, rfl, I128, (by show (h127 90 2) = (h 90 2) ∧ (h127 90 13) = (h 90 13) ∧ (h127 90 20) = (h 90 20) ∧ (h127 90 22) = (h 90 22) ∧ (h127 90 25) = (h 90 25) ∧ (h127 90 26) = (h 90 26) ∧ (h127 90 28) = (h 90 28) ∧ (h127 90 29) = (h 90 29) ∧ (h127 90 30) = (h 90 30) ∧ (h127 90 34) = (h 90 34) ∧ (h 90 7) ≤ (h127 90 7) ∧ (h127 90 7) ≤ n ∧ (h 90 8) ≤ (h127 90 8) ∧ ((h127 90 8) = 0 → lo ≤ 0 ∧ 0 ≤ hi) ∧ (0 < (h127 90 8) → 0 = 0) ∧ (h 90 7) < (h127 90 7) + (h127 90 8); omega), E129, E130, E131, E132, E133, E134, E135, E136, E137, E138, E139, E140, E141, E142, E143, E144⟩
abbrev P_Mo_takeAfter_90 (F : ov_H × ov_Z) (z : ov_Z) (h : ov_H) (n : Int) (w : Int) (lo : Int) (hi : Int) : Option ov_V → ov_Z → ov_H → Prop := fun r0 z' h' => ∃ r : Int, r0 = some (ov_i r) ∧ ov_N F z' h' ∧ ((h' 90 2) = (h 90 2) ∧ (h' 90 13) = (h 90 13) ∧ (h' 90 20) = (h 90 20) ∧ (h' 90 22) = (h 90 22) ∧ (h' 90 25) = (h 90 25) ∧ (h' 90 26) = (h 90 26) ∧ (h' 90 28) = (h 90 28) ∧ (h' 90 29) = (h 90 29) ∧ (h' 90 30) = (h 90 30) ∧ (h' 90 34) = (h 90 34) ∧ (h 90 7) ≤ (h' 90 7) ∧ (h' 90 7) ≤ n ∧ (h 90 8) ≤ (h' 90 8) ∧ ((h' 90 8) = 0 → lo ≤ r ∧ r ≤ hi) ∧ (0 < (h' 90 8) → r = 0)) ∧ h' 91 = h 91 ∧ h' 92 = h 92 ∧ h' 93 = h 93 ∧ h' 94 = h 94 ∧ h' 95 = h 95 ∧ h' 96 = h 96 ∧ h' 97 = h 97 ∧ h' 98 = h 98 ∧ h' 99 = h 99 ∧ h' 100 = h 100 ∧ h' 103 = h 103 ∧ h' 104 = h 104 ∧ h' 105 = h 105 ∧ h' 106 = h 106 ∧ h' 109 = h 109 ∧ h' 114 = h 114
set_option maxHeartbeats 4000000 in
theorem c_Mo_takeAfter_90 {u : ov_U} {F : ov_H × ov_Z} (n : Int) {z : ov_Z} {h : ov_H} (d : Nat) (hd : 3 ≤ d) (U : ov_cap u) (I : ov_N F z h) (w : Int) (lo : Int) (hi : Int) (g_w : ov_g w) (g_lo : ov_g lo) (g_hi : ov_g hi) (p0 : 0 ≤ n ∧ n ≤ 1000 ∧ (h 92 (n)) = 0 ∧ (h 90 7) ≤ n) (p1 : 0 ≤ w ∧ w ≤ 21) : ov_T u d ov_m221 [ov_r 90, ov_i w, ov_i lo, ov_i hi] z h (P_Mo_takeAfter_90 F z h n w lo hi) := by
  refine ov_en rfl (Nat.le_of_ble_eq_true rfl) ?_
  show ov_R u d ov_m221 0 [(0, ov_r 90), (1, ov_i w), (2, ov_i lo), (3, ov_i hi)] [] z h (P_Mo_takeAfter_90 F z h n w lo hi)
  refine ov_blk (ls2 := [(0, ov_r 90), (1, ov_i w), (2, ov_i lo), (3, ov_i hi)]) (st2 := [ov_i w, ov_r 90]) (pc2 := 2) b_221_0_2 rfl rfl ?_
  refine ov_cV (as := [ov_i w]) (st := []) (d2 := d - 1) d_221_2 lk_Mo_195 rfl (Nat.le_of_ble_eq_true rfl) (c := 1) (zb_90 I) (zs_90 I) ⟨by decide, rfl⟩ (by omega) (c_Mo_takeWord_90 n (d - 1) (by omega) U I w (by omega) (by show 0 ≤ n ∧ n ≤ 1000 ∧ (h 92 (n)) = 0 ∧ (h 90 7) ≤ n; omega) (by omega)) ?_
  rintro _ z18 h19 ⟨rfl, I20, f1, e2, e3, e4, e5, e6, e7, e8, e9, e10, e11, e12, e13, e14, e15, e16, e17⟩
  have E21 : h19 91 = h 91 := e2
  have E22 : h19 92 = h 92 := e3
  have E23 : h19 93 = h 93 := e4
  have E24 : h19 94 = h 94 := e5
  have E25 : h19 95 = h 95 := e6
  have E26 : h19 96 = h 96 := e7
  have E27 : h19 97 = h 97 := e8
  have E28 : h19 98 = h 98 := e9
  have E29 : h19 99 = h 99 := e10
  have E30 : h19 100 = h 100 := e11
  have E31 : h19 103 = h 103 := e12
  have E32 : h19 104 = h 104 := e13
  have E33 : h19 105 = h 105 := e14
  have E34 : h19 106 = h 106 := e15
  have E35 : h19 109 = h 109 := e16
  have E36 : h19 114 = h 114 := e17
  show ov_R u d ov_m221 5 [(0, ov_r 90), (1, ov_i w), (2, ov_i lo), (3, ov_i hi)] [] z18 h19 (P_Mo_takeAfter_90 F z h n w lo hi)
  have f37 : (h19 90 2) = (h 90 2) ∧ (h19 90 13) = (h 90 13) ∧ (h19 90 20) = (h 90 20) ∧ (h19 90 22) = (h 90 22) ∧ (h19 90 25) = (h 90 25) ∧ (h19 90 26) = (h 90 26) ∧ (h19 90 28) = (h 90 28) ∧ (h19 90 29) = (h 90 29) ∧ (h19 90 30) = (h 90 30) ∧ (h19 90 34) = (h 90 34) ∧ (h 90 7) ≤ (h19 90 7) ∧ (h19 90 7) ≤ n ∧ (h 90 8) ≤ (h19 90 8) := f1
  clear f1
  refine ov_blk (ls2 := [(0, ov_r 90), (1, ov_i w), (2, ov_i lo), (3, ov_i hi)]) (st2 := [ov_i hi, ov_i lo, ov_r 90]) (pc2 := 8) b_221_5_3 rfl rfl ?_
  have cf38 : h19 92 (n) = h 92 (n) := congrFun E22 (n)
  refine ov_cV (as := [ov_i lo, ov_i hi]) (st := []) (d2 := d - 1) d_221_8 lk_Mo_198 rfl (Nat.le_of_ble_eq_true rfl) (c := 1) (zb_90 I20) (zs_90 I20) ⟨by decide, rfl⟩ (by omega) (c_Mo_takeNumber_90 n (d - 1) (by omega) U I20 lo hi (by omega) (by omega) (by show 0 ≤ n ∧ n ≤ 1000 ∧ (h19 92 (n)) = 0 ∧ (h19 90 7) ≤ n; omega)) ?_
  rintro _ z57 h58 ⟨v40, rfl, I59, f39, e41, e42, e43, e44, e45, e46, e47, e48, e49, e50, e51, e52, e53, e54, e55, e56⟩
  have E60 : h58 91 = h 91 := Eq.trans e41 E21
  have E61 : h58 92 = h 92 := Eq.trans e42 E22
  have E62 : h58 93 = h 93 := Eq.trans e43 E23
  have E63 : h58 94 = h 94 := Eq.trans e44 E24
  have E64 : h58 95 = h 95 := Eq.trans e45 E25
  have E65 : h58 96 = h 96 := Eq.trans e46 E26
  have E66 : h58 97 = h 97 := Eq.trans e47 E27
  have E67 : h58 98 = h 98 := Eq.trans e48 E28
  have E68 : h58 99 = h 99 := Eq.trans e49 E29
  have E69 : h58 100 = h 100 := Eq.trans e50 E30
  have E70 : h58 103 = h 103 := Eq.trans e51 E31
  have E71 : h58 104 = h 104 := Eq.trans e52 E32
  have E72 : h58 105 = h 105 := Eq.trans e53 E33
  have E73 : h58 106 = h 106 := Eq.trans e54 E34
  have E74 : h58 109 = h 109 := Eq.trans e55 E35
  have E75 : h58 114 = h 114 := Eq.trans e56 E36
  show ov_R u d ov_m221 11 [(0, ov_r 90), (1, ov_i w), (2, ov_i lo), (3, ov_i hi)] [ov_i v40] z57 h58 (P_Mo_takeAfter_90 F z h n w lo hi)
  have f76 : (h58 90 2) = (h19 90 2) ∧ (h58 90 13) = (h19 90 13) ∧ (h58 90 20) = (h19 90 20) ∧ (h58 90 22) = (h19 90 22) ∧ (h58 90 25) = (h19 90 25) ∧ (h58 90 26) = (h19 90 26) ∧ (h58 90 28) = (h19 90 28) ∧ (h58 90 29) = (h19 90 29) ∧ (h58 90 30) = (h19 90 30) ∧ (h58 90 34) = (h19 90 34) ∧ (h19 90 7) ≤ (h58 90 7) ∧ (h58 90 7) ≤ n ∧ (h19 90 8) ≤ (h58 90 8) ∧ ((h58 90 8) = 0 → lo ≤ v40 ∧ v40 ≤ hi) ∧ (0 < (h58 90 8) → v40 = 0) ∧ (h19 90 7) < (h58 90 7) + (h58 90 8) := f39
  clear f39
  exact ov_reti (st := []) d_221_11 rfl ⟨_, rfl, I59, (by show (h58 90 2) = (h 90 2) ∧ (h58 90 13) = (h 90 13) ∧ (h58 90 20) = (h 90 20) ∧ (h58 90 22) = (h 90 22) ∧ (h58 90 25) = (h 90 25) ∧ (h58 90 26) = (h 90 26) ∧ (h58 90 28) = (h 90 28) ∧ (h58 90 29) = (h 90 29) ∧ (h58 90 30) = (h 90 30) ∧ (h58 90 34) = (h 90 34) ∧ (h 90 7) ≤ (h58 90 7) ∧ (h58 90 7) ≤ n ∧ (h 90 8) ≤ (h58 90 8) ∧ ((h58 90 8) = 0 → lo ≤ v40 ∧ v40 ≤ hi) ∧ (0 < (h58 90 8) → v40 = 0); omega), E60, E61, E62, E63, E64, E65, E66, E67, E68, E69, E70, E71, E72, E73, E74, E75⟩
abbrev P_Mo_wordHere_90 (F : ov_H × ov_Z) (z : ov_Z) (h : ov_H) (n : Int) (a : Int) (m : Int) : Option ov_V → ov_Z → ov_H → Prop := fun r0 z' h' => ∃ r : Int, r0 = some (ov_i r) ∧ z = z' ∧ h = h' ∧ (-1 ≤ r ∧ r < m ∧ (0 ≤ r → (h 90 7) < n ∧ (h 90 8) = 0))
set_option maxHeartbeats 4000000 in
theorem c_Mo_wordHere_90 {u : ov_U} {F : ov_H × ov_Z} (n : Int) {z : ov_Z} {h : ov_H} (d : Nat) (hd : 1 ≤ d) (U : ov_cap u) (I : ov_N F z h) (a : Int) (m : Int) (g_a : ov_g a) (g_m : ov_g m) (p0 : 0 ≤ n ∧ n ≤ 1000 ∧ (h 92 (n)) = 0 ∧ (h 90 7) ≤ n) (p1 : 0 ≤ a ∧ 0 ≤ m ∧ a + m ≤ 22) : ov_T u d ov_m220 [ov_r 90, ov_i a, ov_i m] z h (P_Mo_wordHere_90 F z h n a m) := by
  refine ov_en rfl (Nat.le_of_ble_eq_true rfl) ?_
  show ov_R u d ov_m220 0 [(0, ov_r 90), (1, ov_i a), (2, ov_i m)] [] z h (P_Mo_wordHere_90 F z h n a m)
  refine ov_blk (ls2 := [(0, ov_r 90), (1, ov_i a), (2, ov_i m), (3, ov_i (-1)), (4, ov_i 0)]) (st2 := []) (pc2 := 5) b_220_0_4 rfl rfl ?_
  have L4 : ∀ (n1 : Nat) (x3 : Int) (x4 : Int) (q3 : -1 ≤ x3 ∧ x3 < m ∧ 0 ≤ x4 ∧ x4 ≤ m ∧ (0 ≤ x3 → (h 90 7) < n ∧ (h 90 8) = 0)), 22 - x4 < (n1 : Int) → ov_R u d ov_m220 5 [(0, ov_r 90), (1, ov_i a), (2, ov_i m), (3, ov_i x3), (4, ov_i x4)] [] z h (P_Mo_wordHere_90 F z h n a m) := by
    intro n1
    induction n1 with
    | zero =>
      intro x3 x4 q3 hn5
      exact absurd hn5 (by omega)
    | succ n1 ih2 =>
      intro x3 x4 q3 hn5
      refine ov_blk (ls2 := [(0, ov_r 90), (1, ov_i a), (2, ov_i m), (3, ov_i x3), (4, ov_i x4)]) (st2 := [ov_i m, ov_i x4]) (pc2 := 8) b_220_5_2 rfl rfl ?_
      refine ov_icge (tgt := 35) d_220_8 (by decide) (by omega) (by omega) (fun c6 => ?_) (fun c6 => ?_)
      · skip
        refine ov_blk (ls2 := [(0, ov_r 90), (1, ov_i a), (2, ov_i m), (3, ov_i x3), (4, ov_i x4)]) (st2 := [ov_i x3]) (pc2 := 36) b_220_35_1 rfl rfl ?_
        exact ov_reti (st := []) d_220_36 rfl ⟨_, rfl, rfl, rfl, (by show -1 ≤ x3 ∧ x3 < m ∧ (0 ≤ x3 → (h 90 7) < n ∧ (h 90 8) = 0); omega)⟩
      · skip
        refine ov_blk (ls2 := [(0, ov_r 90), (1, ov_i a), (2, ov_i m), (3, ov_i x3), (4, ov_i x4)]) (st2 := [ov_i (a + x4), ov_r 90]) (pc2 := 16) b_220_11_4 rfl rfl ?_
        refine ov_cV (as := [ov_i (a + x4)]) (st := []) (d2 := d - 1) d_220_16 lk_Mo_189 rfl (Nat.le_of_ble_eq_true rfl) (c := 1) (zb_90 I) (zs_90 I) ⟨by decide, rfl⟩ (by omega) (c_Mo_isWord_90 n (d - 1) (by omega) U I (a + x4) (by omega) (by show 0 ≤ n ∧ n ≤ 1000 ∧ (h 92 (n)) = 0 ∧ (h 90 7) ≤ n; omega) (by omega)) ?_
        rintro _ _ _ ⟨v8, rfl, rfl, rfl, f7⟩
        show ov_R u d ov_m220 19 [(0, ov_r 90), (1, ov_i a), (2, ov_i m), (3, ov_i x3), (4, ov_i x4)] [ov_i v8] z h (P_Mo_wordHere_90 F z h n a m)
        have f9 : (v8 = 0 ∨ v8 = 1) ∧ (v8 = 1 → (h 90 7) < n) ∧ (v8 = 1 → (h 90 8) = 0 ∧ (h 92 ((h 90 7))) = 1 ∧ (h 94 ((h 90 7))) = (h 95 ((a + x4)))) ∧ (v8 = 0 → ¬ ((h 90 8) = 0 ∧ (h 92 ((h 90 7))) = 1 ∧ (h 94 ((h 90 7))) = (h 95 ((a + x4))))) := f7
        clear f7
        refine ov_ifeq (tgt := 27) d_220_19 (by decide) (by omega) (fun c10 => ?_) (fun c10 => ?_)
        · skip
          have f9_ : v8 = 0 := by omega
          have f11 : ¬ ((h 90 8) = 0 ∧ (h 92 ((h 90 7))) = 1 ∧ (h 94 ((h 90 7))) = (h 95 ((a + x4)))) := f9.2.2.2 (by omega)
          clear f9
          refine ov_blk (ls2 := [(0, ov_r 90), (1, ov_i a), (2, ov_i m), (3, ov_i x3), (4, ov_i (x4 + 1))]) (st2 := []) (pc2 := 32) b_220_27_3 rfl rfl ?_
          refine ov_goto (tgt := 5) d_220_32 (by decide) ?_
          exact ih2 x3 (x4 + 1) (by show -1 ≤ x3 ∧ x3 < m ∧ 0 ≤ (x4 + 1) ∧ (x4 + 1) ≤ m ∧ (0 ≤ x3 → (h 90 7) < n ∧ (h 90 8) = 0); omega) (by omega)
        · skip
          have f9_ : v8 = 1 := by omega
          have f12 : (h 90 7) < n := f9.2.1 (by omega)
          have f13 : (h 90 8) = 0 ∧ (h 92 ((h 90 7))) = 1 ∧ (h 94 ((h 90 7))) = (h 95 ((a + x4))) := f9.2.2.1 (by omega)
          clear f9
          refine ov_blk (ls2 := [(0, ov_r 90), (1, ov_i a), (2, ov_i m), (3, ov_i x3), (4, ov_i x4)]) (st2 := [ov_i x4]) (pc2 := 24) b_220_22_1 rfl rfl ?_
          refine ov_goto (tgt := 28) d_220_24 (by decide) ?_
          refine ov_blk (ls2 := [(0, ov_r 90), (1, ov_i a), (2, ov_i m), (3, ov_i x4), (4, ov_i (x4 + 1))]) (st2 := []) (pc2 := 32) b_220_28_2 rfl rfl ?_
          refine ov_goto (tgt := 5) d_220_32 (by decide) ?_
          exact ih2 x4 (x4 + 1) (by show -1 ≤ x4 ∧ x4 < m ∧ 0 ≤ (x4 + 1) ∧ (x4 + 1) ≤ m ∧ (0 ≤ x4 → (h 90 7) < n ∧ (h 90 8) = 0); omega) (by omega)
  exact L4 30 (-1) 0 (by show -1 ≤ (-1) ∧ (-1) < m ∧ 0 ≤ 0 ∧ 0 ≤ m ∧ (0 ≤ (-1) → (h 90 7) < n ∧ (h 90 8) = 0); omega) (by omega)
abbrev P_Mo_isName_90 (F : ov_H × ov_Z) (z : ov_Z) (h : ov_H) (n : Int) : Option ov_V → ov_Z → ov_H → Prop := fun r0 z' h' => ∃ r : Int, r0 = some (ov_i r) ∧ z = z' ∧ h = h' ∧ ((r = 0 ∨ r = 1) ∧ (r = 1 → (h 90 7) < n))
set_option maxHeartbeats 4000000 in
theorem c_Mo_isName_90 {u : ov_U} {F : ov_H × ov_Z} (n : Int) {z : ov_Z} {h : ov_H} (d : Nat) (hd : 2 ≤ d) (U : ov_cap u) (I : ov_N F z h) (p0 : 0 ≤ n ∧ n ≤ 1000 ∧ (h 92 (n)) = 0 ∧ (h 90 7) ≤ n) : ov_T u d ov_m225 [ov_r 90] z h (P_Mo_isName_90 F z h n) := by
  refine ov_en rfl (Nat.le_of_ble_eq_true rfl) ?_
  show ov_R u d ov_m225 0 [(0, ov_r 90)] [] z h (P_Mo_isName_90 F z h n)
  have qn : h 90 7 = n → h 92 (h 90 7) = h 92 n := fun e => by rw [e]
  refine ov_blk (ls2 := [(0, ov_r 90)]) (st2 := [ov_r 90]) (pc2 := 1) b_225_0_1 rfl rfl ?_
  refine ov_getf (v := ov_i (h 90 8)) d_225_1 fl_Mo_180 (zb_90 I) (zs_90 I) rfl ?_
  have g1 := rg_90_8 I
  refine ov_ifne (tgt := 34) d_225_4 (by decide) (by omega) (fun c2 => ?_) (fun c2 => ?_)
  · skip
    refine ov_blk (ls2 := [(0, ov_r 90)]) (st2 := [ov_i 0]) (pc2 := 35) b_225_34_1 rfl rfl ?_
    exact ov_retz (st := []) d_225_35 rfl (by omega) ⟨_, rfl, rfl, rfl, (by show (0 = 0 ∨ 0 = 1) ∧ (0 = 1 → (h 90 7) < n); omega)⟩
  · skip
    refine ov_blk (ls2 := [(0, ov_r 90)]) (st2 := [ov_r 90]) (pc2 := 8) b_225_7_1 rfl rfl ?_
    refine ov_getf (v := ov_r 92) d_225_8 fl_Mo_24 (zb_90 I) (zs_90 I) (congrArg ov_r (rg_90_4 I)) ?_
    refine ov_blk (ls2 := [(0, ov_r 90)]) (st2 := [ov_r 90, ov_r 92]) (pc2 := 12) b_225_11_1 rfl rfl ?_
    refine ov_getf (v := ov_i (h 90 7)) d_225_12 fl_Mo_177 (zb_90 I) (zs_90 I) rfl ?_
    have g3 := rg_90_7 I
    refine ov_iald d_225_15 (zb_92 I) (zs_92 I) (by omega) ?_
    have g4 := ra_92 I (h 90 7)
    refine ov_blk (ls2 := [(0, ov_r 90)]) (st2 := [ov_i 1, ov_i (h 92 (h 90 7))]) (pc2 := 17) b_225_16_1 rfl rfl ?_
    refine ov_icne (tgt := 34) d_225_17 (by decide) (by omega) (by omega) (fun c5 => ?_) (fun c5 => ?_)
    · skip
      refine ov_blk (ls2 := [(0, ov_r 90)]) (st2 := [ov_i 0]) (pc2 := 35) b_225_34_1 rfl rfl ?_
      exact ov_retz (st := []) d_225_35 rfl (by omega) ⟨_, rfl, rfl, rfl, (by show (0 = 0 ∨ 0 = 1) ∧ (0 = 1 → (h 90 7) < n); omega)⟩
    · skip
      refine ov_blk (ls2 := [(0, ov_r 90)]) (st2 := [ov_i 20, ov_i 0, ov_r 90]) (pc2 := 24) b_225_20_3 rfl rfl ?_
      refine ov_cV (as := [ov_i 0, ov_i 20]) (st := []) (d2 := d - 1) d_225_24 lk_Mo_202 rfl (Nat.le_of_ble_eq_true rfl) (c := 1) (zb_90 I) (zs_90 I) ⟨by decide, rfl⟩ (by omega) (c_Mo_wordHere_90 n (d - 1) (by omega) U I 0 20 (by omega) (by omega) (by show 0 ≤ n ∧ n ≤ 1000 ∧ (h 92 (n)) = 0 ∧ (h 90 7) ≤ n; omega) (by omega)) ?_
      rintro _ _ _ ⟨v7, rfl, rfl, rfl, f6⟩
      show ov_R u d ov_m225 27 [(0, ov_r 90)] [ov_i v7] z h (P_Mo_isName_90 F z h n)
      have f8 : -1 ≤ v7 ∧ v7 < (20 : Int) ∧ (0 ≤ v7 → (h 90 7) < n ∧ (h 90 8) = 0) := f6
      clear f6
      refine ov_ifge (tgt := 34) d_225_27 (by decide) (by omega) (fun c9 => ?_) (fun c9 => ?_)
      · skip
        refine ov_blk (ls2 := [(0, ov_r 90)]) (st2 := [ov_i 0]) (pc2 := 35) b_225_34_1 rfl rfl ?_
        exact ov_retz (st := []) d_225_35 rfl (by omega) ⟨_, rfl, rfl, rfl, (by show (0 = 0 ∨ 0 = 1) ∧ (0 = 1 → (h 90 7) < n); omega)⟩
      · skip
        refine ov_blk (ls2 := [(0, ov_r 90)]) (st2 := [ov_i 1]) (pc2 := 31) b_225_30_1 rfl rfl ?_
        refine ov_goto (tgt := 35) d_225_31 (by decide) ?_
        exact ov_retz (st := []) d_225_35 rfl (by omega) ⟨_, rfl, rfl, rfl, (by show (1 = 0 ∨ 1 = 1) ∧ (1 = 1 → (h 90 7) < n); omega)⟩

theorem b_231_0_1 : ov_ds ov_m231.2.1 0 [.aload_n 0] = true := by decide +kernel
theorem d_231_1 : decode ov_m231.2.1 1 = .ok (.getfield 84, 3) := by decide +kernel
theorem b_231_4_2 : ov_ds ov_m231.2.1 4 [.sipush 1100, .aload_n 0] = true := by decide +kernel
theorem d_231_8 : decode ov_m231.2.1 8 = .ok (.getfield 208, 3) := by decide +kernel
theorem b_231_11_2 : ov_ds ov_m231.2.1 11 [.iadd, .iload_n 1] = true := by decide +kernel
theorem d_231_13 : decode ov_m231.2.1 13 = .ok (.iastore, 1) := by decide +kernel
theorem b_231_14_1 : ov_ds ov_m231.2.1 14 [.aload_n 0] = true := by decide +kernel
theorem d_231_15 : decode ov_m231.2.1 15 = .ok (.getfield 87, 3) := by decide +kernel
theorem b_231_18_2 : ov_ds ov_m231.2.1 18 [.sipush 1100, .aload_n 0] = true := by decide +kernel
theorem d_231_22 : decode ov_m231.2.1 22 = .ok (.getfield 208, 3) := by decide +kernel
theorem b_231_25_2 : ov_ds ov_m231.2.1 25 [.iadd, .iload_n 2] = true := by decide +kernel
theorem d_231_27 : decode ov_m231.2.1 27 = .ok (.iastore, 1) := by decide +kernel
theorem b_231_28_2 : ov_ds ov_m231.2.1 28 [.aload_n 0, .dup] = true := by decide +kernel
theorem d_231_30 : decode ov_m231.2.1 30 = .ok (.getfield 208, 3) := by decide +kernel
theorem b_231_33_2 : ov_ds ov_m231.2.1 33 [.iconst 1, .iadd] = true := by decide +kernel
theorem d_231_35 : decode ov_m231.2.1 35 = .ok (.putfield 208, 3) := by decide +kernel
theorem d_231_38 : decode ov_m231.2.1 38 = .ok (.return_, 1) := by decide +kernel
theorem b_230_0_1 : ov_ds ov_m230.2.1 0 [.aload_n 0] = true := by decide +kernel
theorem d_230_1 : decode ov_m230.2.1 1 = .ok (.getfield 180, 3) := by decide +kernel
theorem d_230_4 : decode ov_m230.2.1 4 = .ok (.ifCond .le 4, 3) := by decide +kernel
theorem b_230_102_2 : ov_ds ov_m230.2.1 102 [.iload_n 1, .iconst 5] = true := by decide +kernel
theorem d_230_104 : decode ov_m230.2.1 104 = .ok (.if_icmp .ne 8, 3) := by decide +kernel
theorem b_230_112_1 : ov_ds ov_m230.2.1 112 [.aload_n 0] = true := by decide +kernel
theorem d_230_113 : decode ov_m230.2.1 113 = .ok (.getfield 180, 3) := by decide +kernel
theorem d_230_116 : decode ov_m230.2.1 116 = .ok (.ifCond .le 4, 3) := by decide +kernel
theorem b_230_120_2 : ov_ds ov_m230.2.1 120 [.aload_n 0, .bipush 17] = true := by decide +kernel
theorem d_230_123 : decode ov_m230.2.1 123 = .ok (.invokevirtual 192, 3) := by decide +kernel
theorem d_230_126 : decode ov_m230.2.1 126 = .ok (.ifCond .eq 19, 3) := by decide +kernel
theorem b_230_145_2 : ov_ds ov_m230.2.1 145 [.aload_n 0, .bipush 40] = true := by decide +kernel
theorem d_230_148 : decode ov_m230.2.1 148 = .ok (.invokevirtual 263, 3) := by decide +kernel
theorem d_230_151 : decode ov_m230.2.1 151 = .ok (.ifCond .eq 19, 3) := by decide +kernel
theorem b_230_170_2 : ov_ds ov_m230.2.1 170 [.aload_n 0, .iload_n 2] = true := by decide +kernel
theorem d_230_172 : decode ov_m230.2.1 172 = .ok (.ifCond .eq 7, 3) := by decide +kernel
theorem b_230_179_2 : ov_ds ov_m230.2.1 179 [.iconst 2, .iload_n 2] = true := by decide +kernel
theorem d_230_181 : decode ov_m230.2.1 181 = .ok (.ifCond .eq 16, 3) := by decide +kernel
theorem b_230_197_1 : ov_ds ov_m230.2.1 197 [.iload 5] = true := by decide +kernel
theorem d_230_199 : decode ov_m230.2.1 199 = .ok (.invokevirtual 246, 3) := by decide +kernel
theorem b_230_202_2 : ov_ds ov_m230.2.1 202 [.aload_n 0, .dup] = true := by decide +kernel
theorem d_230_204 : decode ov_m230.2.1 204 = .ok (.getfield 177, 3) := by decide +kernel
theorem b_230_207_2 : ov_ds ov_m230.2.1 207 [.iconst 1, .iadd] = true := by decide +kernel
theorem d_230_209 : decode ov_m230.2.1 209 = .ok (.putfield 177, 3) := by decide +kernel
theorem d_230_212 : decode ov_m230.2.1 212 = .ok (.return_, 1) := by decide +kernel
theorem b_230_175_1 : ov_ds ov_m230.2.1 175 [.iconst 1] = true := by decide +kernel
theorem d_230_176 : decode ov_m230.2.1 176 = .ok (.goto 4, 3) := by decide +kernel
theorem b_230_180_1 : ov_ds ov_m230.2.1 180 [.iload_n 2] = true := by decide +kernel
theorem b_230_184_1 : ov_ds ov_m230.2.1 184 [.aload_n 0] = true := by decide +kernel
theorem d_230_185 : decode ov_m230.2.1 185 = .ok (.getfield 30, 3) := by decide +kernel
theorem b_230_188_1 : ov_ds ov_m230.2.1 188 [.aload_n 0] = true := by decide +kernel
theorem d_230_189 : decode ov_m230.2.1 189 = .ok (.getfield 177, 3) := by decide +kernel
theorem d_230_192 : decode ov_m230.2.1 192 = .ok (.laload, 1) := by decide +kernel
theorem b_230_193_1 : ov_ds ov_m230.2.1 193 [.l2i] = true := by decide +kernel
theorem d_230_194 : decode ov_m230.2.1 194 = .ok (.goto 5, 3) := by decide +kernel
theorem b_230_154_4 : ov_ds ov_m230.2.1 154 [.aload_n 0, .iload_n 1, .iconst 1, .iadd] = true := by decide +kernel
theorem d_230_158 : decode ov_m230.2.1 158 = .ok (.invokevirtual 243, 3) := by decide +kernel
theorem b_230_161_2 : ov_ds ov_m230.2.1 161 [.aload_n 0, .bipush 41] = true := by decide +kernel
theorem d_230_164 : decode ov_m230.2.1 164 = .ok (.invokevirtual 214, 3) := by decide +kernel
theorem d_230_167 : decode ov_m230.2.1 167 = .ok (.goto 45, 3) := by decide +kernel
theorem b_230_129_4 : ov_ds ov_m230.2.1 129 [.aload_n 0, .iload_n 1, .iconst 1, .iadd] = true := by decide +kernel
theorem d_230_133 : decode ov_m230.2.1 133 = .ok (.invokevirtual 269, 3) := by decide +kernel
theorem b_230_136_3 : ov_ds ov_m230.2.1 136 [.aload_n 0, .iconst 3, .iconst 0] = true := by decide +kernel
theorem d_230_139 : decode ov_m230.2.1 139 = .ok (.invokevirtual 246, 3) := by decide +kernel
theorem d_230_142 : decode ov_m230.2.1 142 = .ok (.goto 70, 3) := by decide +kernel
theorem b_230_107_2 : ov_ds ov_m230.2.1 107 [.aload_n 0, .iconst 5] = true := by decide +kernel
theorem d_230_109 : decode ov_m230.2.1 109 = .ok (.invokevirtual 186, 3) := by decide +kernel
theorem d_230_119 : decode ov_m230.2.1 119 = .ok (.return_, 1) := by decide +kernel
theorem b_230_67_1 : ov_ds ov_m230.2.1 67 [.iload 5] = true := by decide +kernel
theorem d_230_69 : decode ov_m230.2.1 69 = .ok (.ifCond .ge 33, 3) := by decide +kernel
theorem b_230_72_1 : ov_ds ov_m230.2.1 72 [.iload_n 2] = true := by decide +kernel
theorem d_230_73 : decode ov_m230.2.1 73 = .ok (.ifCond .ne 29, 3) := by decide +kernel
theorem b_230_76_2 : ov_ds ov_m230.2.1 76 [.aload_n 0, .bipush 40] = true := by decide +kernel
theorem d_230_79 : decode ov_m230.2.1 79 = .ok (.invokevirtual 183, 3) := by decide +kernel
theorem d_230_82 : decode ov_m230.2.1 82 = .ok (.ifCond .ne 20, 3) := by decide +kernel
theorem b_230_85_2 : ov_ds ov_m230.2.1 85 [.aload_n 0, .bipush 17] = true := by decide +kernel
theorem d_230_88 : decode ov_m230.2.1 88 = .ok (.invokevirtual 189, 3) := by decide +kernel
theorem d_230_91 : decode ov_m230.2.1 91 = .ok (.ifCond .ne 11, 3) := by decide +kernel
theorem b_230_94_2 : ov_ds ov_m230.2.1 94 [.aload_n 0, .iconst 1] = true := by decide +kernel
theorem d_230_96 : decode ov_m230.2.1 96 = .ok (.invokevirtual 186, 3) := by decide +kernel
theorem d_230_99 : decode ov_m230.2.1 99 = .ok (.goto 13, 3) := by decide +kernel
theorem b_230_8_1 : ov_ds ov_m230.2.1 8 [.aload_n 0] = true := by decide +kernel
theorem d_230_9 : decode ov_m230.2.1 9 = .ok (.getfield 24, 3) := by decide +kernel
theorem b_230_12_1 : ov_ds ov_m230.2.1 12 [.aload_n 0] = true := by decide +kernel
theorem d_230_13 : decode ov_m230.2.1 13 = .ok (.getfield 177, 3) := by decide +kernel
theorem d_230_16 : decode ov_m230.2.1 16 = .ok (.iaload, 1) := by decide +kernel
theorem b_230_17_1 : ov_ds ov_m230.2.1 17 [.iconst 2] = true := by decide +kernel
theorem d_230_18 : decode ov_m230.2.1 18 = .ok (.if_icmp .ne 7, 3) := by decide +kernel
theorem b_230_25_5 : ov_ds ov_m230.2.1 25 [.iconst 0, .istore_n 2, .aload_n 0, .bipush 10, .iconst 2] = true := by decide +kernel
theorem d_230_31 : decode ov_m230.2.1 31 = .ok (.invokevirtual 202, 3) := by decide +kernel
theorem b_230_34_4 : ov_ds ov_m230.2.1 34 [.istore_n 3, .aload_n 0, .bipush 20, .iconst 2] = true := by decide +kernel
theorem d_230_39 : decode ov_m230.2.1 39 = .ok (.invokevirtual 202, 3) := by decide +kernel
theorem b_230_42_2 : ov_ds ov_m230.2.1 42 [.istore 4, .iload_n 3] = true := by decide +kernel
theorem d_230_45 : decode ov_m230.2.1 45 = .ok (.ifCond .lt 7, 3) := by decide +kernel
theorem b_230_52_1 : ov_ds ov_m230.2.1 52 [.iload 4] = true := by decide +kernel
theorem d_230_54 : decode ov_m230.2.1 54 = .ok (.ifCond .lt 10, 3) := by decide +kernel
theorem b_230_64_2 : ov_ds ov_m230.2.1 64 [.iconst (-1), .istore 5] = true := by decide +kernel
theorem b_230_57_3 : ov_ds ov_m230.2.1 57 [.iconst 2, .iload 4, .iadd] = true := by decide +kernel
theorem d_230_61 : decode ov_m230.2.1 61 = .ok (.goto 4, 3) := by decide +kernel
theorem b_230_65_1 : ov_ds ov_m230.2.1 65 [.istore 5] = true := by decide +kernel
theorem b_230_48_1 : ov_ds ov_m230.2.1 48 [.iload_n 3] = true := by decide +kernel
theorem d_230_49 : decode ov_m230.2.1 49 = .ok (.goto 16, 3) := by decide +kernel
theorem b_230_21_1 : ov_ds ov_m230.2.1 21 [.iconst 1] = true := by decide +kernel
theorem d_230_22 : decode ov_m230.2.1 22 = .ok (.goto 4, 3) := by decide +kernel
theorem b_230_26_4 : ov_ds ov_m230.2.1 26 [.istore_n 2, .aload_n 0, .bipush 10, .iconst 2] = true := by decide +kernel
theorem d_230_7 : decode ov_m230.2.1 7 = .ok (.return_, 1) := by decide +kernel
theorem b_229_0_2 : ov_ds ov_m229.2.1 0 [.aload_n 0, .iload_n 1] = true := by decide +kernel
theorem d_229_2 : decode ov_m229.2.1 2 = .ok (.invokevirtual 269, 3) := by decide +kernel
theorem b_229_5_1 : ov_ds ov_m229.2.1 5 [.aload_n 0] = true := by decide +kernel
theorem b_229_6_1 : ov_ds ov_m229.2.1 6 [.bipush 42] = true := by decide +kernel
theorem d_229_8 : decode ov_m229.2.1 8 = .ok (.invokevirtual 263, 3) := by decide +kernel
theorem d_229_11 : decode ov_m229.2.1 11 = .ok (.ifCond .eq 18, 3) := by decide +kernel
theorem d_229_29 : decode ov_m229.2.1 29 = .ok (.return_, 1) := by decide +kernel
theorem b_229_14_2 : ov_ds ov_m229.2.1 14 [.aload_n 0, .iload_n 1] = true := by decide +kernel
theorem d_229_16 : decode ov_m229.2.1 16 = .ok (.invokevirtual 269, 3) := by decide +kernel
theorem b_229_19_3 : ov_ds ov_m229.2.1 19 [.aload_n 0, .bipush 6, .iconst 0] = true := by decide +kernel
theorem d_229_23 : decode ov_m229.2.1 23 = .ok (.invokevirtual 246, 3) := by decide +kernel
theorem d_229_26 : decode ov_m229.2.1 26 = .ok (.goto (-21), 3) := by decide +kernel
theorem b_228_0_2 : ov_ds ov_m228.2.1 0 [.aload_n 0, .iload_n 1] = true := by decide +kernel
theorem d_228_2 : decode ov_m228.2.1 2 = .ok (.invokevirtual 266, 3) := by decide +kernel
theorem b_228_5_1 : ov_ds ov_m228.2.1 5 [.aload_n 0] = true := by decide +kernel
theorem b_228_6_1 : ov_ds ov_m228.2.1 6 [.bipush 43] = true := by decide +kernel
theorem d_228_8 : decode ov_m228.2.1 8 = .ok (.invokevirtual 183, 3) := by decide +kernel
theorem d_228_11 : decode ov_m228.2.1 11 = .ok (.ifCond .ne 12, 3) := by decide +kernel
theorem b_228_23_2 : ov_ds ov_m228.2.1 23 [.aload_n 0, .bipush 43] = true := by decide +kernel
theorem d_228_26 : decode ov_m228.2.1 26 = .ok (.invokevirtual 183, 3) := by decide +kernel
theorem b_228_29_3 : ov_ds ov_m228.2.1 29 [.istore_n 2, .aload_n 0, .dup] = true := by decide +kernel
theorem d_228_32 : decode ov_m228.2.1 32 = .ok (.getfield 177, 3) := by decide +kernel
theorem b_228_35_2 : ov_ds ov_m228.2.1 35 [.iconst 1, .iadd] = true := by decide +kernel
theorem d_228_37 : decode ov_m228.2.1 37 = .ok (.putfield 177, 3) := by decide +kernel
theorem b_228_40_2 : ov_ds ov_m228.2.1 40 [.aload_n 0, .iload_n 1] = true := by decide +kernel
theorem d_228_42 : decode ov_m228.2.1 42 = .ok (.invokevirtual 266, 3) := by decide +kernel
theorem b_228_45_2 : ov_ds ov_m228.2.1 45 [.aload_n 0, .iload_n 2] = true := by decide +kernel
theorem d_228_47 : decode ov_m228.2.1 47 = .ok (.ifCond .eq 7, 3) := by decide +kernel
theorem b_228_54_2 : ov_ds ov_m228.2.1 54 [.iconst 5, .iconst 0] = true := by decide +kernel
theorem d_228_56 : decode ov_m228.2.1 56 = .ok (.invokevirtual 246, 3) := by decide +kernel
theorem d_228_59 : decode ov_m228.2.1 59 = .ok (.goto (-54), 3) := by decide +kernel
theorem b_228_50_1 : ov_ds ov_m228.2.1 50 [.iconst 4] = true := by decide +kernel
theorem d_228_51 : decode ov_m228.2.1 51 = .ok (.goto 4, 3) := by decide +kernel
theorem b_228_55_1 : ov_ds ov_m228.2.1 55 [.iconst 0] = true := by decide +kernel
theorem b_228_14_2 : ov_ds ov_m228.2.1 14 [.aload_n 0, .bipush 45] = true := by decide +kernel
theorem d_228_17 : decode ov_m228.2.1 17 = .ok (.invokevirtual 183, 3) := by decide +kernel
theorem d_228_20 : decode ov_m228.2.1 20 = .ok (.ifCond .eq 42, 3) := by decide +kernel
theorem d_228_62 : decode ov_m228.2.1 62 = .ok (.return_, 1) := by decide +kernel
theorem b_227_0_2 : ov_ds ov_m227.2.1 0 [.aload_n 0, .iload_n 1] = true := by decide +kernel
theorem d_227_2 : decode ov_m227.2.1 2 = .ok (.invokevirtual 260, 3) := by decide +kernel
theorem b_227_5_2 : ov_ds ov_m227.2.1 5 [.aload_n 0, .bipush 60] = true := by decide +kernel
theorem d_227_8 : decode ov_m227.2.1 8 = .ok (.invokevirtual 183, 3) := by decide +kernel
theorem b_227_11_3 : ov_ds ov_m227.2.1 11 [.istore_n 2, .aload_n 0, .bipush 60] = true := by decide +kernel
theorem d_227_15 : decode ov_m227.2.1 15 = .ok (.invokevirtual 263, 3) := by decide +kernel
theorem d_227_18 : decode ov_m227.2.1 18 = .ok (.ifCond .ne 12, 3) := by decide +kernel
theorem b_227_30_2 : ov_ds ov_m227.2.1 30 [.aload_n 0, .iload_n 1] = true := by decide +kernel
theorem d_227_32 : decode ov_m227.2.1 32 = .ok (.invokevirtual 260, 3) := by decide +kernel
theorem b_227_35_2 : ov_ds ov_m227.2.1 35 [.aload_n 0, .iload_n 2] = true := by decide +kernel
theorem d_227_37 : decode ov_m227.2.1 37 = .ok (.ifCond .eq 8, 3) := by decide +kernel
theorem b_227_45_2 : ov_ds ov_m227.2.1 45 [.bipush 8, .iconst 0] = true := by decide +kernel
theorem d_227_48 : decode ov_m227.2.1 48 = .ok (.invokevirtual 246, 3) := by decide +kernel
theorem d_227_51 : decode ov_m227.2.1 51 = .ok (.return_, 1) := by decide +kernel
theorem b_227_40_1 : ov_ds ov_m227.2.1 40 [.bipush 7] = true := by decide +kernel
theorem d_227_42 : decode ov_m227.2.1 42 = .ok (.goto 5, 3) := by decide +kernel
theorem b_227_47_1 : ov_ds ov_m227.2.1 47 [.iconst 0] = true := by decide +kernel
theorem b_227_21_2 : ov_ds ov_m227.2.1 21 [.aload_n 0, .bipush 61] = true := by decide +kernel
theorem d_227_24 : decode ov_m227.2.1 24 = .ok (.invokevirtual 263, 3) := by decide +kernel
theorem d_227_27 : decode ov_m227.2.1 27 = .ok (.ifCond .eq 24, 3) := by decide +kernel
theorem b_226_0_2 : ov_ds ov_m226.2.1 0 [.aload_n 0, .iload_n 1] = true := by decide +kernel
theorem d_226_2 : decode ov_m226.2.1 2 = .ok (.invokevirtual 257, 3) := by decide +kernel
theorem b_226_5_1 : ov_ds ov_m226.2.1 5 [.aload_n 0] = true := by decide +kernel
theorem b_226_6_1 : ov_ds ov_m226.2.1 6 [.bipush 18] = true := by decide +kernel
theorem d_226_8 : decode ov_m226.2.1 8 = .ok (.invokevirtual 189, 3) := by decide +kernel
theorem d_226_11 : decode ov_m226.2.1 11 = .ok (.ifCond .ne 12, 3) := by decide +kernel
theorem b_226_23_2 : ov_ds ov_m226.2.1 23 [.aload_n 0, .bipush 18] = true := by decide +kernel
theorem d_226_26 : decode ov_m226.2.1 26 = .ok (.invokevirtual 189, 3) := by decide +kernel
theorem b_226_29_3 : ov_ds ov_m226.2.1 29 [.istore_n 2, .aload_n 0, .dup] = true := by decide +kernel
theorem d_226_32 : decode ov_m226.2.1 32 = .ok (.getfield 177, 3) := by decide +kernel
theorem b_226_35_2 : ov_ds ov_m226.2.1 35 [.iconst 1, .iadd] = true := by decide +kernel
theorem d_226_37 : decode ov_m226.2.1 37 = .ok (.putfield 177, 3) := by decide +kernel
theorem b_226_40_2 : ov_ds ov_m226.2.1 40 [.aload_n 0, .iload_n 1] = true := by decide +kernel
theorem d_226_42 : decode ov_m226.2.1 42 = .ok (.invokevirtual 257, 3) := by decide +kernel
theorem b_226_45_2 : ov_ds ov_m226.2.1 45 [.aload_n 0, .iload_n 2] = true := by decide +kernel
theorem d_226_47 : decode ov_m226.2.1 47 = .ok (.ifCond .eq 8, 3) := by decide +kernel
theorem b_226_55_2 : ov_ds ov_m226.2.1 55 [.bipush 10, .iconst 0] = true := by decide +kernel
theorem d_226_58 : decode ov_m226.2.1 58 = .ok (.invokevirtual 246, 3) := by decide +kernel
theorem d_226_61 : decode ov_m226.2.1 61 = .ok (.goto (-56), 3) := by decide +kernel
theorem b_226_50_1 : ov_ds ov_m226.2.1 50 [.bipush 9] = true := by decide +kernel
theorem d_226_52 : decode ov_m226.2.1 52 = .ok (.goto 5, 3) := by decide +kernel
theorem b_226_57_1 : ov_ds ov_m226.2.1 57 [.iconst 0] = true := by decide +kernel
theorem b_226_14_2 : ov_ds ov_m226.2.1 14 [.aload_n 0, .bipush 19] = true := by decide +kernel
theorem d_226_17 : decode ov_m226.2.1 17 = .ok (.invokevirtual 189, 3) := by decide +kernel
theorem d_226_20 : decode ov_m226.2.1 20 = .ok (.ifCond .eq 44, 3) := by decide +kernel
theorem d_226_64 : decode ov_m226.2.1 64 = .ok (.return_, 1) := by decide +kernel

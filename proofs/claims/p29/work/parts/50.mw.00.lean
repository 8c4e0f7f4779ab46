theorem b_295_0_2 : ov_ds ov_m295.2.1 0 [.aload_n 0, .iconst 0] = true := by decide +kernel
theorem d_295_2 : decode ov_m295.2.1 2 = .ok (.putfield 1, 3) := by decide +kernel
theorem b_295_5_3 : ov_ds ov_m295.2.1 5 [.aload_n 0, .iload_n 1, .iload_n 2] = true := by decide +kernel
theorem d_295_8 : decode ov_m295.2.1 8 = .ok (.invokevirtual 296, 3) := by decide +kernel
theorem d_295_11 : decode ov_m295.2.1 11 = .ok (.ifCond .eq 36, 3) := by decide +kernel
theorem b_295_47_1 : ov_ds ov_m295.2.1 47 [.iconst 0] = true := by decide +kernel
theorem d_295_48 : decode ov_m295.2.1 48 = .ok (.ireturn, 1) := by decide +kernel
theorem b_295_14_3 : ov_ds ov_m295.2.1 14 [.aload_n 0, .iload_n 1, .iload_n 2] = true := by decide +kernel
theorem d_295_17 : decode ov_m295.2.1 17 = .ok (.invokevirtual 282, 3) := by decide +kernel
theorem b_295_20_1 : ov_ds ov_m295.2.1 20 [.iconst 2] = true := by decide +kernel
theorem d_295_21 : decode ov_m295.2.1 21 = .ok (.if_icmp .ne 26, 3) := by decide +kernel
theorem b_295_24_3 : ov_ds ov_m295.2.1 24 [.iload 4, .iconst 0, .bipush 59] = true := by decide +kernel
theorem d_295_29 : decode ov_m295.2.1 29 = .ok (.invokestatic 299, 3) := by decide +kernel
theorem d_295_32 : decode ov_m295.2.1 32 = .ok (.ifCond .eq 15, 3) := by decide +kernel
theorem b_295_35_1 : ov_ds ov_m295.2.1 35 [.aload_n 0] = true := by decide +kernel
theorem d_295_36 : decode ov_m295.2.1 36 = .ok (.getfield 102, 3) := by decide +kernel
theorem b_295_39_1 : ov_ds ov_m295.2.1 39 [.bipush 58] = true := by decide +kernel
theorem d_295_41 : decode ov_m295.2.1 41 = .ok (.iaload, 1) := by decide +kernel
theorem b_295_42_1 : ov_ds ov_m295.2.1 42 [.bipush 10] = true := by decide +kernel
theorem d_295_44 : decode ov_m295.2.1 44 = .ok (.if_icmp .ne 5, 3) := by decide +kernel
theorem b_295_49_3 : ov_ds ov_m295.2.1 49 [.bipush 60, .iconst 3, .aload_n 0] = true := by decide +kernel
theorem d_295_53 : decode ov_m295.2.1 53 = .ok (.getfield 102, 3) := by decide +kernel
theorem b_295_56_1 : ov_ds ov_m295.2.1 56 [.bipush 58] = true := by decide +kernel
theorem d_295_58 : decode ov_m295.2.1 58 = .ok (.iaload, 1) := by decide +kernel
theorem b_295_59_4 : ov_ds ov_m295.2.1 59 [.imul, .iadd, .istore 5, .aload_n 0] = true := by decide +kernel
theorem d_295_64 : decode ov_m295.2.1 64 = .ok (.getfield 102, 3) := by decide +kernel
theorem b_295_67_6 : ov_ds ov_m295.2.1 67 [.iload 5, .bipush 6, .iload_n 2, .imul, .iload_n 1, .iadd] = true := by decide +kernel
theorem d_295_75 : decode ov_m295.2.1 75 = .ok (.iastore, 1) := by decide +kernel
theorem b_295_76_1 : ov_ds ov_m295.2.1 76 [.aload_n 0] = true := by decide +kernel
theorem d_295_77 : decode ov_m295.2.1 77 = .ok (.getfield 102, 3) := by decide +kernel
theorem b_295_80_4 : ov_ds ov_m295.2.1 80 [.iload 5, .iconst 1, .iadd, .iload_n 3] = true := by decide +kernel
theorem d_295_85 : decode ov_m295.2.1 85 = .ok (.ifCond .eq 7, 3) := by decide +kernel
theorem b_295_92_1 : ov_ds ov_m295.2.1 92 [.iconst 0] = true := by decide +kernel
theorem d_295_93 : decode ov_m295.2.1 93 = .ok (.iastore, 1) := by decide +kernel
theorem b_295_94_1 : ov_ds ov_m295.2.1 94 [.aload_n 0] = true := by decide +kernel
theorem d_295_95 : decode ov_m295.2.1 95 = .ok (.getfield 102, 3) := by decide +kernel
theorem b_295_98_4 : ov_ds ov_m295.2.1 98 [.iload 5, .iconst 2, .iadd, .iload 4] = true := by decide +kernel
theorem d_295_104 : decode ov_m295.2.1 104 = .ok (.iastore, 1) := by decide +kernel
theorem b_295_105_1 : ov_ds ov_m295.2.1 105 [.aload_n 0] = true := by decide +kernel
theorem d_295_106 : decode ov_m295.2.1 106 = .ok (.getfield 102, 3) := by decide +kernel
theorem b_295_109_2 : ov_ds ov_m295.2.1 109 [.bipush 58, .dup2] = true := by decide +kernel
theorem d_295_112 : decode ov_m295.2.1 112 = .ok (.iaload, 1) := by decide +kernel
theorem b_295_113_2 : ov_ds ov_m295.2.1 113 [.iconst 1, .iadd] = true := by decide +kernel
theorem d_295_115 : decode ov_m295.2.1 115 = .ok (.iastore, 1) := by decide +kernel
theorem b_295_116_1 : ov_ds ov_m295.2.1 116 [.iconst 1] = true := by decide +kernel
theorem d_295_117 : decode ov_m295.2.1 117 = .ok (.ireturn, 1) := by decide +kernel
theorem b_295_88_1 : ov_ds ov_m295.2.1 88 [.iconst 1] = true := by decide +kernel
theorem d_295_89 : decode ov_m295.2.1 89 = .ok (.goto 4, 3) := by decide +kernel
theorem b_302_0_2 : ov_ds ov_m302.2.1 0 [.aload_n 0, .iconst 0] = true := by decide +kernel
theorem d_302_2 : decode ov_m302.2.1 2 = .ok (.putfield 1, 3) := by decide +kernel
theorem b_302_5_3 : ov_ds ov_m302.2.1 5 [.aload_n 0, .iload_n 1, .iload_n 2] = true := by decide +kernel
theorem d_302_8 : decode ov_m302.2.1 8 = .ok (.invokevirtual 296, 3) := by decide +kernel
theorem d_302_11 : decode ov_m302.2.1 11 = .ok (.ifCond .eq 26, 3) := by decide +kernel
theorem b_302_37_1 : ov_ds ov_m302.2.1 37 [.iconst 0] = true := by decide +kernel
theorem d_302_38 : decode ov_m302.2.1 38 = .ok (.ireturn, 1) := by decide +kernel
theorem b_302_14_3 : ov_ds ov_m302.2.1 14 [.iload_n 3, .iconst 0, .sipush 9999] = true := by decide +kernel
theorem d_302_19 : decode ov_m302.2.1 19 = .ok (.invokestatic 299, 3) := by decide +kernel
theorem d_302_22 : decode ov_m302.2.1 22 = .ok (.ifCond .eq 15, 3) := by decide +kernel
theorem b_302_25_1 : ov_ds ov_m302.2.1 25 [.aload_n 0] = true := by decide +kernel
theorem d_302_26 : decode ov_m302.2.1 26 = .ok (.getfield 102, 3) := by decide +kernel
theorem b_302_29_1 : ov_ds ov_m302.2.1 29 [.bipush 59] = true := by decide +kernel
theorem d_302_31 : decode ov_m302.2.1 31 = .ok (.iaload, 1) := by decide +kernel
theorem b_302_32_1 : ov_ds ov_m302.2.1 32 [.bipush 8] = true := by decide +kernel
theorem d_302_34 : decode ov_m302.2.1 34 = .ok (.if_icmp .ne 5, 3) := by decide +kernel
theorem b_302_39_3 : ov_ds ov_m302.2.1 39 [.bipush 92, .iconst 3, .aload_n 0] = true := by decide +kernel
theorem d_302_43 : decode ov_m302.2.1 43 = .ok (.getfield 102, 3) := by decide +kernel
theorem b_302_46_1 : ov_ds ov_m302.2.1 46 [.bipush 59] = true := by decide +kernel
theorem d_302_48 : decode ov_m302.2.1 48 = .ok (.iaload, 1) := by decide +kernel
theorem b_302_49_4 : ov_ds ov_m302.2.1 49 [.imul, .iadd, .istore 4, .aload_n 0] = true := by decide +kernel
theorem d_302_54 : decode ov_m302.2.1 54 = .ok (.getfield 102, 3) := by decide +kernel
theorem b_302_57_2 : ov_ds ov_m302.2.1 57 [.iload 4, .iload_n 1] = true := by decide +kernel
theorem d_302_60 : decode ov_m302.2.1 60 = .ok (.iastore, 1) := by decide +kernel
theorem b_302_61_1 : ov_ds ov_m302.2.1 61 [.aload_n 0] = true := by decide +kernel
theorem d_302_62 : decode ov_m302.2.1 62 = .ok (.getfield 102, 3) := by decide +kernel
theorem b_302_65_4 : ov_ds ov_m302.2.1 65 [.iload 4, .iconst 1, .iadd, .iload_n 2] = true := by decide +kernel
theorem d_302_70 : decode ov_m302.2.1 70 = .ok (.iastore, 1) := by decide +kernel
theorem b_302_71_1 : ov_ds ov_m302.2.1 71 [.aload_n 0] = true := by decide +kernel
theorem d_302_72 : decode ov_m302.2.1 72 = .ok (.getfield 102, 3) := by decide +kernel
theorem b_302_75_4 : ov_ds ov_m302.2.1 75 [.iload 4, .iconst 2, .iadd, .iload_n 3] = true := by decide +kernel
theorem d_302_80 : decode ov_m302.2.1 80 = .ok (.iastore, 1) := by decide +kernel
theorem b_302_81_1 : ov_ds ov_m302.2.1 81 [.aload_n 0] = true := by decide +kernel
theorem d_302_82 : decode ov_m302.2.1 82 = .ok (.getfield 102, 3) := by decide +kernel
theorem b_302_85_2 : ov_ds ov_m302.2.1 85 [.bipush 59, .dup2] = true := by decide +kernel
theorem d_302_88 : decode ov_m302.2.1 88 = .ok (.iaload, 1) := by decide +kernel
theorem b_302_89_2 : ov_ds ov_m302.2.1 89 [.iconst 1, .iadd] = true := by decide +kernel
theorem d_302_91 : decode ov_m302.2.1 91 = .ok (.iastore, 1) := by decide +kernel
theorem b_302_92_1 : ov_ds ov_m302.2.1 92 [.iconst 1] = true := by decide +kernel
theorem d_302_93 : decode ov_m302.2.1 93 = .ok (.ireturn, 1) := by decide +kernel
theorem b_296_0_2 : ov_ds ov_m296.2.1 0 [.aload_n 0, .iconst 0] = true := by decide +kernel
theorem d_296_2 : decode ov_m296.2.1 2 = .ok (.putfield 1, 3) := by decide +kernel
theorem b_296_5_3 : ov_ds ov_m296.2.1 5 [.aload_n 0, .iload_n 1, .iload_n 2] = true := by decide +kernel
theorem d_296_8 : decode ov_m296.2.1 8 = .ok (.invokevirtual 296, 3) := by decide +kernel
theorem d_296_11 : decode ov_m296.2.1 11 = .ok (.ifCond .eq 22, 3) := by decide +kernel
theorem d_296_33 : decode ov_m296.2.1 33 = .ok (.ldc2_w 433, 3) := by decide +kernel
theorem d_296_36 : decode ov_m296.2.1 36 = .ok (.lreturn, 1) := by decide +kernel
theorem b_296_14_3 : ov_ds ov_m296.2.1 14 [.aload_n 0, .iload_n 1, .iload_n 2] = true := by decide +kernel
theorem d_296_17 : decode ov_m296.2.1 17 = .ok (.invokevirtual 282, 3) := by decide +kernel
theorem b_296_20_1 : ov_ds ov_m296.2.1 20 [.iconst 2] = true := by decide +kernel
theorem d_296_21 : decode ov_m296.2.1 21 = .ok (.if_icmp .ne 12, 3) := by decide +kernel
theorem b_296_24_3 : ov_ds ov_m296.2.1 24 [.iload_n 3, .iconst 0, .iconst 1] = true := by decide +kernel
theorem d_296_27 : decode ov_m296.2.1 27 = .ok (.invokestatic 299, 3) := by decide +kernel
theorem d_296_30 : decode ov_m296.2.1 30 = .ok (.ifCond .ne 7, 3) := by decide +kernel
theorem b_296_37_4 : ov_ds ov_m296.2.1 37 [.aload_n 0, .iload_n 1, .iload_n 2, .iconst 1] = true := by decide +kernel
theorem d_296_41 : decode ov_m296.2.1 41 = .ok (.invokevirtual 289, 3) := by decide +kernel
theorem b_296_44_6 : ov_ds ov_m296.2.1 44 [.i2l, .lstore 4, .aload_n 0, .iload_n 1, .iload_n 2, .iconst 2] = true := by decide +kernel
theorem d_296_51 : decode ov_m296.2.1 51 = .ok (.invokevirtual 289, 3) := by decide +kernel
theorem b_296_54_3 : ov_ds ov_m296.2.1 54 [.i2l, .lconst 1, .ladd] = true := by decide +kernel
theorem b_296_57_7 : ov_ds ov_m296.2.1 57 [.lstore 6, .lconst 1, .lstore 8, .lconst 1, .lstore 10, .iconst 0, .istore 12] = true := by decide +kernel
theorem b_296_68_2 : ov_ds ov_m296.2.1 68 [.iload 12, .aload_n 0] = true := by decide +kernel
theorem d_296_71 : decode ov_m296.2.1 71 = .ok (.getfield 102, 3) := by decide +kernel
theorem b_296_74_1 : ov_ds ov_m296.2.1 74 [.bipush 58] = true := by decide +kernel
theorem d_296_76 : decode ov_m296.2.1 76 = .ok (.iaload, 1) := by decide +kernel
theorem d_296_77 : decode ov_m296.2.1 77 = .ok (.if_icmp .ge 101, 3) := by decide +kernel
theorem b_296_178_3 : ov_ds ov_m296.2.1 178 [.lload 8, .lload 10, .ladd] = true := by decide +kernel
theorem b_296_183_2 : ov_ds ov_m296.2.1 183 [.lconst 0, .lcmp] = true := by decide +kernel
theorem d_296_185 : decode ov_m296.2.1 185 = .ok (.ifCond .ne 7, 3) := by decide +kernel
theorem b_296_192_5 : ov_ds ov_m296.2.1 192 [.lload 8, .lstore 12, .lload 8, .lload 10, .ladd] = true := by decide +kernel
theorem b_296_201_1 : ov_ds ov_m296.2.1 201 [.lstore 14] = true := by decide +kernel
theorem b_296_203_3 : ov_ds ov_m296.2.1 203 [.lload 14, .lconst 0, .lcmp] = true := by decide +kernel
theorem d_296_207 : decode ov_m296.2.1 207 = .ok (.ifCond .eq 21, 3) := by decide +kernel
theorem b_296_228_1 : ov_ds ov_m296.2.1 228 [.iload_n 3] = true := by decide +kernel
theorem d_296_229 : decode ov_m296.2.1 229 = .ok (.ifCond .ne 8, 3) := by decide +kernel
theorem b_296_237_3 : ov_ds ov_m296.2.1 237 [.lload 8, .lload 10, .ladd] = true := by decide +kernel
theorem b_296_242_1 : ov_ds ov_m296.2.1 242 [.lload 12] = true := by decide +kernel
theorem d_296_244 : decode ov_m296.2.1 244 = .ok (.ldiv, 1) := by decide +kernel
theorem d_296_245 : decode ov_m296.2.1 245 = .ok (.lreturn, 1) := by decide +kernel
theorem b_296_232_1 : ov_ds ov_m296.2.1 232 [.lload 8] = true := by decide +kernel
theorem d_296_234 : decode ov_m296.2.1 234 = .ok (.goto 8, 3) := by decide +kernel
theorem b_296_210_2 : ov_ds ov_m296.2.1 210 [.lload 12, .lload 14] = true := by decide +kernel
theorem d_296_214 : decode ov_m296.2.1 214 = .ok (.lrem, 1) := by decide +kernel
theorem b_296_215_5 : ov_ds ov_m296.2.1 215 [.lstore 16, .lload 14, .lstore 12, .lload 16, .lstore 14] = true := by decide +kernel
theorem d_296_225 : decode ov_m296.2.1 225 = .ok (.goto (-22), 3) := by decide +kernel
theorem d_296_188 : decode ov_m296.2.1 188 = .ok (.ldc2_w 433, 3) := by decide +kernel
theorem d_296_191 : decode ov_m296.2.1 191 = .ok (.lreturn, 1) := by decide +kernel
theorem b_296_80_7 : ov_ds ov_m296.2.1 80 [.bipush 60, .iconst 3, .iload 12, .imul, .iadd, .istore 13, .aload_n 0] = true := by decide +kernel
theorem d_296_90 : decode ov_m296.2.1 90 = .ok (.getfield 102, 3) := by decide +kernel
theorem b_296_93_1 : ov_ds ov_m296.2.1 93 [.iload 13] = true := by decide +kernel
theorem d_296_95 : decode ov_m296.2.1 95 = .ok (.iaload, 1) := by decide +kernel
theorem b_296_96_5 : ov_ds ov_m296.2.1 96 [.bipush 6, .iload_n 2, .imul, .iload_n 1, .iadd] = true := by decide +kernel
theorem d_296_102 : decode ov_m296.2.1 102 = .ok (.if_icmp .ne 70, 3) := by decide +kernel
theorem b_296_172_1 : ov_ds ov_m296.2.1 172 [.iinc 12 1] = true := by decide +kernel
theorem d_296_175 : decode ov_m296.2.1 175 = .ok (.goto (-107), 3) := by decide +kernel
theorem b_296_105_1 : ov_ds ov_m296.2.1 105 [.aload_n 0] = true := by decide +kernel
theorem d_296_106 : decode ov_m296.2.1 106 = .ok (.getfield 102, 3) := by decide +kernel
theorem b_296_109_3 : ov_ds ov_m296.2.1 109 [.iload 13, .iconst 1, .iadd] = true := by decide +kernel
theorem d_296_113 : decode ov_m296.2.1 113 = .ok (.iaload, 1) := by decide +kernel
theorem b_296_114_1 : ov_ds ov_m296.2.1 114 [.iconst 1] = true := by decide +kernel
theorem d_296_115 : decode ov_m296.2.1 115 = .ok (.if_icmp .ne 57, 3) := by decide +kernel
theorem b_296_118_1 : ov_ds ov_m296.2.1 118 [.aload_n 0] = true := by decide +kernel
theorem d_296_119 : decode ov_m296.2.1 119 = .ok (.getfield 102, 3) := by decide +kernel
theorem b_296_122_3 : ov_ds ov_m296.2.1 122 [.iload 13, .iconst 2, .iadd] = true := by decide +kernel
theorem d_296_126 : decode ov_m296.2.1 126 = .ok (.iaload, 1) := by decide +kernel
theorem b_296_127_3 : ov_ds ov_m296.2.1 127 [.i2l, .lload 6, .lcmp] = true := by decide +kernel
theorem d_296_131 : decode ov_m296.2.1 131 = .ok (.ifCond .ge 11, 3) := by decide +kernel
theorem b_296_142_3 : ov_ds ov_m296.2.1 142 [.lconst 0, .lstore 8, .aload_n 0] = true := by decide +kernel
theorem d_296_146 : decode ov_m296.2.1 146 = .ok (.getfield 102, 3) := by decide +kernel
theorem b_296_149_3 : ov_ds ov_m296.2.1 149 [.iload 13, .iconst 2, .iadd] = true := by decide +kernel
theorem d_296_153 : decode ov_m296.2.1 153 = .ok (.iaload, 1) := by decide +kernel
theorem b_296_154_3 : ov_ds ov_m296.2.1 154 [.i2l, .lload 4, .lcmp] = true := by decide +kernel
theorem d_296_158 : decode ov_m296.2.1 158 = .ok (.ifCond .ge 11, 3) := by decide +kernel
theorem b_296_169_3 : ov_ds ov_m296.2.1 169 [.lconst 0, .lstore 10, .iinc 12 1] = true := by decide +kernel
theorem b_296_161_3 : ov_ds ov_m296.2.1 161 [.lload 10, .lload 6, .lmul] = true := by decide +kernel
theorem d_296_166 : decode ov_m296.2.1 166 = .ok (.goto 4, 3) := by decide +kernel
theorem b_296_170_2 : ov_ds ov_m296.2.1 170 [.lstore 10, .iinc 12 1] = true := by decide +kernel
theorem b_296_134_3 : ov_ds ov_m296.2.1 134 [.lload 8, .lload 4, .lmul] = true := by decide +kernel
theorem d_296_139 : decode ov_m296.2.1 139 = .ok (.goto 4, 3) := by decide +kernel
theorem b_296_143_2 : ov_ds ov_m296.2.1 143 [.lstore 8, .aload_n 0] = true := by decide +kernel
theorem b_311_0_2 : ov_ds ov_m311.2.1 0 [.aload_n 0, .iconst 0] = true := by decide +kernel
theorem d_311_2 : decode ov_m311.2.1 2 = .ok (.putfield 1, 3) := by decide +kernel
theorem b_311_5_3 : ov_ds ov_m311.2.1 5 [.iload_n 1, .iconst 0, .iconst 3] = true := by decide +kernel
theorem d_311_8 : decode ov_m311.2.1 8 = .ok (.invokestatic 299, 3) := by decide +kernel
theorem d_311_11 : decode ov_m311.2.1 11 = .ok (.ifCond .eq 16, 3) := by decide +kernel
theorem b_311_27_1 : ov_ds ov_m311.2.1 27 [.iconst 0] = true := by decide +kernel
theorem d_311_28 : decode ov_m311.2.1 28 = .ok (.ireturn, 1) := by decide +kernel
theorem b_311_14_1 : ov_ds ov_m311.2.1 14 [.iload_n 2] = true := by decide +kernel
theorem d_311_15 : decode ov_m311.2.1 15 = .ok (.ifCond .eq 14, 3) := by decide +kernel
theorem b_311_29_1 : ov_ds ov_m311.2.1 29 [.aload_n 0] = true := by decide +kernel
theorem d_311_30 : decode ov_m311.2.1 30 = .ok (.getfield 105, 3) := by decide +kernel
theorem b_311_33_2 : ov_ds ov_m311.2.1 33 [.iload_n 1, .iconst 1] = true := by decide +kernel
theorem d_311_35 : decode ov_m311.2.1 35 = .ok (.bastore, 1) := by decide +kernel
theorem b_311_36_2 : ov_ds ov_m311.2.1 36 [.aload_n 0, .iload_n 2] = true := by decide +kernel
theorem d_311_38 : decode ov_m311.2.1 38 = .ok (.ifCond .eq 9, 3) := by decide +kernel
theorem b_311_47_2 : ov_ds ov_m311.2.1 47 [.iconst 0, .iload_n 2] = true := by decide +kernel
theorem d_311_49 : decode ov_m311.2.1 49 = .ok (.ifCond .eq 7, 3) := by decide +kernel
theorem b_311_56_4 : ov_ds ov_m311.2.1 56 [.iconst 1, .iload_n 1, .iadd, .bipush 120] = true := by decide +kernel
theorem d_311_61 : decode ov_m311.2.1 61 = .ok (.invokevirtual 325, 3) := by decide +kernel
theorem b_311_64_2 : ov_ds ov_m311.2.1 64 [.aload_n 0, .iload_n 2] = true := by decide +kernel
theorem d_311_66 : decode ov_m311.2.1 66 = .ok (.ifCond .eq 7, 3) := by decide +kernel
theorem b_311_73_1 : ov_ds ov_m311.2.1 73 [.aload_n 0] = true := by decide +kernel
theorem d_311_74 : decode ov_m311.2.1 74 = .ok (.getfield 319, 3) := by decide +kernel
theorem d_311_77 : decode ov_m311.2.1 77 = .ok (.putfield 319, 3) := by decide +kernel
theorem b_311_80_2 : ov_ds ov_m311.2.1 80 [.aload_n 0, .dup] = true := by decide +kernel
theorem d_311_82 : decode ov_m311.2.1 82 = .ok (.getfield 322, 3) := by decide +kernel
theorem b_311_85_2 : ov_ds ov_m311.2.1 85 [.iconst 1, .iadd] = true := by decide +kernel
theorem d_311_87 : decode ov_m311.2.1 87 = .ok (.putfield 322, 3) := by decide +kernel
theorem b_311_90_1 : ov_ds ov_m311.2.1 90 [.iconst 1] = true := by decide +kernel
theorem d_311_91 : decode ov_m311.2.1 91 = .ok (.ireturn, 1) := by decide +kernel
theorem b_311_18_1 : ov_ds ov_m311.2.1 18 [.aload_n 0] = true := by decide +kernel
theorem d_311_19 : decode ov_m311.2.1 19 = .ok (.getfield 105, 3) := by decide +kernel
theorem b_311_22_1 : ov_ds ov_m311.2.1 22 [.iload_n 1] = true := by decide +kernel
theorem d_311_23 : decode ov_m311.2.1 23 = .ok (.baload, 1) := by decide +kernel
theorem d_311_24 : decode ov_m311.2.1 24 = .ok (.ifCond .ne 5, 3) := by decide +kernel
theorem b_311_41_3 : ov_ds ov_m311.2.1 41 [.iconst 1, .iload_n 1, .iadd] = true := by decide +kernel
theorem d_311_44 : decode ov_m311.2.1 44 = .ok (.goto 4, 3) := by decide +kernel
theorem b_311_48_1 : ov_ds ov_m311.2.1 48 [.iload_n 2] = true := by decide +kernel
theorem b_311_52_1 : ov_ds ov_m311.2.1 52 [.iconst 0] = true := by decide +kernel
theorem d_311_53 : decode ov_m311.2.1 53 = .ok (.goto 6, 3) := by decide +kernel
theorem b_311_59_1 : ov_ds ov_m311.2.1 59 [.bipush 120] = true := by decide +kernel
theorem b_311_69_1 : ov_ds ov_m311.2.1 69 [.iconst 0] = true := by decide +kernel
theorem d_311_70 : decode ov_m311.2.1 70 = .ok (.goto 7, 3) := by decide +kernel
theorem b_312_0_2 : ov_ds ov_m312.2.1 0 [.aload_n 0, .iconst 0] = true := by decide +kernel
theorem d_312_2 : decode ov_m312.2.1 2 = .ok (.putfield 1, 3) := by decide +kernel
theorem b_312_5_4 : ov_ds ov_m312.2.1 5 [.iconst 0, .istore_n 2, .iconst 0, .istore_n 3] = true := by decide +kernel
theorem b_312_9_2 : ov_ds ov_m312.2.1 9 [.iload_n 3, .bipush 54] = true := by decide +kernel
theorem d_312_12 : decode ov_m312.2.1 12 = .ok (.if_icmp .ge 48, 3) := by decide +kernel
theorem b_312_60_1 : ov_ds ov_m312.2.1 60 [.iload_n 1] = true := by decide +kernel
theorem d_312_61 : decode ov_m312.2.1 61 = .ok (.tableswitch 194 0 14 #[75, 80, 85, 93, 101, 108, 115, 122, 129, 158, 160, 168, 176, 184, 189], 75) := by decide +kernel
theorem b_312_136_1 : ov_ds ov_m312.2.1 136 [.aload_n 0] = true := by decide +kernel
theorem d_312_137 : decode ov_m312.2.1 137 = .ok (.invokevirtual 275, 3) := by decide +kernel
theorem d_312_140 : decode ov_m312.2.1 140 = .ok (.ireturn, 1) := by decide +kernel
theorem b_312_141_1 : ov_ds ov_m312.2.1 141 [.aload_n 0] = true := by decide +kernel
theorem d_312_142 : decode ov_m312.2.1 142 = .ok (.invokevirtual 279, 3) := by decide +kernel
theorem d_312_145 : decode ov_m312.2.1 145 = .ok (.ireturn, 1) := by decide +kernel
theorem b_312_146_1 : ov_ds ov_m312.2.1 146 [.aload_n 0] = true := by decide +kernel
theorem d_312_147 : decode ov_m312.2.1 147 = .ok (.getfield 81, 3) := by decide +kernel
theorem b_312_150_1 : ov_ds ov_m312.2.1 150 [.bipush 7] = true := by decide +kernel
theorem d_312_152 : decode ov_m312.2.1 152 = .ok (.iaload, 1) := by decide +kernel
theorem d_312_153 : decode ov_m312.2.1 153 = .ok (.ireturn, 1) := by decide +kernel
theorem b_312_154_1 : ov_ds ov_m312.2.1 154 [.aload_n 0] = true := by decide +kernel
theorem d_312_155 : decode ov_m312.2.1 155 = .ok (.getfield 81, 3) := by decide +kernel
theorem b_312_158_1 : ov_ds ov_m312.2.1 158 [.bipush 8] = true := by decide +kernel
theorem d_312_160 : decode ov_m312.2.1 160 = .ok (.iaload, 1) := by decide +kernel
theorem d_312_161 : decode ov_m312.2.1 161 = .ok (.ireturn, 1) := by decide +kernel
theorem b_312_162_1 : ov_ds ov_m312.2.1 162 [.aload_n 0] = true := by decide +kernel
theorem d_312_163 : decode ov_m312.2.1 163 = .ok (.getfield 93, 3) := by decide +kernel
theorem b_312_166_1 : ov_ds ov_m312.2.1 166 [.iconst 0] = true := by decide +kernel
theorem d_312_167 : decode ov_m312.2.1 167 = .ok (.iaload, 1) := by decide +kernel
theorem d_312_168 : decode ov_m312.2.1 168 = .ok (.ireturn, 1) := by decide +kernel
theorem b_312_169_1 : ov_ds ov_m312.2.1 169 [.aload_n 0] = true := by decide +kernel
theorem d_312_170 : decode ov_m312.2.1 170 = .ok (.getfield 102, 3) := by decide +kernel
theorem b_312_173_1 : ov_ds ov_m312.2.1 173 [.iconst 0] = true := by decide +kernel
theorem d_312_174 : decode ov_m312.2.1 174 = .ok (.iaload, 1) := by decide +kernel
theorem d_312_175 : decode ov_m312.2.1 175 = .ok (.ireturn, 1) := by decide +kernel
theorem b_312_176_1 : ov_ds ov_m312.2.1 176 [.aload_n 0] = true := by decide +kernel
theorem d_312_177 : decode ov_m312.2.1 177 = .ok (.getfield 102, 3) := by decide +kernel
theorem b_312_180_1 : ov_ds ov_m312.2.1 180 [.iconst 1] = true := by decide +kernel
theorem d_312_181 : decode ov_m312.2.1 181 = .ok (.iaload, 1) := by decide +kernel
theorem d_312_182 : decode ov_m312.2.1 182 = .ok (.ireturn, 1) := by decide +kernel
theorem b_312_183_1 : ov_ds ov_m312.2.1 183 [.aload_n 0] = true := by decide +kernel
theorem d_312_184 : decode ov_m312.2.1 184 = .ok (.getfield 102, 3) := by decide +kernel
theorem b_312_187_1 : ov_ds ov_m312.2.1 187 [.iconst 2] = true := by decide +kernel
theorem d_312_188 : decode ov_m312.2.1 188 = .ok (.iaload, 1) := by decide +kernel
theorem d_312_189 : decode ov_m312.2.1 189 = .ok (.ireturn, 1) := by decide +kernel
theorem b_312_190_1 : ov_ds ov_m312.2.1 190 [.aload_n 0] = true := by decide +kernel
theorem d_312_191 : decode ov_m312.2.1 191 = .ok (.getfield 81, 3) := by decide +kernel
theorem b_312_194_1 : ov_ds ov_m312.2.1 194 [.bipush 6] = true := by decide +kernel
theorem d_312_196 : decode ov_m312.2.1 196 = .ok (.iaload, 1) := by decide +kernel
theorem b_312_197_1 : ov_ds ov_m312.2.1 197 [.iconst 1] = true := by decide +kernel
theorem d_312_198 : decode ov_m312.2.1 198 = .ok (.if_icmp .ne 7, 3) := by decide +kernel
theorem b_312_205_1 : ov_ds ov_m312.2.1 205 [.aload_n 0] = true := by decide +kernel
theorem d_312_206 : decode ov_m312.2.1 206 = .ok (.getfield 81, 3) := by decide +kernel
theorem b_312_209_1 : ov_ds ov_m312.2.1 209 [.iconst 5] = true := by decide +kernel
theorem d_312_210 : decode ov_m312.2.1 210 = .ok (.iaload, 1) := by decide +kernel
theorem b_312_211_1 : ov_ds ov_m312.2.1 211 [.aload_n 0] = true := by decide +kernel
theorem d_312_212 : decode ov_m312.2.1 212 = .ok (.getfield 102, 3) := by decide +kernel
theorem b_312_215_1 : ov_ds ov_m312.2.1 215 [.iconst 3] = true := by decide +kernel
theorem d_312_216 : decode ov_m312.2.1 216 = .ok (.iaload, 1) := by decide +kernel
theorem b_312_217_1 : ov_ds ov_m312.2.1 217 [.isub] = true := by decide +kernel
theorem d_312_218 : decode ov_m312.2.1 218 = .ok (.ireturn, 1) := by decide +kernel
theorem b_312_201_1 : ov_ds ov_m312.2.1 201 [.iconst 0] = true := by decide +kernel
theorem d_312_202 : decode ov_m312.2.1 202 = .ok (.goto 16, 3) := by decide +kernel
theorem b_312_219_1 : ov_ds ov_m312.2.1 219 [.iload_n 2] = true := by decide +kernel
theorem d_312_220 : decode ov_m312.2.1 220 = .ok (.ireturn, 1) := by decide +kernel
theorem b_312_221_1 : ov_ds ov_m312.2.1 221 [.aload_n 0] = true := by decide +kernel
theorem d_312_222 : decode ov_m312.2.1 222 = .ok (.getfield 102, 3) := by decide +kernel
theorem b_312_225_1 : ov_ds ov_m312.2.1 225 [.bipush 58] = true := by decide +kernel
theorem d_312_227 : decode ov_m312.2.1 227 = .ok (.iaload, 1) := by decide +kernel
theorem d_312_228 : decode ov_m312.2.1 228 = .ok (.ireturn, 1) := by decide +kernel
theorem b_312_229_1 : ov_ds ov_m312.2.1 229 [.aload_n 0] = true := by decide +kernel
theorem d_312_230 : decode ov_m312.2.1 230 = .ok (.getfield 102, 3) := by decide +kernel
theorem b_312_233_1 : ov_ds ov_m312.2.1 233 [.bipush 59] = true := by decide +kernel
theorem d_312_235 : decode ov_m312.2.1 235 = .ok (.iaload, 1) := by decide +kernel
theorem d_312_236 : decode ov_m312.2.1 236 = .ok (.ireturn, 1) := by decide +kernel
theorem b_312_237_1 : ov_ds ov_m312.2.1 237 [.aload_n 0] = true := by decide +kernel
theorem d_312_238 : decode ov_m312.2.1 238 = .ok (.getfield 81, 3) := by decide +kernel
theorem b_312_241_1 : ov_ds ov_m312.2.1 241 [.bipush 9] = true := by decide +kernel
theorem d_312_243 : decode ov_m312.2.1 243 = .ok (.iaload, 1) := by decide +kernel
theorem d_312_244 : decode ov_m312.2.1 244 = .ok (.ireturn, 1) := by decide +kernel
theorem b_312_245_1 : ov_ds ov_m312.2.1 245 [.aload_n 0] = true := by decide +kernel
theorem d_312_246 : decode ov_m312.2.1 246 = .ok (.getfield 319, 3) := by decide +kernel
theorem d_312_249 : decode ov_m312.2.1 249 = .ok (.ireturn, 1) := by decide +kernel
theorem b_312_250_1 : ov_ds ov_m312.2.1 250 [.aload_n 0] = true := by decide +kernel
theorem d_312_251 : decode ov_m312.2.1 251 = .ok (.getfield 11, 3) := by decide +kernel
theorem d_312_254 : decode ov_m312.2.1 254 = .ok (.ireturn, 1) := by decide +kernel
theorem b_312_255_1 : ov_ds ov_m312.2.1 255 [.iconst (-1)] = true := by decide +kernel
theorem d_312_256 : decode ov_m312.2.1 256 = .ok (.ireturn, 1) := by decide +kernel
theorem b_312_15_4 : ov_ds ov_m312.2.1 15 [.iload_n 2, .aload_n 0, .iload_n 3, .bipush 6] = true := by decide +kernel
theorem d_312_20 : decode ov_m312.2.1 20 = .ok (.irem, 1) := by decide +kernel
theorem b_312_21_2 : ov_ds ov_m312.2.1 21 [.iload_n 3, .bipush 6] = true := by decide +kernel
theorem d_312_24 : decode ov_m312.2.1 24 = .ok (.idiv, 1) := by decide +kernel
theorem d_312_25 : decode ov_m312.2.1 25 = .ok (.invokevirtual 282, 3) := by decide +kernel
theorem b_312_28_1 : ov_ds ov_m312.2.1 28 [.iconst 1] = true := by decide +kernel
theorem d_312_29 : decode ov_m312.2.1 29 = .ok (.if_icmp .ne 22, 3) := by decide +kernel
theorem b_312_51_4 : ov_ds ov_m312.2.1 51 [.iconst 0, .iadd, .istore_n 2, .iinc 3 1] = true := by decide +kernel
theorem d_312_57 : decode ov_m312.2.1 57 = .ok (.goto (-48), 3) := by decide +kernel
theorem b_312_32_3 : ov_ds ov_m312.2.1 32 [.aload_n 0, .iload_n 3, .bipush 6] = true := by decide +kernel
theorem d_312_36 : decode ov_m312.2.1 36 = .ok (.irem, 1) := by decide +kernel
theorem b_312_37_2 : ov_ds ov_m312.2.1 37 [.iload_n 3, .bipush 6] = true := by decide +kernel
theorem d_312_40 : decode ov_m312.2.1 40 = .ok (.idiv, 1) := by decide +kernel
theorem d_312_41 : decode ov_m312.2.1 41 = .ok (.invokevirtual 302, 3) := by decide +kernel
theorem d_312_44 : decode ov_m312.2.1 44 = .ok (.ifCond .ne 7, 3) := by decide +kernel
theorem b_312_47_1 : ov_ds ov_m312.2.1 47 [.iconst 1] = true := by decide +kernel
theorem d_312_48 : decode ov_m312.2.1 48 = .ok (.goto 4, 3) := by decide +kernel
theorem b_312_52_3 : ov_ds ov_m312.2.1 52 [.iadd, .istore_n 2, .iinc 3 1] = true := by decide +kernel
theorem b_299_0_2 : ov_ds ov_m299.2.1 0 [.iload_n 1, .iload_n 2] = true := by decide +kernel
theorem d_299_2 : decode ov_m299.2.1 2 = .ok (.if_icmp .ne 70, 3) := by decide +kernel
theorem b_299_72_2 : ov_ds ov_m299.2.1 72 [.iconst 0, .istore 9] = true := by decide +kernel
theorem b_299_75_2 : ov_ds ov_m299.2.1 75 [.iload 9, .iload_n 3] = true := by decide +kernel
theorem d_299_78 : decode ov_m299.2.1 78 = .ok (.if_icmp .ge 58, 3) := by decide +kernel
theorem d_299_136 : decode ov_m299.2.1 136 = .ok (.return_, 1) := by decide +kernel
theorem b_299_81_1 : ov_ds ov_m299.2.1 81 [.aload_n 0] = true := by decide +kernel
theorem d_299_82 : decode ov_m299.2.1 82 = .ok (.getfield 138, 3) := by decide +kernel
theorem b_299_85_2 : ov_ds ov_m299.2.1 85 [.iload_n 1, .iload 9] = true := by decide +kernel
theorem d_299_88 : decode ov_m299.2.1 88 = .ok (.iastore, 1) := by decide +kernel
theorem b_299_89_4 : ov_ds ov_m299.2.1 89 [.aload_n 0, .iload_n 1, .iconst 1, .iadd] = true := by decide +kernel
theorem b_299_93_4 : ov_ds ov_m299.2.1 93 [.iload_n 2, .iload_n 3, .lload 4, .aload_n 0] = true := by decide +kernel
theorem d_299_98 : decode ov_m299.2.1 98 = .ok (.getfield 132, 3) := by decide +kernel
theorem b_299_101_5 : ov_ds ov_m299.2.1 101 [.bipush 60, .iload_n 1, .imul, .iload 9, .iadd] = true := by decide +kernel
theorem d_299_108 : decode ov_m299.2.1 108 = .ok (.laload, 1) := by decide +kernel
theorem b_299_109_3 : ov_ds ov_m299.2.1 109 [.land, .lload 6, .aload_n 0] = true := by decide +kernel
theorem d_299_113 : decode ov_m299.2.1 113 = .ok (.getfield 135, 3) := by decide +kernel
theorem b_299_116_5 : ov_ds ov_m299.2.1 116 [.bipush 60, .iload_n 1, .imul, .iload 9, .iadd] = true := by decide +kernel
theorem d_299_123 : decode ov_m299.2.1 123 = .ok (.laload, 1) := by decide +kernel
theorem b_299_124_2 : ov_ds ov_m299.2.1 124 [.land, .iload 8] = true := by decide +kernel
theorem d_299_127 : decode ov_m299.2.1 127 = .ok (.invokevirtual 442, 3) := by decide +kernel
theorem b_299_130_1 : ov_ds ov_m299.2.1 130 [.iinc 9 1] = true := by decide +kernel
theorem d_299_133 : decode ov_m299.2.1 133 = .ok (.goto (-58), 3) := by decide +kernel
theorem b_299_5_1 : ov_ds ov_m299.2.1 5 [.lload 4] = true := by decide +kernel
theorem d_299_7 : decode ov_m299.2.1 7 = .ok (.invokestatic 435, 3) := by decide +kernel
theorem b_299_10_1 : ov_ds ov_m299.2.1 10 [.iload 8] = true := by decide +kernel
theorem d_299_12 : decode ov_m299.2.1 12 = .ok (.ifCond .eq 11, 3) := by decide +kernel
theorem b_299_23_2 : ov_ds ov_m299.2.1 23 [.iconst 0, .iadd] = true := by decide +kernel
theorem b_299_25_3 : ov_ds ov_m299.2.1 25 [.istore 9, .iload 9, .aload_n 0] = true := by decide +kernel
theorem d_299_30 : decode ov_m299.2.1 30 = .ok (.getfield 439, 3) := by decide +kernel
theorem d_299_33 : decode ov_m299.2.1 33 = .ok (.if_icmp .le 38, 3) := by decide +kernel
theorem d_299_71 : decode ov_m299.2.1 71 = .ok (.return_, 1) := by decide +kernel
theorem b_299_36_2 : ov_ds ov_m299.2.1 36 [.aload_n 0, .iload 9] = true := by decide +kernel
theorem d_299_39 : decode ov_m299.2.1 39 = .ok (.putfield 439, 3) := by decide +kernel
theorem b_299_42_2 : ov_ds ov_m299.2.1 42 [.iconst 0, .istore 10] = true := by decide +kernel
theorem b_299_45_2 : ov_ds ov_m299.2.1 45 [.iload 10, .iload_n 2] = true := by decide +kernel
theorem d_299_48 : decode ov_m299.2.1 48 = .ok (.if_icmp .ge 23, 3) := by decide +kernel
theorem b_299_51_1 : ov_ds ov_m299.2.1 51 [.aload_n 0] = true := by decide +kernel
theorem d_299_52 : decode ov_m299.2.1 52 = .ok (.getfield 141, 3) := by decide +kernel
theorem b_299_55_2 : ov_ds ov_m299.2.1 55 [.iload 10, .aload_n 0] = true := by decide +kernel
theorem d_299_58 : decode ov_m299.2.1 58 = .ok (.getfield 138, 3) := by decide +kernel
theorem b_299_61_1 : ov_ds ov_m299.2.1 61 [.iload 10] = true := by decide +kernel
theorem d_299_63 : decode ov_m299.2.1 63 = .ok (.iaload, 1) := by decide +kernel
theorem d_299_64 : decode ov_m299.2.1 64 = .ok (.iastore, 1) := by decide +kernel
theorem b_299_65_1 : ov_ds ov_m299.2.1 65 [.iinc 10 1] = true := by decide +kernel
theorem d_299_68 : decode ov_m299.2.1 68 = .ok (.goto (-23), 3) := by decide +kernel
theorem b_299_15_1 : ov_ds ov_m299.2.1 15 [.lload 6] = true := by decide +kernel
theorem d_299_17 : decode ov_m299.2.1 17 = .ok (.invokestatic 435, 3) := by decide +kernel
theorem d_299_20 : decode ov_m299.2.1 20 = .ok (.goto 4, 3) := by decide +kernel
theorem b_299_24_1 : ov_ds ov_m299.2.1 24 [.iadd] = true := by decide +kernel
theorem b_297_0_2 : ov_ds ov_m297.2.1 0 [.aload_n 0, .iconst 0] = true := by decide +kernel
theorem d_297_2 : decode ov_m297.2.1 2 = .ok (.putfield 1, 3) := by decide +kernel
theorem b_297_52_2 : ov_ds ov_m297.2.1 52 [.iconst 0, .istore 7] = true := by decide +kernel
theorem b_297_55_2 : ov_ds ov_m297.2.1 55 [.iload 7, .iload_n 3] = true := by decide +kernel
theorem d_297_58 : decode ov_m297.2.1 58 = .ok (.if_icmp .ge 53, 3) := by decide +kernel
theorem b_297_111_1 : ov_ds ov_m297.2.1 111 [.iload 6] = true := by decide +kernel
theorem d_297_113 : decode ov_m297.2.1 113 = .ok (.ifCond .ne 5, 3) := by decide +kernel
theorem b_297_118_4 : ov_ds ov_m297.2.1 118 [.aload_n 0, .iload_n 1, .iload_n 2, .iconst 1] = true := by decide +kernel
theorem d_297_122 : decode ov_m297.2.1 122 = .ok (.invokevirtual 289, 3) := by decide +kernel
theorem b_297_125_3 : ov_ds ov_m297.2.1 125 [.istore 7, .iconst 0, .istore 8] = true := by decide +kernel
theorem b_297_130_2 : ov_ds ov_m297.2.1 130 [.iload 8, .iload_n 3] = true := by decide +kernel
theorem d_297_133 : decode ov_m297.2.1 133 = .ok (.if_icmp .ge 108, 3) := by decide +kernel
theorem b_297_241_2 : ov_ds ov_m297.2.1 241 [.aload_n 0, .iconst (-1)] = true := by decide +kernel
theorem d_297_243 : decode ov_m297.2.1 243 = .ok (.putfield 439, 3) := by decide +kernel
theorem b_297_246_4 : ov_ds ov_m297.2.1 246 [.aload_n 0, .iload_n 1, .iload_n 2, .iconst 2] = true := by decide +kernel
theorem d_297_250 : decode ov_m297.2.1 250 = .ok (.invokevirtual 289, 3) := by decide +kernel
theorem b_297_253_4 : ov_ds ov_m297.2.1 253 [.aload_n 0, .iload_n 1, .iload_n 2, .iconst 3] = true := by decide +kernel
theorem d_297_257 : decode ov_m297.2.1 257 = .ok (.invokevirtual 289, 3) := by decide +kernel
theorem b_297_260_2 : ov_ds ov_m297.2.1 260 [.iadd, .iload 7] = true := by decide +kernel
theorem d_297_263 : decode ov_m297.2.1 263 = .ok (.irem, 1) := by decide +kernel
theorem b_297_264_2 : ov_ds ov_m297.2.1 264 [.istore 8, .aload_n 0] = true := by decide +kernel
theorem d_297_267 : decode ov_m297.2.1 267 = .ok (.getfield 138, 3) := by decide +kernel
theorem b_297_270_2 : ov_ds ov_m297.2.1 270 [.iconst 0, .iload 8] = true := by decide +kernel
theorem d_297_273 : decode ov_m297.2.1 273 = .ok (.iastore, 1) := by decide +kernel
theorem b_297_274_5 : ov_ds ov_m297.2.1 274 [.aload_n 0, .iconst 1, .iload_n 3, .iload 7, .aload_n 0] = true := by decide +kernel
theorem d_297_280 : decode ov_m297.2.1 280 = .ok (.getfield 132, 3) := by decide +kernel
theorem b_297_283_1 : ov_ds ov_m297.2.1 283 [.iload 8] = true := by decide +kernel
theorem d_297_285 : decode ov_m297.2.1 285 = .ok (.laload, 1) := by decide +kernel
theorem b_297_286_1 : ov_ds ov_m297.2.1 286 [.aload_n 0] = true := by decide +kernel
theorem d_297_287 : decode ov_m297.2.1 287 = .ok (.getfield 135, 3) := by decide +kernel
theorem b_297_290_1 : ov_ds ov_m297.2.1 290 [.iload 8] = true := by decide +kernel
theorem d_297_292 : decode ov_m297.2.1 292 = .ok (.laload, 1) := by decide +kernel
theorem b_297_293_1 : ov_ds ov_m297.2.1 293 [.iload 4] = true := by decide +kernel
theorem d_297_295 : decode ov_m297.2.1 295 = .ok (.invokevirtual 442, 3) := by decide +kernel
theorem b_297_298_1 : ov_ds ov_m297.2.1 298 [.iload 5] = true := by decide +kernel
theorem d_297_300 : decode ov_m297.2.1 300 = .ok (.ifCond .ne 10, 3) := by decide +kernel
theorem b_297_310_1 : ov_ds ov_m297.2.1 310 [.aload_n 0] = true := by decide +kernel
theorem d_297_311 : decode ov_m297.2.1 311 = .ok (.getfield 141, 3) := by decide +kernel
theorem b_297_314_1 : ov_ds ov_m297.2.1 314 [.iload 5] = true := by decide +kernel
theorem d_297_316 : decode ov_m297.2.1 316 = .ok (.iaload, 1) := by decide +kernel
theorem d_297_317 : decode ov_m297.2.1 317 = .ok (.ireturn, 1) := by decide +kernel
theorem b_297_303_1 : ov_ds ov_m297.2.1 303 [.aload_n 0] = true := by decide +kernel
theorem d_297_304 : decode ov_m297.2.1 304 = .ok (.getfield 439, 3) := by decide +kernel
theorem d_297_307 : decode ov_m297.2.1 307 = .ok (.goto 10, 3) := by decide +kernel
theorem b_297_136_7 : ov_ds ov_m297.2.1 136 [.iload 7, .aload_n 0, .iload_n 1, .iload_n 2, .iload 8, .iadd, .iconst 3] = true := by decide +kernel
theorem d_297_145 : decode ov_m297.2.1 145 = .ok (.invokevirtual 289, 3) := by decide +kernel
theorem b_297_148_4 : ov_ds ov_m297.2.1 148 [.isub, .istore 9, .iconst 0, .istore 10] = true := by decide +kernel
theorem b_297_154_2 : ov_ds ov_m297.2.1 154 [.iload 10, .iload 7] = true := by decide +kernel
theorem d_297_158 : decode ov_m297.2.1 158 = .ok (.if_icmp .ge 77, 3) := by decide +kernel
theorem b_297_235_1 : ov_ds ov_m297.2.1 235 [.iinc 8 1] = true := by decide +kernel
theorem d_297_238 : decode ov_m297.2.1 238 = .ok (.goto (-108), 3) := by decide +kernel
theorem b_297_161_1 : ov_ds ov_m297.2.1 161 [.aload_n 0] = true := by decide +kernel
theorem d_297_162 : decode ov_m297.2.1 162 = .ok (.getfield 132, 3) := by decide +kernel
theorem b_297_165_8 : ov_ds ov_m297.2.1 165 [.bipush 60, .iload 8, .imul, .iload 10, .iadd, .iload 10, .iload 8, .aload_n 0] = true := by decide +kernel
theorem d_297_178 : decode ov_m297.2.1 178 = .ok (.getfield 81, 3) := by decide +kernel
theorem b_297_181_1 : ov_ds ov_m297.2.1 181 [.iconst 2] = true := by decide +kernel
theorem d_297_182 : decode ov_m297.2.1 182 = .ok (.iaload, 1) := by decide +kernel
theorem b_297_183_4 : ov_ds ov_m297.2.1 183 [.imul, .isub, .iload 9, .iload 7] = true := by decide +kernel
theorem d_297_189 : decode ov_m297.2.1 189 = .ok (.invokestatic 446, 3) := by decide +kernel
theorem d_297_192 : decode ov_m297.2.1 192 = .ok (.lastore, 1) := by decide +kernel
theorem b_297_193_1 : ov_ds ov_m297.2.1 193 [.aload_n 0] = true := by decide +kernel
theorem d_297_194 : decode ov_m297.2.1 194 = .ok (.getfield 135, 3) := by decide +kernel
theorem b_297_197_12 : ov_ds ov_m297.2.1 197 [.bipush 60, .iload 8, .imul, .iload 10, .iadd, .iload 10, .iload_n 3, .iconst 1, .isub, .iload 8, .isub, .aload_n 0] = true := by decide +kernel
theorem d_297_214 : decode ov_m297.2.1 214 = .ok (.getfield 81, 3) := by decide +kernel
theorem b_297_217_1 : ov_ds ov_m297.2.1 217 [.iconst 2] = true := by decide +kernel
theorem d_297_218 : decode ov_m297.2.1 218 = .ok (.iaload, 1) := by decide +kernel
theorem b_297_219_4 : ov_ds ov_m297.2.1 219 [.imul, .isub, .iload 9, .iload 7] = true := by decide +kernel
theorem d_297_225 : decode ov_m297.2.1 225 = .ok (.invokestatic 446, 3) := by decide +kernel
theorem d_297_228 : decode ov_m297.2.1 228 = .ok (.lastore, 1) := by decide +kernel
theorem b_297_229_1 : ov_ds ov_m297.2.1 229 [.iinc 10 1] = true := by decide +kernel
theorem d_297_232 : decode ov_m297.2.1 232 = .ok (.goto (-78), 3) := by decide +kernel
theorem b_297_116_1 : ov_ds ov_m297.2.1 116 [.iconst (-1)] = true := by decide +kernel
theorem d_297_117 : decode ov_m297.2.1 117 = .ok (.ireturn, 1) := by decide +kernel
theorem b_297_61_1 : ov_ds ov_m297.2.1 61 [.iload 6] = true := by decide +kernel
theorem d_297_63 : decode ov_m297.2.1 63 = .ok (.ifCond .eq 48, 3) := by decide +kernel
theorem b_297_66_5 : ov_ds ov_m297.2.1 66 [.aload_n 0, .iload_n 1, .iload_n 2, .iload 7, .iadd] = true := by decide +kernel
theorem d_297_72 : decode ov_m297.2.1 72 = .ok (.invokevirtual 285, 3) := by decide +kernel
theorem d_297_75 : decode ov_m297.2.1 75 = .ok (.ifCond .eq 27, 3) := by decide +kernel
theorem b_297_102_3 : ov_ds ov_m297.2.1 102 [.iconst 0, .istore 6, .iinc 7 1] = true := by decide +kernel
theorem d_297_108 : decode ov_m297.2.1 108 = .ok (.goto (-53), 3) := by decide +kernel
theorem b_297_78_6 : ov_ds ov_m297.2.1 78 [.aload_n 0, .iload_n 1, .iload_n 2, .iload 7, .iadd, .iconst 1] = true := by decide +kernel
theorem d_297_85 : decode ov_m297.2.1 85 = .ok (.invokevirtual 289, 3) := by decide +kernel
theorem b_297_88_4 : ov_ds ov_m297.2.1 88 [.aload_n 0, .iload_n 1, .iload_n 2, .iconst 1] = true := by decide +kernel
theorem d_297_92 : decode ov_m297.2.1 92 = .ok (.invokevirtual 289, 3) := by decide +kernel
theorem d_297_95 : decode ov_m297.2.1 95 = .ok (.if_icmp .ne 7, 3) := by decide +kernel
theorem b_297_98_1 : ov_ds ov_m297.2.1 98 [.iconst 1] = true := by decide +kernel
theorem d_297_99 : decode ov_m297.2.1 99 = .ok (.goto 4, 3) := by decide +kernel
theorem b_297_103_2 : ov_ds ov_m297.2.1 103 [.istore 6, .iinc 7 1] = true := by decide +kernel
theorem b_297_5_3 : ov_ds ov_m297.2.1 5 [.aload_n 0, .iload_n 1, .iload_n 2] = true := by decide +kernel
theorem d_297_8 : decode ov_m297.2.1 8 = .ok (.invokevirtual 296, 3) := by decide +kernel
theorem d_297_11 : decode ov_m297.2.1 11 = .ok (.ifCond .eq 38, 3) := by decide +kernel
theorem b_297_49_2 : ov_ds ov_m297.2.1 49 [.iconst 0, .istore 6] = true := by decide +kernel
theorem b_297_14_3 : ov_ds ov_m297.2.1 14 [.iload_n 3, .iconst 2, .iconst 4] = true := by decide +kernel
theorem d_297_17 : decode ov_m297.2.1 17 = .ok (.invokestatic 299, 3) := by decide +kernel
theorem d_297_20 : decode ov_m297.2.1 20 = .ok (.ifCond .eq 29, 3) := by decide +kernel
theorem b_297_23_4 : ov_ds ov_m297.2.1 23 [.iload_n 2, .iload_n 3, .iadd, .aload_n 0] = true := by decide +kernel
theorem d_297_27 : decode ov_m297.2.1 27 = .ok (.invokevirtual 279, 3) := by decide +kernel
theorem d_297_30 : decode ov_m297.2.1 30 = .ok (.if_icmp .gt 19, 3) := by decide +kernel
theorem b_297_33_5 : ov_ds ov_m297.2.1 33 [.iload 5, .iconst 0, .iload_n 3, .iconst 1, .isub] = true := by decide +kernel
theorem d_297_39 : decode ov_m297.2.1 39 = .ok (.invokestatic 299, 3) := by decide +kernel
theorem d_297_42 : decode ov_m297.2.1 42 = .ok (.ifCond .eq 7, 3) := by decide +kernel
theorem b_297_45_1 : ov_ds ov_m297.2.1 45 [.iconst 1] = true := by decide +kernel
theorem d_297_46 : decode ov_m297.2.1 46 = .ok (.goto 4, 3) := by decide +kernel
theorem b_297_50_1 : ov_ds ov_m297.2.1 50 [.istore 6] = true := by decide +kernel

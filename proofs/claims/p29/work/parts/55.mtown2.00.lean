theorem b_205_0_2 : ov_ds ov_m205.2.1 0 [.aload_n 0, .iconst 0] = true := by decide +kernel
theorem d_205_2 : decode ov_m205.2.1 2 = .ok (.putfield 1, 3) := by decide +kernel
theorem b_205_5_1 : ov_ds ov_m205.2.1 5 [.aload_n 0] = true := by decide +kernel
theorem d_205_6 : decode ov_m205.2.1 6 = .ok (.invokevirtual 205, 3) := by decide +kernel
theorem b_205_9_2 : ov_ds ov_m205.2.1 9 [.aload_n 0, .iconst 0] = true := by decide +kernel
theorem d_205_11 : decode ov_m205.2.1 11 = .ok (.putfield 208, 3) := by decide +kernel
theorem b_205_14_2 : ov_ds ov_m205.2.1 14 [.aload_n 0, .iconst 0] = true := by decide +kernel
theorem d_205_16 : decode ov_m205.2.1 16 = .ok (.putfield 211, 3) := by decide +kernel
theorem b_205_19_2 : ov_ds ov_m205.2.1 19 [.aload_n 0, .sipush 340] = true := by decide +kernel
theorem d_205_23 : decode ov_m205.2.1 23 = .ok (.invokevirtual 147, 3) := by decide +kernel
theorem b_205_26_2 : ov_ds ov_m205.2.1 26 [.aload_n 0, .iconst 0] = true := by decide +kernel
theorem d_205_28 : decode ov_m205.2.1 28 = .ok (.invokevirtual 195, 3) := by decide +kernel
theorem b_205_31_1 : ov_ds ov_m205.2.1 31 [.aload_n 0] = true := by decide +kernel
theorem d_205_32 : decode ov_m205.2.1 32 = .ok (.getfield 81, 3) := by decide +kernel
theorem b_205_35_4 : ov_ds ov_m205.2.1 35 [.sipush 340, .aload_n 0, .iconst 1, .bipush 6] = true := by decide +kernel
theorem d_205_42 : decode ov_m205.2.1 42 = .ok (.invokevirtual 198, 3) := by decide +kernel
theorem d_205_45 : decode ov_m205.2.1 45 = .ok (.iastore, 1) := by decide +kernel
theorem b_205_46_1 : ov_ds ov_m205.2.1 46 [.aload_n 0] = true := by decide +kernel
theorem d_205_47 : decode ov_m205.2.1 47 = .ok (.getfield 81, 3) := by decide +kernel
theorem b_205_50_4 : ov_ds ov_m205.2.1 50 [.sipush 341, .aload_n 0, .iconst 1, .bipush 9] = true := by decide +kernel
theorem d_205_57 : decode ov_m205.2.1 57 = .ok (.invokevirtual 198, 3) := by decide +kernel
theorem d_205_60 : decode ov_m205.2.1 60 = .ok (.iastore, 1) := by decide +kernel
theorem b_205_61_2 : ov_ds ov_m205.2.1 61 [.aload_n 0, .bipush 59] = true := by decide +kernel
theorem d_205_64 : decode ov_m205.2.1 64 = .ok (.invokevirtual 214, 3) := by decide +kernel
theorem b_205_67_1 : ov_ds ov_m205.2.1 67 [.aload_n 0] = true := by decide +kernel
theorem d_205_68 : decode ov_m205.2.1 68 = .ok (.getfield 180, 3) := by decide +kernel
theorem d_205_71 : decode ov_m205.2.1 71 = .ok (.ifCond .ne 28, 3) := by decide +kernel
theorem b_205_99_1 : ov_ds ov_m205.2.1 99 [.aload_n 0] = true := by decide +kernel
theorem d_205_100 : decode ov_m205.2.1 100 = .ok (.getfield 180, 3) := by decide +kernel
theorem d_205_103 : decode ov_m205.2.1 103 = .ok (.ifCond .le 8, 3) := by decide +kernel
theorem b_205_106_1 : ov_ds ov_m205.2.1 106 [.aload_n 0] = true := by decide +kernel
theorem d_205_107 : decode ov_m205.2.1 107 = .ok (.getfield 180, 3) := by decide +kernel
theorem d_205_110 : decode ov_m205.2.1 110 = .ok (.ireturn, 1) := by decide +kernel
theorem b_205_74_1 : ov_ds ov_m205.2.1 74 [.aload_n 0] = true := by decide +kernel
theorem d_205_75 : decode ov_m205.2.1 75 = .ok (.getfield 24, 3) := by decide +kernel
theorem b_205_78_1 : ov_ds ov_m205.2.1 78 [.aload_n 0] = true := by decide +kernel
theorem d_205_79 : decode ov_m205.2.1 79 = .ok (.getfield 177, 3) := by decide +kernel
theorem d_205_82 : decode ov_m205.2.1 82 = .ok (.iaload, 1) := by decide +kernel
theorem d_205_83 : decode ov_m205.2.1 83 = .ok (.ifCond .eq 16, 3) := by decide +kernel
theorem b_205_111_2 : ov_ds ov_m205.2.1 111 [.iconst 0, .istore_n 1] = true := by decide +kernel
theorem b_205_113_2 : ov_ds ov_m205.2.1 113 [.iload_n 1, .sipush 340] = true := by decide +kernel
theorem d_205_117 : decode ov_m205.2.1 117 = .ok (.if_icmp .ge 25, 3) := by decide +kernel
theorem b_205_142_2 : ov_ds ov_m205.2.1 142 [.iconst 0, .istore_n 1] = true := by decide +kernel
theorem b_205_144_2 : ov_ds ov_m205.2.1 144 [.iload_n 1, .aload_n 0] = true := by decide +kernel
theorem d_205_146 : decode ov_m205.2.1 146 = .ok (.getfield 208, 3) := by decide +kernel
theorem d_205_149 : decode ov_m205.2.1 149 = .ok (.if_icmp .ge 41, 3) := by decide +kernel
theorem b_205_190_1 : ov_ds ov_m205.2.1 190 [.aload_n 0] = true := by decide +kernel
theorem d_205_191 : decode ov_m205.2.1 191 = .ok (.invokevirtual 151, 3) := by decide +kernel
theorem b_205_194_1 : ov_ds ov_m205.2.1 194 [.iconst 0] = true := by decide +kernel
theorem d_205_195 : decode ov_m205.2.1 195 = .ok (.ireturn, 1) := by decide +kernel
theorem b_205_152_1 : ov_ds ov_m205.2.1 152 [.aload_n 0] = true := by decide +kernel
theorem d_205_153 : decode ov_m205.2.1 153 = .ok (.getfield 84, 3) := by decide +kernel
theorem b_205_156_2 : ov_ds ov_m205.2.1 156 [.iload_n 1, .aload_n 0] = true := by decide +kernel
theorem d_205_158 : decode ov_m205.2.1 158 = .ok (.getfield 84, 3) := by decide +kernel
theorem b_205_161_3 : ov_ds ov_m205.2.1 161 [.sipush 1100, .iload_n 1, .iadd] = true := by decide +kernel
theorem d_205_166 : decode ov_m205.2.1 166 = .ok (.iaload, 1) := by decide +kernel
theorem d_205_167 : decode ov_m205.2.1 167 = .ok (.iastore, 1) := by decide +kernel
theorem b_205_168_1 : ov_ds ov_m205.2.1 168 [.aload_n 0] = true := by decide +kernel
theorem d_205_169 : decode ov_m205.2.1 169 = .ok (.getfield 87, 3) := by decide +kernel
theorem b_205_172_2 : ov_ds ov_m205.2.1 172 [.iload_n 1, .aload_n 0] = true := by decide +kernel
theorem d_205_174 : decode ov_m205.2.1 174 = .ok (.getfield 87, 3) := by decide +kernel
theorem b_205_177_3 : ov_ds ov_m205.2.1 177 [.sipush 1100, .iload_n 1, .iadd] = true := by decide +kernel
theorem d_205_182 : decode ov_m205.2.1 182 = .ok (.iaload, 1) := by decide +kernel
theorem d_205_183 : decode ov_m205.2.1 183 = .ok (.iastore, 1) := by decide +kernel
theorem b_205_184_1 : ov_ds ov_m205.2.1 184 [.iinc 1 1] = true := by decide +kernel
theorem d_205_187 : decode ov_m205.2.1 187 = .ok (.goto (-43), 3) := by decide +kernel
theorem b_205_120_1 : ov_ds ov_m205.2.1 120 [.aload_n 0] = true := by decide +kernel
theorem d_205_121 : decode ov_m205.2.1 121 = .ok (.getfield 81, 3) := by decide +kernel
theorem b_205_124_2 : ov_ds ov_m205.2.1 124 [.iload_n 1, .aload_n 0] = true := by decide +kernel
theorem d_205_126 : decode ov_m205.2.1 126 = .ok (.getfield 81, 3) := by decide +kernel
theorem b_205_129_3 : ov_ds ov_m205.2.1 129 [.sipush 340, .iload_n 1, .iadd] = true := by decide +kernel
theorem d_205_134 : decode ov_m205.2.1 134 = .ok (.iaload, 1) := by decide +kernel
theorem d_205_135 : decode ov_m205.2.1 135 = .ok (.iastore, 1) := by decide +kernel
theorem b_205_136_1 : ov_ds ov_m205.2.1 136 [.iinc 1 1] = true := by decide +kernel
theorem d_205_139 : decode ov_m205.2.1 139 = .ok (.goto (-26), 3) := by decide +kernel
theorem b_205_86_1 : ov_ds ov_m205.2.1 86 [.aload_n 0] = true := by decide +kernel
theorem d_205_87 : decode ov_m205.2.1 87 = .ok (.invokevirtual 217, 3) := by decide +kernel
theorem b_205_90_2 : ov_ds ov_m205.2.1 90 [.aload_n 0, .bipush 59] = true := by decide +kernel
theorem d_205_93 : decode ov_m205.2.1 93 = .ok (.invokevirtual 214, 3) := by decide +kernel
theorem d_205_96 : decode ov_m205.2.1 96 = .ok (.goto (-29), 3) := by decide +kernel
theorem b_234_0_2 : ov_ds ov_m234.2.1 0 [.aload_n 0, .iconst 0] = true := by decide +kernel
theorem d_234_2 : decode ov_m234.2.1 2 = .ok (.putfield 1, 3) := by decide +kernel
theorem b_234_5_1 : ov_ds ov_m234.2.1 5 [.aload_n 0] = true := by decide +kernel
theorem d_234_6 : decode ov_m234.2.1 6 = .ok (.invokevirtual 205, 3) := by decide +kernel
theorem b_234_9_6 : ov_ds ov_m234.2.1 9 [.iconst 0, .istore_n 1, .iconst 0, .istore_n 2, .iconst 0, .istore_n 3] = true := by decide +kernel
theorem b_234_15_1 : ov_ds ov_m234.2.1 15 [.aload_n 0] = true := by decide +kernel
theorem d_234_16 : decode ov_m234.2.1 16 = .ok (.getfield 180, 3) := by decide +kernel
theorem d_234_19 : decode ov_m234.2.1 19 = .ok (.ifCond .ne 151, 3) := by decide +kernel
theorem b_234_170_1 : ov_ds ov_m234.2.1 170 [.aload_n 0] = true := by decide +kernel
theorem d_234_171 : decode ov_m234.2.1 171 = .ok (.getfield 180, 3) := by decide +kernel
theorem d_234_174 : decode ov_m234.2.1 174 = .ok (.ifCond .le 8, 3) := by decide +kernel
theorem b_234_177_1 : ov_ds ov_m234.2.1 177 [.aload_n 0] = true := by decide +kernel
theorem d_234_178 : decode ov_m234.2.1 178 = .ok (.getfield 180, 3) := by decide +kernel
theorem d_234_181 : decode ov_m234.2.1 181 = .ok (.ireturn, 1) := by decide +kernel
theorem b_234_22_1 : ov_ds ov_m234.2.1 22 [.aload_n 0] = true := by decide +kernel
theorem d_234_23 : decode ov_m234.2.1 23 = .ok (.getfield 24, 3) := by decide +kernel
theorem b_234_26_1 : ov_ds ov_m234.2.1 26 [.aload_n 0] = true := by decide +kernel
theorem d_234_27 : decode ov_m234.2.1 27 = .ok (.getfield 177, 3) := by decide +kernel
theorem d_234_30 : decode ov_m234.2.1 30 = .ok (.iaload, 1) := by decide +kernel
theorem d_234_31 : decode ov_m234.2.1 31 = .ok (.ifCond .eq 139, 3) := by decide +kernel
theorem b_234_182_1 : ov_ds ov_m234.2.1 182 [.aload_n 0] = true := by decide +kernel
theorem d_234_183 : decode ov_m234.2.1 183 = .ok (.getfield 93, 3) := by decide +kernel
theorem b_234_186_2 : ov_ds ov_m234.2.1 186 [.iconst 0, .iload_n 1] = true := by decide +kernel
theorem d_234_188 : decode ov_m234.2.1 188 = .ok (.iastore, 1) := by decide +kernel
theorem b_234_189_2 : ov_ds ov_m234.2.1 189 [.iconst 0, .istore 4] = true := by decide +kernel
theorem b_234_192_4 : ov_ds ov_m234.2.1 192 [.iload 4, .iconst 2, .iload_n 1, .imul] = true := by decide +kernel
theorem d_234_197 : decode ov_m234.2.1 197 = .ok (.if_icmp .ge 28, 3) := by decide +kernel
theorem b_234_225_1 : ov_ds ov_m234.2.1 225 [.iconst 0] = true := by decide +kernel
theorem d_234_226 : decode ov_m234.2.1 226 = .ok (.ireturn, 1) := by decide +kernel
theorem b_234_200_1 : ov_ds ov_m234.2.1 200 [.aload_n 0] = true := by decide +kernel
theorem d_234_201 : decode ov_m234.2.1 201 = .ok (.getfield 93, 3) := by decide +kernel
theorem b_234_204_4 : ov_ds ov_m234.2.1 204 [.iconst 1, .iload 4, .iadd, .aload_n 0] = true := by decide +kernel
theorem d_234_209 : decode ov_m234.2.1 209 = .ok (.getfield 93, 3) := by decide +kernel
theorem b_234_212_3 : ov_ds ov_m234.2.1 212 [.bipush 30, .iload 4, .iadd] = true := by decide +kernel
theorem d_234_217 : decode ov_m234.2.1 217 = .ok (.iaload, 1) := by decide +kernel
theorem d_234_218 : decode ov_m234.2.1 218 = .ok (.iastore, 1) := by decide +kernel
theorem b_234_219_1 : ov_ds ov_m234.2.1 219 [.iinc 4 1] = true := by decide +kernel
theorem d_234_222 : decode ov_m234.2.1 222 = .ok (.goto (-30), 3) := by decide +kernel
theorem b_234_34_3 : ov_ds ov_m234.2.1 34 [.aload_n 0, .bipush 10, .iconst 2] = true := by decide +kernel
theorem d_234_38 : decode ov_m234.2.1 38 = .ok (.invokevirtual 202, 3) := by decide +kernel
theorem b_234_41_2 : ov_ds ov_m234.2.1 41 [.istore 4, .iload 4] = true := by decide +kernel
theorem d_234_45 : decode ov_m234.2.1 45 = .ok (.ifCond .ge 11, 3) := by decide +kernel
theorem b_234_56_4 : ov_ds ov_m234.2.1 56 [.aload_n 0, .iload_n 2, .iload_n 3, .iload 4] = true := by decide +kernel
theorem d_234_61 : decode ov_m234.2.1 61 = .ok (.invokevirtual 250, 3) := by decide +kernel
theorem d_234_64 : decode ov_m234.2.1 64 = .ok (.ifCond .eq 14, 3) := by decide +kernel
theorem b_234_78_2 : ov_ds ov_m234.2.1 78 [.aload_n 0, .iconst 2] = true := by decide +kernel
theorem d_234_80 : decode ov_m234.2.1 80 = .ok (.invokevirtual 186, 3) := by decide +kernel
theorem d_234_83 : decode ov_m234.2.1 83 = .ok (.goto 14, 3) := by decide +kernel
theorem b_234_97_1 : ov_ds ov_m234.2.1 97 [.aload_n 0] = true := by decide +kernel
theorem d_234_98 : decode ov_m234.2.1 98 = .ok (.getfield 180, 3) := by decide +kernel
theorem d_234_101 : decode ov_m234.2.1 101 = .ok (.ifCond .ne 60, 3) := by decide +kernel
theorem b_234_161_2 : ov_ds ov_m234.2.1 161 [.aload_n 0, .bipush 59] = true := by decide +kernel
theorem d_234_164 : decode ov_m234.2.1 164 = .ok (.invokevirtual 214, 3) := by decide +kernel
theorem d_234_167 : decode ov_m234.2.1 167 = .ok (.goto (-152), 3) := by decide +kernel
theorem b_234_67_4 : ov_ds ov_m234.2.1 67 [.aload_n 0, .iload_n 2, .iload_n 3, .iload 4] = true := by decide +kernel
theorem d_234_72 : decode ov_m234.2.1 72 = .ok (.invokevirtual 254, 3) := by decide +kernel
theorem d_234_75 : decode ov_m234.2.1 75 = .ok (.ifCond .eq 11, 3) := by decide +kernel
theorem b_234_86_2 : ov_ds ov_m234.2.1 86 [.iload_n 1, .bipush 13] = true := by decide +kernel
theorem d_234_89 : decode ov_m234.2.1 89 = .ok (.if_icmp .ne 8, 3) := by decide +kernel
theorem b_234_104_2 : ov_ds ov_m234.2.1 104 [.aload_n 0, .dup] = true := by decide +kernel
theorem d_234_106 : decode ov_m234.2.1 106 = .ok (.getfield 177, 3) := by decide +kernel
theorem b_234_109_2 : ov_ds ov_m234.2.1 109 [.iconst 1, .iadd] = true := by decide +kernel
theorem d_234_111 : decode ov_m234.2.1 111 = .ok (.putfield 177, 3) := by decide +kernel
theorem b_234_114_1 : ov_ds ov_m234.2.1 114 [.aload_n 0] = true := by decide +kernel
theorem d_234_115 : decode ov_m234.2.1 115 = .ok (.getfield 93, 3) := by decide +kernel
theorem b_234_118_6 : ov_ds ov_m234.2.1 118 [.bipush 30, .iconst 2, .iload_n 1, .imul, .iadd, .iload 4] = true := by decide +kernel
theorem d_234_126 : decode ov_m234.2.1 126 = .ok (.iastore, 1) := by decide +kernel
theorem b_234_127_1 : ov_ds ov_m234.2.1 127 [.aload_n 0] = true := by decide +kernel
theorem d_234_128 : decode ov_m234.2.1 128 = .ok (.getfield 93, 3) := by decide +kernel
theorem b_234_131_8 : ov_ds ov_m234.2.1 131 [.bipush 31, .iconst 2, .iload_n 1, .imul, .iadd, .aload_n 0, .iconst 0, .sipush 9999] = true := by decide +kernel
theorem d_234_142 : decode ov_m234.2.1 142 = .ok (.invokevirtual 198, 3) := by decide +kernel
theorem d_234_145 : decode ov_m234.2.1 145 = .ok (.iastore, 1) := by decide +kernel
theorem b_234_146_13 : ov_ds ov_m234.2.1 146 [.iload_n 2, .iconst 1, .iload 4, .isub, .iadd, .istore_n 2, .iload_n 3, .iload 4, .iadd, .istore_n 3, .iinc 1 1, .aload_n 0, .bipush 59] = true := by decide +kernel
theorem b_234_92_2 : ov_ds ov_m234.2.1 92 [.aload_n 0, .iconst 5] = true := by decide +kernel
theorem d_234_94 : decode ov_m234.2.1 94 = .ok (.invokevirtual 186, 3) := by decide +kernel
theorem b_234_48_2 : ov_ds ov_m234.2.1 48 [.aload_n 0, .iconst 1] = true := by decide +kernel
theorem d_234_50 : decode ov_m234.2.1 50 = .ok (.invokevirtual 186, 3) := by decide +kernel
theorem d_234_53 : decode ov_m234.2.1 53 = .ok (.goto 44, 3) := by decide +kernel

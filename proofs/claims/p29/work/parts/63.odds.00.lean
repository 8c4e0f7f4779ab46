theorem b_287_0_3 : ov_ds ov_m287.2.1 0 [.aload_n 0, .iload_n 1, .iload_n 2] = true := by decide +kernel
theorem d_287_3 : decode ov_m287.2.1 3 = .ok (.invokevirtual 335, 3) := by decide +kernel
theorem d_287_6 : decode ov_m287.2.1 6 = .ok (.ifCond .eq 24, 3) := by decide +kernel
theorem b_287_30_11 : ov_ds ov_m287.2.1 30 [.sipush 1200, .bipush 6, .iload_n 2, .imul, .iload_n 1, .iadd, .imul, .iload_n 3, .iadd, .istore 4, .aload_n 0] = true := by decide +kernel
theorem d_287_45 : decode ov_m287.2.1 45 = .ok (.getfield 125, 3) := by decide +kernel
theorem b_287_48_1 : ov_ds ov_m287.2.1 48 [.iload 4] = true := by decide +kernel
theorem d_287_50 : decode ov_m287.2.1 50 = .ok (.iaload, 1) := by decide +kernel
theorem b_287_51_1 : ov_ds ov_m287.2.1 51 [.aload_n 0] = true := by decide +kernel
theorem d_287_52 : decode ov_m287.2.1 52 = .ok (.getfield 405, 3) := by decide +kernel
theorem d_287_55 : decode ov_m287.2.1 55 = .ok (.if_icmp .eq 151, 3) := by decide +kernel
theorem b_287_206_1 : ov_ds ov_m287.2.1 206 [.aload_n 0] = true := by decide +kernel
theorem d_287_207 : decode ov_m287.2.1 207 = .ok (.getfield 122, 3) := by decide +kernel
theorem b_287_210_1 : ov_ds ov_m287.2.1 210 [.iload 4] = true := by decide +kernel
theorem d_287_212 : decode ov_m287.2.1 212 = .ok (.iaload, 1) := by decide +kernel
theorem d_287_213 : decode ov_m287.2.1 213 = .ok (.ireturn, 1) := by decide +kernel
theorem b_287_58_1 : ov_ds ov_m287.2.1 58 [.aload_n 0] = true := by decide +kernel
theorem d_287_59 : decode ov_m287.2.1 59 = .ok (.getfield 399, 3) := by decide +kernel
theorem b_287_62_3 : ov_ds ov_m287.2.1 62 [.iload_n 3, .iadd, .aload_n 0] = true := by decide +kernel
theorem d_287_65 : decode ov_m287.2.1 65 = .ok (.getfield 81, 3) := by decide +kernel
theorem b_287_68_1 : ov_ds ov_m287.2.1 68 [.bipush 9] = true := by decide +kernel
theorem d_287_70 : decode ov_m287.2.1 70 = .ok (.iaload, 1) := by decide +kernel
theorem d_287_71 : decode ov_m287.2.1 71 = .ok (.irem, 1) := by decide +kernel
theorem b_287_72_6 : ov_ds ov_m287.2.1 72 [.istore 5, .iconst 0, .istore 6, .aload_n 0, .iload_n 1, .iload_n 2] = true := by decide +kernel
theorem d_287_80 : decode ov_m287.2.1 80 = .ok (.invokevirtual 362, 3) := by decide +kernel
theorem d_287_83 : decode ov_m287.2.1 83 = .ok (.ifCond .eq 13, 3) := by decide +kernel
theorem b_287_96_4 : ov_ds ov_m287.2.1 96 [.iconst 1, .istore 7, .iconst 0, .istore 8] = true := by decide +kernel
theorem b_287_102_2 : ov_ds ov_m287.2.1 102 [.iload 8, .iload 7] = true := by decide +kernel
theorem d_287_106 : decode ov_m287.2.1 106 = .ok (.if_icmp .ge 77, 3) := by decide +kernel
theorem b_287_183_1 : ov_ds ov_m287.2.1 183 [.aload_n 0] = true := by decide +kernel
theorem d_287_184 : decode ov_m287.2.1 184 = .ok (.getfield 122, 3) := by decide +kernel
theorem b_287_187_3 : ov_ds ov_m287.2.1 187 [.iload 4, .iload 6, .iload 7] = true := by decide +kernel
theorem d_287_193 : decode ov_m287.2.1 193 = .ok (.idiv, 1) := by decide +kernel
theorem d_287_194 : decode ov_m287.2.1 194 = .ok (.iastore, 1) := by decide +kernel
theorem b_287_195_1 : ov_ds ov_m287.2.1 195 [.aload_n 0] = true := by decide +kernel
theorem d_287_196 : decode ov_m287.2.1 196 = .ok (.getfield 125, 3) := by decide +kernel
theorem b_287_199_2 : ov_ds ov_m287.2.1 199 [.iload 4, .aload_n 0] = true := by decide +kernel
theorem d_287_202 : decode ov_m287.2.1 202 = .ok (.getfield 405, 3) := by decide +kernel
theorem d_287_205 : decode ov_m287.2.1 205 = .ok (.iastore, 1) := by decide +kernel
theorem b_287_109_3 : ov_ds ov_m287.2.1 109 [.aload_n 0, .iload_n 1, .iload_n 2] = true := by decide +kernel
theorem d_287_112 : decode ov_m287.2.1 112 = .ok (.invokevirtual 362, 3) := by decide +kernel
theorem d_287_115 : decode ov_m287.2.1 115 = .ok (.ifCond .eq 8, 3) := by decide +kernel
theorem b_287_123_2 : ov_ds ov_m287.2.1 123 [.iload 5, .istore 9] = true := by decide +kernel
theorem b_287_127_5 : ov_ds ov_m287.2.1 127 [.aload_n 0, .iload_n 1, .iload_n 2, .iload 5, .iload 9] = true := by decide +kernel
theorem d_287_134 : decode ov_m287.2.1 134 = .ok (.invokevirtual 371, 3) := by decide +kernel
theorem b_287_137_17 : ov_ds ov_m287.2.1 137 [.istore 10, .iload 6, .aload_n 0, .iload_n 1, .iconst 1, .iadd, .iload 10, .isub, .iload_n 2, .iload 10, .iadd, .iload_n 3, .aload_n 0, .iload_n 1, .iload_n 2, .iload 10, .iload 9] = true := by decide +kernel
theorem d_287_160 : decode ov_m287.2.1 160 = .ok (.invokevirtual 315, 3) := by decide +kernel
theorem b_287_163_2 : ov_ds ov_m287.2.1 163 [.iadd, .aload_n 0] = true := by decide +kernel
theorem d_287_165 : decode ov_m287.2.1 165 = .ok (.getfield 81, 3) := by decide +kernel
theorem b_287_168_1 : ov_ds ov_m287.2.1 168 [.iconst 2] = true := by decide +kernel
theorem d_287_169 : decode ov_m287.2.1 169 = .ok (.iaload, 1) := by decide +kernel
theorem b_287_170_1 : ov_ds ov_m287.2.1 170 [.iadd] = true := by decide +kernel
theorem d_287_171 : decode ov_m287.2.1 171 = .ok (.invokevirtual 408, 3) := by decide +kernel
theorem b_287_174_1 : ov_ds ov_m287.2.1 174 [.iadd] = true := by decide +kernel
theorem b_287_175_2 : ov_ds ov_m287.2.1 175 [.istore 6, .iinc 8 1] = true := by decide +kernel
theorem d_287_180 : decode ov_m287.2.1 180 = .ok (.goto (-78), 3) := by decide +kernel
theorem b_287_86_4 : ov_ds ov_m287.2.1 86 [.aload_n 0, .iload_n 1, .iload_n 2, .iconst 1] = true := by decide +kernel
theorem d_287_90 : decode ov_m287.2.1 90 = .ok (.invokevirtual 289, 3) := by decide +kernel
theorem d_287_93 : decode ov_m287.2.1 93 = .ok (.goto 4, 3) := by decide +kernel
theorem b_287_97_3 : ov_ds ov_m287.2.1 97 [.istore 7, .iconst 0, .istore 8] = true := by decide +kernel
theorem b_287_118_1 : ov_ds ov_m287.2.1 118 [.iload 8] = true := by decide +kernel
theorem d_287_120 : decode ov_m287.2.1 120 = .ok (.goto 5, 3) := by decide +kernel
theorem b_287_125_1 : ov_ds ov_m287.2.1 125 [.istore 9] = true := by decide +kernel
theorem b_287_9_1 : ov_ds ov_m287.2.1 9 [.aload_n 0] = true := by decide +kernel
theorem d_287_10 : decode ov_m287.2.1 10 = .ok (.getfield 399, 3) := by decide +kernel
theorem b_287_13_3 : ov_ds ov_m287.2.1 13 [.iload_n 3, .iadd, .aload_n 0] = true := by decide +kernel
theorem d_287_16 : decode ov_m287.2.1 16 = .ok (.getfield 402, 3) := by decide +kernel
theorem d_287_19 : decode ov_m287.2.1 19 = .ok (.if_icmp .gt 9, 3) := by decide +kernel
theorem b_287_28_1 : ov_ds ov_m287.2.1 28 [.iconst 0] = true := by decide +kernel
theorem d_287_29 : decode ov_m287.2.1 29 = .ok (.ireturn, 1) := by decide +kernel
theorem d_287_22 : decode ov_m287.2.1 22 = .ok (.ldc_w 305, 3) := by decide +kernel
theorem d_287_25 : decode ov_m287.2.1 25 = .ok (.goto 4, 3) := by decide +kernel
theorem b_286_0_2 : ov_ds ov_m286.2.1 0 [.aload_n 0, .iconst 0] = true := by decide +kernel
theorem d_286_2 : decode ov_m286.2.1 2 = .ok (.putfield 1, 3) := by decide +kernel
theorem b_286_5_2 : ov_ds ov_m286.2.1 5 [.aload_n 0, .iload_n 1] = true := by decide +kernel
theorem d_286_7 : decode ov_m286.2.1 7 = .ok (.invokevirtual 383, 3) := by decide +kernel
theorem d_286_10 : decode ov_m286.2.1 10 = .ok (.ifCond .eq 19, 3) := by decide +kernel
theorem b_286_29_1 : ov_ds ov_m286.2.1 29 [.iconst (-1)] = true := by decide +kernel
theorem d_286_30 : decode ov_m286.2.1 30 = .ok (.ireturn, 1) := by decide +kernel
theorem b_286_13_2 : ov_ds ov_m286.2.1 13 [.aload_n 0, .iload_n 2] = true := by decide +kernel
theorem d_286_15 : decode ov_m286.2.1 15 = .ok (.invokevirtual 306, 3) := by decide +kernel
theorem d_286_18 : decode ov_m286.2.1 18 = .ok (.ifCond .eq 11, 3) := by decide +kernel
theorem b_286_21_2 : ov_ds ov_m286.2.1 21 [.aload_n 0, .iload_n 3] = true := by decide +kernel
theorem d_286_23 : decode ov_m286.2.1 23 = .ok (.invokevirtual 306, 3) := by decide +kernel
theorem d_286_26 : decode ov_m286.2.1 26 = .ok (.ifCond .ne 5, 3) := by decide +kernel
theorem b_286_31_5 : ov_ds ov_m286.2.1 31 [.aload_n 0, .iload_n 1, .iconst 0, .iconst (-1), .iconst 0] = true := by decide +kernel
theorem d_286_36 : decode ov_m286.2.1 36 = .ok (.invokevirtual 389, 3) := by decide +kernel
theorem b_286_39_4 : ov_ds ov_m286.2.1 39 [.aload_n 0, .iconst 0, .iconst 0, .iload_n 2] = true := by decide +kernel
theorem d_286_43 : decode ov_m286.2.1 43 = .ok (.invokevirtual 377, 3) := by decide +kernel
theorem d_286_46 : decode ov_m286.2.1 46 = .ok (.ifCond .ge 5, 3) := by decide +kernel
theorem b_286_51_2 : ov_ds ov_m286.2.1 51 [.aload_n 0, .dup] = true := by decide +kernel
theorem d_286_53 : decode ov_m286.2.1 53 = .ok (.getfield 405, 3) := by decide +kernel
theorem b_286_56_2 : ov_ds ov_m286.2.1 56 [.iconst 1, .iadd] = true := by decide +kernel
theorem d_286_58 : decode ov_m286.2.1 58 = .ok (.putfield 405, 3) := by decide +kernel
theorem b_286_61_2 : ov_ds ov_m286.2.1 61 [.aload_n 0, .iload_n 2] = true := by decide +kernel
theorem d_286_63 : decode ov_m286.2.1 63 = .ok (.putfield 399, 3) := by decide +kernel
theorem b_286_66_2 : ov_ds ov_m286.2.1 66 [.aload_n 0, .iload_n 3] = true := by decide +kernel
theorem d_286_68 : decode ov_m286.2.1 68 = .ok (.putfield 402, 3) := by decide +kernel
theorem b_286_71_4 : ov_ds ov_m286.2.1 71 [.aload_n 0, .iconst 0, .iconst 0, .iconst 0] = true := by decide +kernel
theorem d_286_75 : decode ov_m286.2.1 75 = .ok (.invokevirtual 408, 3) := by decide +kernel
theorem d_286_78 : decode ov_m286.2.1 78 = .ok (.ireturn, 1) := by decide +kernel
theorem b_286_49_1 : ov_ds ov_m286.2.1 49 [.iconst (-1)] = true := by decide +kernel
theorem d_286_50 : decode ov_m286.2.1 50 = .ok (.ireturn, 1) := by decide +kernel

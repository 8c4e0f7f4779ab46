theorem b_147_0_3 : ov_ds ov_m147.2.1 0 [.aload_n 0, .iconst 0, .iload_n 2] = true := by decide +kernel
theorem d_147_3 : decode ov_m147.2.1 3 = .ok (.invokevirtual 153, 3) := by decide +kernel
theorem b_147_6_2 : ov_ds ov_m147.2.1 6 [.istore_n 3, .aload_n 0] = true := by decide +kernel
theorem d_147_8 : decode ov_m147.2.1 8 = .ok (.getfield 28, 3) := by decide +kernel
theorem b_147_11_1 : ov_ds ov_m147.2.1 11 [.iconst 0] = true := by decide +kernel
theorem d_147_12 : decode ov_m147.2.1 12 = .ok (.iaload, 1) := by decide +kernel
theorem b_147_13_2 : ov_ds ov_m147.2.1 13 [.istore 4, .aload_n 0] = true := by decide +kernel
theorem d_147_16 : decode ov_m147.2.1 16 = .ok (.getfield 46, 3) := by decide +kernel
theorem d_147_19 : decode ov_m147.2.1 19 = .ok (.getfield 84, 3) := by decide +kernel
theorem b_147_22_1 : ov_ds ov_m147.2.1 22 [.iload_n 1] = true := by decide +kernel
theorem d_147_23 : decode ov_m147.2.1 23 = .ok (.iaload, 1) := by decide +kernel
theorem b_147_24_5 : ov_ds ov_m147.2.1 24 [.istore 5, .iload 5, .i2l, .iload 4, .i2l] = true := by decide +kernel
theorem d_147_32 : decode ov_m147.2.1 32 = .ok (.invokestatic 160, 3) := by decide +kernel
theorem b_147_35_1 : ov_ds ov_m147.2.1 35 [.l2i] = true := by decide +kernel
theorem b_147_36_3 : ov_ds ov_m147.2.1 36 [.istore 6, .iload 6, .iconst 1] = true := by decide +kernel
theorem d_147_41 : decode ov_m147.2.1 41 = .ok (.if_icmp .lt 9, 3) := by decide +kernel
theorem b_147_50_1 : ov_ds ov_m147.2.1 50 [.iconst 0] = true := by decide +kernel
theorem d_147_51 : decode ov_m147.2.1 51 = .ok (.ireturn, 1) := by decide +kernel
theorem b_147_44_2 : ov_ds ov_m147.2.1 44 [.iload 5, .iconst 1] = true := by decide +kernel
theorem d_147_47 : decode ov_m147.2.1 47 = .ok (.if_icmp .ge 5, 3) := by decide +kernel
theorem b_147_52_4 : ov_ds ov_m147.2.1 52 [.iconst 0, .istore 7, .aload_n 0, .dup] = true := by decide +kernel
theorem d_147_57 : decode ov_m147.2.1 57 = .ok (.getfield 35, 3) := by decide +kernel
theorem b_147_60_4 : ov_ds ov_m147.2.1 60 [.lconst 1, .iload_n 1, .lshl, .lor] = true := by decide +kernel
theorem d_147_64 : decode ov_m147.2.1 64 = .ok (.putfield 35, 3) := by decide +kernel
theorem b_147_67_1 : ov_ds ov_m147.2.1 67 [.aload_n 0] = true := by decide +kernel
theorem d_147_68 : decode ov_m147.2.1 68 = .ok (.invokevirtual 74, 3) := by decide +kernel
theorem b_147_71_2 : ov_ds ov_m147.2.1 71 [.iconst 0, .istore 8] = true := by decide +kernel
theorem b_147_74_2 : ov_ds ov_m147.2.1 74 [.iload 8, .iload 6] = true := by decide +kernel
theorem d_147_78 : decode ov_m147.2.1 78 = .ok (.if_icmp .ge 61, 3) := by decide +kernel
theorem b_147_139_2 : ov_ds ov_m147.2.1 139 [.aload_n 0, .dup] = true := by decide +kernel
theorem d_147_141 : decode ov_m147.2.1 141 = .ok (.getfield 35, 3) := by decide +kernel
theorem b_147_144_3 : ov_ds ov_m147.2.1 144 [.lconst 1, .iload_n 1, .lshl] = true := by decide +kernel
theorem d_147_147 : decode ov_m147.2.1 147 = .ok (.ldc2_w 167, 3) := by decide +kernel
theorem b_147_150_2 : ov_ds ov_m147.2.1 150 [.lxor, .land] = true := by decide +kernel
theorem d_147_152 : decode ov_m147.2.1 152 = .ok (.putfield 35, 3) := by decide +kernel
theorem b_147_155_1 : ov_ds ov_m147.2.1 155 [.aload_n 0] = true := by decide +kernel
theorem d_147_156 : decode ov_m147.2.1 156 = .ok (.invokevirtual 74, 3) := by decide +kernel
theorem b_147_159_1 : ov_ds ov_m147.2.1 159 [.aload_n 0] = true := by decide +kernel
theorem d_147_160 : decode ov_m147.2.1 160 = .ok (.getfield 21, 3) := by decide +kernel
theorem b_147_163_2 : ov_ds ov_m147.2.1 163 [.iload_n 1, .iconst 0] = true := by decide +kernel
theorem d_147_165 : decode ov_m147.2.1 165 = .ok (.iastore, 1) := by decide +kernel
theorem b_147_166_1 : ov_ds ov_m147.2.1 166 [.aload_n 0] = true := by decide +kernel
theorem d_147_167 : decode ov_m147.2.1 167 = .ok (.getfield 12, 3) := by decide +kernel
theorem b_147_170_1 : ov_ds ov_m147.2.1 170 [.iload_n 1] = true := by decide +kernel
theorem d_147_171 : decode ov_m147.2.1 171 = .ok (.invokevirtual 164, 3) := by decide +kernel
theorem b_147_174_3 : ov_ds ov_m147.2.1 174 [.iload_n 3, .iload 7, .iload 5] = true := by decide +kernel
theorem d_147_179 : decode ov_m147.2.1 179 = .ok (.idiv, 1) := by decide +kernel
theorem b_147_180_1 : ov_ds ov_m147.2.1 180 [.isub] = true := by decide +kernel
theorem d_147_181 : decode ov_m147.2.1 181 = .ok (.ireturn, 1) := by decide +kernel
theorem b_147_81_1 : ov_ds ov_m147.2.1 81 [.aload_n 0] = true := by decide +kernel
theorem d_147_82 : decode ov_m147.2.1 82 = .ok (.getfield 21, 3) := by decide +kernel
theorem b_147_85_2 : ov_ds ov_m147.2.1 85 [.iload_n 1, .iload 8] = true := by decide +kernel
theorem d_147_88 : decode ov_m147.2.1 88 = .ok (.iastore, 1) := by decide +kernel
theorem b_147_89_1 : ov_ds ov_m147.2.1 89 [.aload_n 0] = true := by decide +kernel
theorem d_147_90 : decode ov_m147.2.1 90 = .ok (.getfield 12, 3) := by decide +kernel
theorem b_147_93_1 : ov_ds ov_m147.2.1 93 [.iload_n 1] = true := by decide +kernel
theorem d_147_94 : decode ov_m147.2.1 94 = .ok (.invokevirtual 164, 3) := by decide +kernel
theorem b_147_97_2 : ov_ds ov_m147.2.1 97 [.iconst 0, .istore 9] = true := by decide +kernel
theorem b_147_100_3 : ov_ds ov_m147.2.1 100 [.iload 9, .iload 5, .iload 6] = true := by decide +kernel
theorem d_147_106 : decode ov_m147.2.1 106 = .ok (.idiv, 1) := by decide +kernel
theorem d_147_107 : decode ov_m147.2.1 107 = .ok (.if_icmp .ge 26, 3) := by decide +kernel
theorem b_147_133_1 : ov_ds ov_m147.2.1 133 [.iinc 8 1] = true := by decide +kernel
theorem d_147_136 : decode ov_m147.2.1 136 = .ok (.goto (-62), 3) := by decide +kernel
theorem b_147_110_7 : ov_ds ov_m147.2.1 110 [.iload 7, .aload_n 0, .iconst 0, .iload_n 2, .iload 9, .iload 4, .imul] = true := by decide +kernel
theorem b_147_120_1 : ov_ds ov_m147.2.1 120 [.iadd] = true := by decide +kernel
theorem d_147_121 : decode ov_m147.2.1 121 = .ok (.invokevirtual 153, 3) := by decide +kernel
theorem b_147_124_1 : ov_ds ov_m147.2.1 124 [.iadd] = true := by decide +kernel
theorem b_147_125_2 : ov_ds ov_m147.2.1 125 [.istore 7, .iinc 9 1] = true := by decide +kernel
theorem d_147_130 : decode ov_m147.2.1 130 = .ok (.goto (-30), 3) := by decide +kernel
theorem b_157_0_6 : ov_ds ov_m157.2.1 0 [.iconst (-1), .istore_n 2, .iconst 0, .istore_n 3, .iconst 0, .istore 4] = true := by decide +kernel
theorem b_157_7_2 : ov_ds ov_m157.2.1 7 [.iload 4, .bipush 54] = true := by decide +kernel
theorem d_157_11 : decode ov_m157.2.1 11 = .ok (.if_icmp .ge 44, 3) := by decide +kernel
theorem b_157_55_1 : ov_ds ov_m157.2.1 55 [.iload_n 2] = true := by decide +kernel
theorem d_157_56 : decode ov_m157.2.1 56 = .ok (.ireturn, 1) := by decide +kernel
theorem b_157_14_2 : ov_ds ov_m157.2.1 14 [.aload_n 0, .iload 4] = true := by decide +kernel
theorem d_157_17 : decode ov_m157.2.1 17 = .ok (.invokevirtual 81, 3) := by decide +kernel
theorem d_157_20 : decode ov_m157.2.1 20 = .ok (.ifCond .eq 29, 3) := by decide +kernel
theorem b_157_49_1 : ov_ds ov_m157.2.1 49 [.iinc 4 1] = true := by decide +kernel
theorem d_157_52 : decode ov_m157.2.1 52 = .ok (.goto (-45), 3) := by decide +kernel
theorem b_157_23_3 : ov_ds ov_m157.2.1 23 [.aload_n 0, .iload 4, .iload_n 1] = true := by decide +kernel
theorem d_157_27 : decode ov_m157.2.1 27 = .ok (.invokevirtual 169, 3) := by decide +kernel
theorem b_157_30_3 : ov_ds ov_m157.2.1 30 [.istore 5, .iload_n 2, .iconst (-1)] = true := by decide +kernel
theorem d_157_34 : decode ov_m157.2.1 34 = .ok (.if_icmp .eq 9, 3) := by decide +kernel
theorem b_157_43_5 : ov_ds ov_m157.2.1 43 [.iload 4, .istore_n 2, .iload 5, .istore_n 3, .iinc 4 1] = true := by decide +kernel
theorem b_157_37_2 : ov_ds ov_m157.2.1 37 [.iload 5, .iload_n 3] = true := by decide +kernel
theorem d_157_40 : decode ov_m157.2.1 40 = .ok (.if_icmp .le 9, 3) := by decide +kernel
theorem b_163_0_3 : ov_ds ov_m163.2.1 0 [.aload_n 0, .iload_n 1, .aload_n 0] = true := by decide +kernel
theorem d_163_3 : decode ov_m163.2.1 3 = .ok (.getfield 172, 3) := by decide +kernel
theorem b_163_6_2 : ov_ds ov_m163.2.1 6 [.iload_n 2, .iadd] = true := by decide +kernel
theorem b_163_8_1 : ov_ds ov_m163.2.1 8 [.iload_n 3] = true := by decide +kernel
theorem d_163_9 : decode ov_m163.2.1 9 = .ok (.invokevirtual 194, 3) := by decide +kernel
theorem b_163_12_3 : ov_ds ov_m163.2.1 12 [.istore 4, .iload 4, .iconst (-1)] = true := by decide +kernel
theorem d_163_17 : decode ov_m163.2.1 17 = .ok (.if_icmp .ne 5, 3) := by decide +kernel
theorem b_163_22_1 : ov_ds ov_m163.2.1 22 [.aload_n 0] = true := by decide +kernel
theorem d_163_23 : decode ov_m163.2.1 23 = .ok (.getfield 46, 3) := by decide +kernel
theorem b_163_26_3 : ov_ds ov_m163.2.1 26 [.iload_n 1, .iload 4, .iload_n 3] = true := by decide +kernel
theorem d_163_30 : decode ov_m163.2.1 30 = .ok (.invokevirtual 114, 3) := by decide +kernel
theorem b_163_33_1 : ov_ds ov_m163.2.1 33 [.aload_n 0] = true := by decide +kernel
theorem d_163_34 : decode ov_m163.2.1 34 = .ok (.getfield 64, 3) := by decide +kernel
theorem b_163_37_1 : ov_ds ov_m163.2.1 37 [.iadd] = true := by decide +kernel
theorem b_163_38_3 : ov_ds ov_m163.2.1 38 [.istore 5, .aload_n 0, .aload_n 0] = true := by decide +kernel
theorem d_163_42 : decode ov_m163.2.1 42 = .ok (.getfield 46, 3) := by decide +kernel
theorem b_163_45_2 : ov_ds ov_m163.2.1 45 [.iload_n 1, .iload 4] = true := by decide +kernel
theorem d_163_48 : decode ov_m163.2.1 48 = .ok (.invokevirtual 91, 3) := by decide +kernel
theorem b_163_51_3 : ov_ds ov_m163.2.1 51 [.iload_n 2, .iload 5, .iadd] = true := by decide +kernel
theorem d_163_55 : decode ov_m163.2.1 55 = .ok (.invokevirtual 184, 3) := by decide +kernel
theorem d_163_58 : decode ov_m163.2.1 58 = .ok (.ireturn, 1) := by decide +kernel
theorem b_163_20_1 : ov_ds ov_m163.2.1 20 [.iconst 0] = true := by decide +kernel
theorem d_163_21 : decode ov_m163.2.1 21 = .ok (.ireturn, 1) := by decide +kernel
theorem b_162_0_1 : ov_ds ov_m162.2.1 0 [.aload_n 0] = true := by decide +kernel
theorem d_162_1 : decode ov_m162.2.1 1 = .ok (.getfield 46, 3) := by decide +kernel
theorem d_162_4 : decode ov_m162.2.1 4 = .ok (.getfield 84, 3) := by decide +kernel
theorem b_162_7_1 : ov_ds ov_m162.2.1 7 [.iload_n 1] = true := by decide +kernel
theorem d_162_8 : decode ov_m162.2.1 8 = .ok (.iaload, 1) := by decide +kernel
theorem b_162_9_5 : ov_ds ov_m162.2.1 9 [.istore_n 3, .iconst 0, .istore 4, .iconst 0, .istore 5] = true := by decide +kernel
theorem b_162_16_2 : ov_ds ov_m162.2.1 16 [.iload 5, .iload_n 3] = true := by decide +kernel
theorem d_162_19 : decode ov_m162.2.1 19 = .ok (.if_icmp .ge 22, 3) := by decide +kernel
theorem b_162_41_2 : ov_ds ov_m162.2.1 41 [.iload_n 3, .iconst 1] = true := by decide +kernel
theorem d_162_43 : decode ov_m162.2.1 43 = .ok (.if_icmp .ge 7, 3) := by decide +kernel
theorem b_162_50_2 : ov_ds ov_m162.2.1 50 [.iload 4, .iload_n 3] = true := by decide +kernel
theorem d_162_53 : decode ov_m162.2.1 53 = .ok (.idiv, 1) := by decide +kernel
theorem d_162_54 : decode ov_m162.2.1 54 = .ok (.ireturn, 1) := by decide +kernel
theorem b_162_46_1 : ov_ds ov_m162.2.1 46 [.iconst 0] = true := by decide +kernel
theorem d_162_47 : decode ov_m162.2.1 47 = .ok (.goto 7, 3) := by decide +kernel
theorem b_162_22_5 : ov_ds ov_m162.2.1 22 [.iload 4, .aload_n 0, .iload_n 1, .iload_n 2, .iload 5] = true := by decide +kernel
theorem d_162_29 : decode ov_m162.2.1 29 = .ok (.invokevirtual 191, 3) := by decide +kernel
theorem b_162_32_1 : ov_ds ov_m162.2.1 32 [.iadd] = true := by decide +kernel
theorem b_162_33_2 : ov_ds ov_m162.2.1 33 [.istore 4, .iinc 5 1] = true := by decide +kernel
theorem d_162_38 : decode ov_m162.2.1 38 = .ok (.goto (-22), 3) := by decide +kernel
theorem b_161_0_1 : ov_ds ov_m161.2.1 0 [.aload_n 0] = true := by decide +kernel
theorem d_161_1 : decode ov_m161.2.1 1 = .ok (.getfield 172, 3) := by decide +kernel
theorem b_161_4_2 : ov_ds ov_m161.2.1 4 [.iload_n 2, .iadd] = true := by decide +kernel
theorem b_161_6_1 : ov_ds ov_m161.2.1 6 [.aload_n 0] = true := by decide +kernel
theorem d_161_7 : decode ov_m161.2.1 7 = .ok (.getfield 175, 3) := by decide +kernel
theorem d_161_10 : decode ov_m161.2.1 10 = .ok (.if_icmp .gt 11, 3) := by decide +kernel
theorem b_161_21_1 : ov_ds ov_m161.2.1 21 [.iconst 0] = true := by decide +kernel
theorem d_161_22 : decode ov_m161.2.1 22 = .ok (.ireturn, 1) := by decide +kernel
theorem b_161_13_2 : ov_ds ov_m161.2.1 13 [.iload_n 2, .aload_n 0] = true := by decide +kernel
theorem d_161_15 : decode ov_m161.2.1 15 = .ok (.getfield 181, 3) := by decide +kernel
theorem d_161_18 : decode ov_m161.2.1 18 = .ok (.if_icmp .lt 5, 3) := by decide +kernel
theorem b_161_23_2 : ov_ds ov_m161.2.1 23 [.iload_n 1, .aload_n 0] = true := by decide +kernel
theorem d_161_25 : decode ov_m161.2.1 25 = .ok (.getfield 59, 3) := by decide +kernel
theorem d_161_28 : decode ov_m161.2.1 28 = .ok (.if_icmp .ne 6, 3) := by decide +kernel
theorem b_161_34_2 : ov_ds ov_m161.2.1 34 [.iload_n 1, .aload_n 0] = true := by decide +kernel
theorem d_161_36 : decode ov_m161.2.1 36 = .ok (.getfield 181, 3) := by decide +kernel
theorem b_161_39_1 : ov_ds ov_m161.2.1 39 [.imul] = true := by decide +kernel
theorem b_161_40_2 : ov_ds ov_m161.2.1 40 [.iload_n 2, .iadd] = true := by decide +kernel
theorem b_161_42_2 : ov_ds ov_m161.2.1 42 [.istore_n 3, .aload_n 0] = true := by decide +kernel
theorem d_161_44 : decode ov_m161.2.1 44 = .ok (.getfield 18, 3) := by decide +kernel
theorem b_161_47_2 : ov_ds ov_m161.2.1 47 [.iload_n 1, .iload_n 3] = true := by decide +kernel
theorem d_161_49 : decode ov_m161.2.1 49 = .ok (.invokevirtual 101, 3) := by decide +kernel
theorem d_161_52 : decode ov_m161.2.1 52 = .ok (.ifCond .eq 12, 3) := by decide +kernel
theorem b_161_64_2 : ov_ds ov_m161.2.1 64 [.aload_n 0, .iload_n 1] = true := by decide +kernel
theorem d_161_66 : decode ov_m161.2.1 66 = .ok (.invokevirtual 81, 3) := by decide +kernel
theorem d_161_69 : decode ov_m161.2.1 69 = .ok (.ifCond .eq 12, 3) := by decide +kernel
theorem b_161_81_4 : ov_ds ov_m161.2.1 81 [.aload_n 0, .iload_n 1, .iload_n 2, .aload_n 0] = true := by decide +kernel
theorem d_161_85 : decode ov_m161.2.1 85 = .ok (.getfield 172, 3) := by decide +kernel
theorem b_161_88_2 : ov_ds ov_m161.2.1 88 [.iload_n 2, .iadd] = true := by decide +kernel
theorem d_161_90 : decode ov_m161.2.1 90 = .ok (.invokevirtual 191, 3) := by decide +kernel
theorem b_161_93_2 : ov_ds ov_m161.2.1 93 [.istore 4, .aload_n 0] = true := by decide +kernel
theorem d_161_96 : decode ov_m161.2.1 96 = .ok (.getfield 18, 3) := by decide +kernel
theorem b_161_99_3 : ov_ds ov_m161.2.1 99 [.iload_n 1, .iload_n 3, .iload 4] = true := by decide +kernel
theorem d_161_103 : decode ov_m161.2.1 103 = .ok (.invokevirtual 122, 3) := by decide +kernel
theorem b_161_106_1 : ov_ds ov_m161.2.1 106 [.iload 4] = true := by decide +kernel
theorem d_161_108 : decode ov_m161.2.1 108 = .ok (.ireturn, 1) := by decide +kernel
theorem b_161_72_3 : ov_ds ov_m161.2.1 72 [.aload_n 0, .iload_n 1, .iload_n 2] = true := by decide +kernel
theorem d_161_75 : decode ov_m161.2.1 75 = .ok (.invokevirtual 188, 3) := by decide +kernel
theorem d_161_78 : decode ov_m161.2.1 78 = .ok (.goto 15, 3) := by decide +kernel
theorem b_161_55_1 : ov_ds ov_m161.2.1 55 [.aload_n 0] = true := by decide +kernel
theorem d_161_56 : decode ov_m161.2.1 56 = .ok (.getfield 18, 3) := by decide +kernel
theorem b_161_59_1 : ov_ds ov_m161.2.1 59 [.iload_n 3] = true := by decide +kernel
theorem d_161_60 : decode ov_m161.2.1 60 = .ok (.invokevirtual 104, 3) := by decide +kernel
theorem d_161_63 : decode ov_m161.2.1 63 = .ok (.ireturn, 1) := by decide +kernel
theorem d_161_31 : decode ov_m161.2.1 31 = .ok (.ldc 187, 2) := by decide +kernel
theorem d_161_33 : decode ov_m161.2.1 33 = .ok (.ireturn, 1) := by decide +kernel
theorem b_159_0_2 : ov_ds ov_m159.2.1 0 [.aload_n 0, .iload_n 1] = true := by decide +kernel
theorem d_159_2 : decode ov_m159.2.1 2 = .ok (.putfield 172, 3) := by decide +kernel
theorem b_159_5_2 : ov_ds ov_m159.2.1 5 [.aload_n 0, .iload_n 2] = true := by decide +kernel
theorem d_159_7 : decode ov_m159.2.1 7 = .ok (.putfield 175, 3) := by decide +kernel
theorem b_159_10_2 : ov_ds ov_m159.2.1 10 [.aload_n 0, .aload_n 0] = true := by decide +kernel
theorem d_159_12 : decode ov_m159.2.1 12 = .ok (.getfield 46, 3) := by decide +kernel
theorem d_159_15 : decode ov_m159.2.1 15 = .ok (.invokevirtual 178, 3) := by decide +kernel
theorem b_159_18_2 : ov_ds ov_m159.2.1 18 [.iconst 1, .iadd] = true := by decide +kernel
theorem d_159_20 : decode ov_m159.2.1 20 = .ok (.putfield 181, 3) := by decide +kernel
theorem b_159_23_1 : ov_ds ov_m159.2.1 23 [.aload_n 0] = true := by decide +kernel
theorem d_159_24 : decode ov_m159.2.1 24 = .ok (.getfield 18, 3) := by decide +kernel
theorem b_159_27_1 : ov_ds ov_m159.2.1 27 [.aload_n 0] = true := by decide +kernel
theorem d_159_28 : decode ov_m159.2.1 28 = .ok (.getfield 59, 3) := by decide +kernel
theorem b_159_31_3 : ov_ds ov_m159.2.1 31 [.iconst 1, .iadd, .aload_n 0] = true := by decide +kernel
theorem d_159_34 : decode ov_m159.2.1 34 = .ok (.getfield 181, 3) := by decide +kernel
theorem b_159_37_1 : ov_ds ov_m159.2.1 37 [.imul] = true := by decide +kernel
theorem d_159_38 : decode ov_m159.2.1 38 = .ok (.invokevirtual 70, 3) := by decide +kernel
theorem b_159_41_3 : ov_ds ov_m159.2.1 41 [.aload_n 0, .iconst 0, .iconst 0] = true := by decide +kernel
theorem d_159_44 : decode ov_m159.2.1 44 = .ok (.invokevirtual 184, 3) := by decide +kernel
theorem d_159_47 : decode ov_m159.2.1 47 = .ok (.ireturn, 1) := by decide +kernel
theorem b_194_0_4 : ov_ds ov_m194.2.1 0 [.lload_n 1, .lstore_n 3, .iconst 0, .istore 5] = true := by decide +kernel
theorem b_194_5_2 : ov_ds ov_m194.2.1 5 [.iload 5, .bipush 54] = true := by decide +kernel
theorem d_194_9 : decode ov_m194.2.1 9 = .ok (.if_icmp .ge 66, 3) := by decide +kernel
theorem b_194_75_1 : ov_ds ov_m194.2.1 75 [.lload_n 3] = true := by decide +kernel
theorem d_194_76 : decode ov_m194.2.1 76 = .ok (.lreturn, 1) := by decide +kernel
theorem b_194_12_1 : ov_ds ov_m194.2.1 12 [.aload_n 0] = true := by decide +kernel
theorem d_194_13 : decode ov_m194.2.1 13 = .ok (.getfield 25, 3) := by decide +kernel
theorem b_194_16_2 : ov_ds ov_m194.2.1 16 [.iload 5, .iconst 0] = true := by decide +kernel
theorem d_194_19 : decode ov_m194.2.1 19 = .ok (.iastore, 1) := by decide +kernel
theorem b_194_20_2 : ov_ds ov_m194.2.1 20 [.aload_n 0, .iload 5] = true := by decide +kernel
theorem d_194_23 : decode ov_m194.2.1 23 = .ok (.invokevirtual 81, 3) := by decide +kernel
theorem d_194_26 : decode ov_m194.2.1 26 = .ok (.ifCond .eq 43, 3) := by decide +kernel
theorem b_194_69_1 : ov_ds ov_m194.2.1 69 [.iinc 5 1] = true := by decide +kernel
theorem d_194_72 : decode ov_m194.2.1 72 = .ok (.goto (-67), 3) := by decide +kernel
theorem b_194_29_1 : ov_ds ov_m194.2.1 29 [.lload_n 3] = true := by decide +kernel
theorem d_194_30 : decode ov_m194.2.1 30 = .ok (.ldc2_w 210, 3) := by decide +kernel
theorem b_194_33_1 : ov_ds ov_m194.2.1 33 [.lmul] = true := by decide +kernel
theorem d_194_34 : decode ov_m194.2.1 34 = .ok (.ldc2_w 212, 3) := by decide +kernel
theorem b_194_37_1 : ov_ds ov_m194.2.1 37 [.ladd] = true := by decide +kernel
theorem d_194_38 : decode ov_m194.2.1 38 = .ok (.ldc2_w 214, 3) := by decide +kernel
theorem b_194_41_1 : ov_ds ov_m194.2.1 41 [.land] = true := by decide +kernel
theorem b_194_42_2 : ov_ds ov_m194.2.1 42 [.lstore_n 3, .aload_n 0] = true := by decide +kernel
theorem d_194_44 : decode ov_m194.2.1 44 = .ok (.getfield 25, 3) := by decide +kernel
theorem b_194_47_2 : ov_ds ov_m194.2.1 47 [.iload 5, .lload_n 3] = true := by decide +kernel
theorem d_194_50 : decode ov_m194.2.1 50 = .ok (.ldc2_w 216, 3) := by decide +kernel
theorem d_194_53 : decode ov_m194.2.1 53 = .ok (.ldiv, 1) := by decide +kernel
theorem b_194_54_1 : ov_ds ov_m194.2.1 54 [.l2i] = true := by decide +kernel
theorem b_194_55_1 : ov_ds ov_m194.2.1 55 [.aload_n 0] = true := by decide +kernel
theorem d_194_56 : decode ov_m194.2.1 56 = .ok (.getfield 46, 3) := by decide +kernel
theorem d_194_59 : decode ov_m194.2.1 59 = .ok (.getfield 84, 3) := by decide +kernel
theorem b_194_62_1 : ov_ds ov_m194.2.1 62 [.iload 5] = true := by decide +kernel
theorem d_194_64 : decode ov_m194.2.1 64 = .ok (.iaload, 1) := by decide +kernel
theorem d_194_65 : decode ov_m194.2.1 65 = .ok (.invokestatic 218, 3) := by decide +kernel
theorem d_194_68 : decode ov_m194.2.1 68 = .ok (.iastore, 1) := by decide +kernel
theorem b_195_0_6 : ov_ds ov_m195.2.1 0 [.iconst 0, .istore_n 1, .iconst 0, .istore_n 2, .iconst 0, .istore_n 3] = true := by decide +kernel
theorem b_195_6_2 : ov_ds ov_m195.2.1 6 [.iload_n 3, .bipush 13] = true := by decide +kernel
theorem d_195_9 : decode ov_m195.2.1 9 = .ok (.if_icmp .ge 76, 3) := by decide +kernel
theorem b_195_85_1 : ov_ds ov_m195.2.1 85 [.iload_n 2] = true := by decide +kernel
theorem d_195_86 : decode ov_m195.2.1 86 = .ok (.ireturn, 1) := by decide +kernel
theorem b_195_12_2 : ov_ds ov_m195.2.1 12 [.iload_n 1, .aload_n 0] = true := by decide +kernel
theorem d_195_14 : decode ov_m195.2.1 14 = .ok (.getfield 59, 3) := by decide +kernel
theorem d_195_17 : decode ov_m195.2.1 17 = .ok (.if_icmp .eq 68, 3) := by decide +kernel
theorem b_195_20_2 : ov_ds ov_m195.2.1 20 [.iload_n 2, .aload_n 0] = true := by decide +kernel
theorem d_195_22 : decode ov_m195.2.1 22 = .ok (.getfield 25, 3) := by decide +kernel
theorem b_195_25_1 : ov_ds ov_m195.2.1 25 [.iload_n 1] = true := by decide +kernel
theorem d_195_26 : decode ov_m195.2.1 26 = .ok (.iaload, 1) := by decide +kernel
theorem b_195_27_1 : ov_ds ov_m195.2.1 27 [.iadd] = true := by decide +kernel
theorem b_195_28_5 : ov_ds ov_m195.2.1 28 [.istore 4, .aload_n 0, .iload_n 1, .iload_n 2, .iload 4] = true := by decide +kernel
theorem d_195_35 : decode ov_m195.2.1 35 = .ok (.invokevirtual 194, 3) := by decide +kernel
theorem b_195_38_3 : ov_ds ov_m195.2.1 38 [.istore 5, .iload 5, .iconst (-1)] = true := by decide +kernel
theorem d_195_43 : decode ov_m195.2.1 43 = .ok (.if_icmp .ne 5, 3) := by decide +kernel
theorem b_195_48_2 : ov_ds ov_m195.2.1 48 [.iload_n 2, .aload_n 0] = true := by decide +kernel
theorem d_195_50 : decode ov_m195.2.1 50 = .ok (.getfield 46, 3) := by decide +kernel
theorem b_195_53_3 : ov_ds ov_m195.2.1 53 [.iload_n 1, .iload 5, .iload 4] = true := by decide +kernel
theorem d_195_58 : decode ov_m195.2.1 58 = .ok (.invokevirtual 114, 3) := by decide +kernel
theorem b_195_61_1 : ov_ds ov_m195.2.1 61 [.aload_n 0] = true := by decide +kernel
theorem d_195_62 : decode ov_m195.2.1 62 = .ok (.getfield 64, 3) := by decide +kernel
theorem b_195_65_1 : ov_ds ov_m195.2.1 65 [.iadd] = true := by decide +kernel
theorem b_195_66_1 : ov_ds ov_m195.2.1 66 [.iadd] = true := by decide +kernel
theorem b_195_67_2 : ov_ds ov_m195.2.1 67 [.istore_n 2, .aload_n 0] = true := by decide +kernel
theorem d_195_69 : decode ov_m195.2.1 69 = .ok (.getfield 46, 3) := by decide +kernel
theorem b_195_72_2 : ov_ds ov_m195.2.1 72 [.iload_n 1, .iload 5] = true := by decide +kernel
theorem d_195_75 : decode ov_m195.2.1 75 = .ok (.invokevirtual 91, 3) := by decide +kernel
theorem b_195_78_2 : ov_ds ov_m195.2.1 78 [.istore_n 1, .iinc 3 1] = true := by decide +kernel
theorem d_195_82 : decode ov_m195.2.1 82 = .ok (.goto (-76), 3) := by decide +kernel
theorem b_195_46_1 : ov_ds ov_m195.2.1 46 [.iload_n 2] = true := by decide +kernel
theorem d_195_47 : decode ov_m195.2.1 47 = .ok (.ireturn, 1) := by decide +kernel
theorem b_193_0_2 : ov_ds ov_m193.2.1 0 [.aload_n 0, .iconst 0] = true := by decide +kernel
theorem d_193_2 : decode ov_m193.2.1 2 = .ok (.putfield 197, 3) := by decide +kernel
theorem b_193_5_2 : ov_ds ov_m193.2.1 5 [.aload_n 0, .iconst 0] = true := by decide +kernel
theorem d_193_7 : decode ov_m193.2.1 7 = .ok (.putfield 200, 3) := by decide +kernel
theorem b_193_10_5 : ov_ds ov_m193.2.1 10 [.iload_n 1, .i2l, .lstore_n 3, .iconst 0, .istore 5] = true := by decide +kernel
theorem b_193_16_2 : ov_ds ov_m193.2.1 16 [.iload 5, .iload_n 2] = true := by decide +kernel
theorem d_193_19 : decode ov_m193.2.1 19 = .ok (.if_icmp .ge 45, 3) := by decide +kernel
theorem d_193_64 : decode ov_m193.2.1 64 = .ok (.return_, 1) := by decide +kernel
theorem b_193_22_2 : ov_ds ov_m193.2.1 22 [.aload_n 0, .lload_n 3] = true := by decide +kernel
theorem d_193_24 : decode ov_m193.2.1 24 = .ok (.invokevirtual 203, 3) := by decide +kernel
theorem b_193_27_2 : ov_ds ov_m193.2.1 27 [.lstore_n 3, .aload_n 0] = true := by decide +kernel
theorem d_193_29 : decode ov_m193.2.1 29 = .ok (.invokevirtual 207, 3) := by decide +kernel
theorem b_193_32_3 : ov_ds ov_m193.2.1 32 [.istore 6, .aload_n 0, .dup] = true := by decide +kernel
theorem d_193_36 : decode ov_m193.2.1 36 = .ok (.getfield 197, 3) := by decide +kernel
theorem b_193_39_2 : ov_ds ov_m193.2.1 39 [.iload 6, .iadd] = true := by decide +kernel
theorem d_193_42 : decode ov_m193.2.1 42 = .ok (.putfield 197, 3) := by decide +kernel
theorem b_193_45_2 : ov_ds ov_m193.2.1 45 [.aload_n 0, .aload_n 0] = true := by decide +kernel
theorem d_193_47 : decode ov_m193.2.1 47 = .ok (.getfield 200, 3) := by decide +kernel
theorem b_193_50_1 : ov_ds ov_m193.2.1 50 [.iload 6] = true := by decide +kernel
theorem d_193_52 : decode ov_m193.2.1 52 = .ok (.invokestatic 129, 3) := by decide +kernel
theorem d_193_55 : decode ov_m193.2.1 55 = .ok (.putfield 200, 3) := by decide +kernel
theorem b_193_58_1 : ov_ds ov_m193.2.1 58 [.iinc 5 1] = true := by decide +kernel
theorem d_193_61 : decode ov_m193.2.1 61 = .ok (.goto (-45), 3) := by decide +kernel
abbrev P_Goers_worthOfWatching_36_k36_8_58 (F : ov_H) (z : ov_Z) (h : ov_H) (c : Int) (s : Int) : Option ov_V → ov_Z → ov_H → Prop := fun r0 z' h' => ∃ r : Int, r0 = some (ov_i r) ∧ ov_I F z' h' ∧ (-2147483648 ≤ r ∧ r ≤ 2147483647 ∧ (h' 36 7) = (h 36 7) ∧ (h' 1 1) = (h 1 1) ∧ (h' 90 2) = (h 90 2) ∧ (h' 0 10) = (h 0 10) ∧ (h' 0 11) = (h 0 11) ∧ (h' 0 12) = (h 0 12) ∧ (h' 0 13) = (h 0 13) ∧ (h' 3 1) = (h 3 1) ∧ (h' 36 8) = (h 36 8) ∧ (h' 46 3) = (h 46 3) ∧ (h' 46 4) = (h 46 4) ∧ (h' 49 4) = (h 49 4) ∧ (h' 49 5) = (h 49 5) ∧ (h' 64 0) = (h 64 0) ∧ (h' 76 0) = (h 76 0))
set_option maxHeartbeats 4000000 in
theorem c_Goers_worthOfWatching_36_k36_8_58 {u : ov_U} {F : ov_H} {z : ov_Z} {h : ov_H} (d : Nat) (hd : 300 ≤ d) (U : ov_cap u) (I : ov_I F z h) (hw : ov_kw 590295810358705651712 F) (c : Int) (s : Int) (k0 : h 36 8 = 58) (g_c : ov_g c) (g_s : ov_g s) (p0 : 0 ≤ c ∧ c ≤ 53) (p1 : F (-5) 58 = 1) : ov_T u d ov_m147 [ov_r 36, ov_i c, ov_i s] z h (P_Goers_worthOfWatching_36_k36_8_58 F z h c s) := by
  refine ov_en rfl (Nat.le_of_ble_eq_true rfl) ?_
  show ov_R u d ov_m147 0 [(0, ov_r 36), (1, ov_i c), (2, ov_i s)] [] z h (P_Goers_worthOfWatching_36_k36_8_58 F z h c s)
  refine ov_blk (ls2 := [(0, ov_r 36), (1, ov_i c), (2, ov_i s)]) (st2 := [ov_i s, ov_i 0, ov_r 36]) (pc2 := 3) b_147_0_3 rfl rfl ?_
  refine ov_cV (as := [ov_i 0, ov_i s]) (st := []) (d2 := d - 1) d_147_3 lk_Goers_153 rfl (Nat.le_of_ble_eq_true rfl) (c := 2) (zb_36 I) (zs_36 I) ⟨by decide, rfl⟩ (by omega) (c_Goers_valueAt_36_k36_8_58_all (Int.toNat (53 - (0))) (d - 1) (by omega) U I (ov_kws hw (by decide +kernel)) 0 s k0 (by omega) (by omega) (by omega) (by omega)) ?_
  rintro _ z3 h4 ⟨v2, rfl, I5, f1⟩
  show ov_R u d ov_m147 6 [(0, ov_r 36), (1, ov_i c), (2, ov_i s)] [ov_i v2] z3 h4 (P_Goers_worthOfWatching_36_k36_8_58 F z h c s)
  have f6 : -2147483648 ≤ v2 ∧ v2 ≤ 2147483647 ∧ (h4 36 7) = (h 36 7) ∧ (h4 1 1) = (h 1 1) ∧ (h4 90 2) = (h 90 2) ∧ (h4 0 10) = (h 0 10) ∧ (h4 0 11) = (h 0 11) ∧ (h4 0 12) = (h 0 12) ∧ (h4 0 13) = (h 0 13) ∧ (h4 3 1) = (h 3 1) ∧ (h4 36 8) = (h 36 8) ∧ (h4 46 3) = (h 46 3) ∧ (h4 46 4) = (h 46 4) ∧ (h4 49 4) = (h 49 4) ∧ (h4 49 5) = (h 49 5) ∧ (h4 64 0) = (h 64 0) ∧ (h4 76 0) = (h 76 0) := f1
  clear f1
  have e7 : h4 36 8 = 58 := by omega
  refine ov_blk (ls2 := [(0, ov_r 36), (1, ov_i c), (2, ov_i s), (3, ov_i v2)]) (st2 := [ov_r 36]) (pc2 := 8) b_147_6_2 rfl rfl ?_
  refine ov_getf (v := ov_r 45) d_147_8 fl_Goers_28 (zb_36 I5) (zs_36 I5) (congrArg ov_r (rg_36_6 I5)) ?_
  refine ov_blk (ls2 := [(0, ov_r 36), (1, ov_i c), (2, ov_i s), (3, ov_i v2)]) (st2 := [ov_i 0, ov_r 45]) (pc2 := 12) b_147_11_1 rfl rfl ?_
  refine ov_iald d_147_12 (zb_45 I5) (zs_45 I5) (by omega) ?_
  have g8 := ra_45 I5 0
  refine ov_blk (ls2 := [(0, ov_r 36), (1, ov_i c), (2, ov_i s), (3, ov_i v2), (4, ov_i (h4 45 0))]) (st2 := [ov_r 36]) (pc2 := 16) b_147_13_2 rfl rfl ?_
  refine ov_getf (v := ov_r 58) d_147_16 fl_Goers_46 (zb_36 I5) (zs_36 I5) (congrArg ov_r e7) ?_
  refine ov_getf (v := ov_r 60) d_147_19 fl_Goers_84 (zb_58 I5) (zs_58 I5) (congrArg ov_r (rg_58_3 I5)) ?_
  refine ov_blk (ls2 := [(0, ov_r 36), (1, ov_i c), (2, ov_i s), (3, ov_i v2), (4, ov_i (h4 45 0))]) (st2 := [ov_i c, ov_r 60]) (pc2 := 23) b_147_22_1 rfl rfl ?_
  refine ov_iald d_147_23 (zb_60 I5) (zs_60 I5) (by omega) ?_
  have g9 := ra_60 I5 c
  refine ov_blk (ls2 := [(0, ov_r 36), (1, ov_i c), (2, ov_i s), (3, ov_i v2), (4, ov_i (h4 45 0)), (5, ov_i (h4 60 c))]) (st2 := [ov_l (ov_w (h4 45 0)), ov_l (ov_w (h4 60 c))]) (pc2 := 32) b_147_24_5 rfl rfl ?_
  have g10 := ov_wg (h4 60 c)
  have g11 := ov_wq (h4 60 c)
  have g12 := ov_wg (h4 45 0)
  have g13 := ov_wq (h4 45 0)
  refine ov_cSN (as := [ov_l (ov_w (h4 60 c)), ov_l (ov_w (h4 45 0))]) (st := []) (d2 := d - 1) d_147_32 lk_Goers_160 rfl (Nat.le_of_ble_eq_true rfl) (by omega) (c_OF_commonDivisor (d - 1) (by omega) U I5 (ov_w (h4 60 c)) (ov_w (h4 45 0)) (by omega) (by omega)) ?_
  rintro _ _ _ ⟨v15, rfl, rfl, rfl, f14⟩
  show ov_R u d ov_m147 35 [(0, ov_r 36), (1, ov_i c), (2, ov_i s), (3, ov_i v2), (4, ov_i (h4 45 0)), (5, ov_i (h4 60 c))] [ov_l v15] z3 h4 (P_Goers_worthOfWatching_36_k36_8_58 F z h c s)
  have f16 : (ov_gl v15) ∧ (0 ≤ (ov_w (h4 60 c)) → 0 ≤ (ov_w (h4 45 0)) → 0 ≤ v15) := f14
  clear f14
  refine ov_blk (ls2 := [(0, ov_r 36), (1, ov_i c), (2, ov_i s), (3, ov_i v2), (4, ov_i (h4 45 0)), (5, ov_i (h4 60 c))]) (st2 := [ov_i v15]) (pc2 := 36) b_147_35_1 rfl rfl ?_
  refine ov_hav (fun w17 gw17 => ?_)
  refine ov_blk (ls2 := [(0, ov_r 36), (1, ov_i c), (2, ov_i s), (3, ov_i v2), (4, ov_i (h4 45 0)), (5, ov_i (h4 60 c)), (6, ov_i w17)]) (st2 := [ov_i 1, ov_i w17]) (pc2 := 41) b_147_36_3 rfl rfl ?_
  refine ov_iclt (tgt := 50) d_147_41 (by decide) (by omega) (by omega) (fun c18 => ?_) (fun c18 => ?_)
  · skip
    refine ov_blk (ls2 := [(0, ov_r 36), (1, ov_i c), (2, ov_i s), (3, ov_i v2), (4, ov_i (h4 45 0)), (5, ov_i (h4 60 c)), (6, ov_i w17)]) (st2 := [ov_i 0]) (pc2 := 51) b_147_50_1 rfl rfl ?_
    exact ov_reti (st := []) d_147_51 rfl ⟨_, rfl, I5, (by show -2147483648 ≤ 0 ∧ 0 ≤ 2147483647 ∧ (h4 36 7) = (h 36 7) ∧ (h4 1 1) = (h 1 1) ∧ (h4 90 2) = (h 90 2) ∧ (h4 0 10) = (h 0 10) ∧ (h4 0 11) = (h 0 11) ∧ (h4 0 12) = (h 0 12) ∧ (h4 0 13) = (h 0 13) ∧ (h4 3 1) = (h 3 1) ∧ (h4 36 8) = (h 36 8) ∧ (h4 46 3) = (h 46 3) ∧ (h4 46 4) = (h 46 4) ∧ (h4 49 4) = (h 49 4) ∧ (h4 49 5) = (h 49 5) ∧ (h4 64 0) = (h 64 0) ∧ (h4 76 0) = (h 76 0); omega)⟩
  · skip
    refine ov_blk (ls2 := [(0, ov_r 36), (1, ov_i c), (2, ov_i s), (3, ov_i v2), (4, ov_i (h4 45 0)), (5, ov_i (h4 60 c)), (6, ov_i w17)]) (st2 := [ov_i 1, ov_i (h4 60 c)]) (pc2 := 47) b_147_44_2 rfl rfl ?_
    refine ov_icge (tgt := 52) d_147_47 (by decide) (by omega) (by omega) (fun c19 => ?_) (fun c19 => ?_)
    · skip
      refine ov_blk (ls2 := [(0, ov_r 36), (1, ov_i c), (2, ov_i s), (3, ov_i v2), (4, ov_i (h4 45 0)), (5, ov_i (h4 60 c)), (6, ov_i w17), (7, ov_i 0)]) (st2 := [ov_r 36, ov_r 36]) (pc2 := 57) b_147_52_4 rfl rfl ?_
      refine ov_getf (v := ov_l (h4 36 9)) d_147_57 fl_Goers_35 (zb_36 I5) (zs_36 I5) rfl ?_
      refine ov_blk (ls2 := [(0, ov_r 36), (1, ov_i c), (2, ov_i s), (3, ov_i v2), (4, ov_i (h4 45 0)), (5, ov_i (h4 60 c)), (6, ov_i w17), (7, ov_i 0)]) (st2 := [ov_l (ov_lor (h4 36 9) (ov_lshl 1 c)), ov_r 36]) (pc2 := 64) b_147_60_4 rfl rfl ?_
      refine ov_putf (x := (ov_lor (h4 36 9) (ov_lshl 1 c))) d_147_64 fl_Goers_35 (zb_36 I5) (zs_36 I5) rfl nk_1 rfl ?_
      have I20 := up_36_9 (x := (ov_lor (h4 36 9) (ov_lshl 1 c))) I5
      refine ov_blk (ls2 := [(0, ov_r 36), (1, ov_i c), (2, ov_i s), (3, ov_i v2), (4, ov_i (h4 45 0)), (5, ov_i (h4 60 c)), (6, ov_i w17), (7, ov_i 0)]) (st2 := [ov_r 36]) (pc2 := 68) b_147_67_1 rfl rfl ?_
      refine ov_cV (as := []) (st := []) (d2 := d - 1) d_147_68 lk_Goers_74 rfl (Nat.le_of_ble_eq_true rfl) (c := 2) (zb_36 I20) (zs_36 I20) ⟨by decide, rfl⟩ (by omega) (c_Goers_findPeriods_36_k36_8_58 (d - 1) (by omega) U I20 e7) ?_
      rintro _ z22 h23 ⟨rfl, I24, f21⟩
      show ov_R u d ov_m147 71 [(0, ov_r 36), (1, ov_i c), (2, ov_i s), (3, ov_i v2), (4, ov_i (h4 45 0)), (5, ov_i (h4 60 c)), (6, ov_i w17), (7, ov_i 0)] [] z22 h23 (P_Goers_worthOfWatching_36_k36_8_58 F z h c s)
      have f25 : (h23 36 7) = (h4 36 7) ∧ (h23 1 1) = (h4 1 1) ∧ (h23 90 2) = (h4 90 2) ∧ (h23 0 10) = (h4 0 10) ∧ (h23 0 11) = (h4 0 11) ∧ (h23 0 12) = (h4 0 12) ∧ (h23 0 13) = (h4 0 13) ∧ (h23 3 1) = (h4 3 1) ∧ (h23 36 8) = (h4 36 8) ∧ (h23 46 3) = (h4 46 3) ∧ (h23 46 4) = (h4 46 4) ∧ (h23 49 4) = (h4 49 4) ∧ (h23 49 5) = (h4 49 5) ∧ (h23 64 0) = (h4 64 0) ∧ (h23 76 0) = (h4 76 0) := f21
      clear f21
      have e26 : h23 36 8 = 58 := by omega
      refine ov_blk (ls2 := [(0, ov_r 36), (1, ov_i c), (2, ov_i s), (3, ov_i v2), (4, ov_i (h4 45 0)), (5, ov_i (h4 60 c)), (6, ov_i w17), (7, ov_i 0), (8, ov_i 0)]) (st2 := []) (pc2 := 74) b_147_71_2 rfl rfl ?_
      have L30 : ∀ (n27 : Nat) (x7 : Int) (x8 : Int) (z31 : ov_Z) (h32 : ov_H) (I33 : ov_I F z31 h32) (q29 : ov_g x7 ∧ 0 ≤ x8 ∧ x8 ≤ w17 ∧ 1 ≤ w17 ∧ w17 ≤ 2147483647 ∧ (h32 36 7) = (h 36 7) ∧ (h32 1 1) = (h 1 1) ∧ (h32 90 2) = (h 90 2) ∧ (h32 0 10) = (h 0 10) ∧ (h32 0 11) = (h 0 11) ∧ (h32 0 12) = (h 0 12) ∧ (h32 0 13) = (h 0 13) ∧ (h32 3 1) = (h 3 1) ∧ (h32 36 8) = (h 36 8) ∧ (h32 46 3) = (h 46 3) ∧ (h32 46 4) = (h 46 4) ∧ (h32 49 4) = (h 49 4) ∧ (h32 49 5) = (h 49 5) ∧ (h32 64 0) = (h 64 0) ∧ (h32 76 0) = (h 76 0) ∧ h32 36 8 = 58), w17 - x8 < (n27 : Int) → ov_R u d ov_m147 74 [(0, ov_r 36), (1, ov_i c), (2, ov_i s), (3, ov_i v2), (4, ov_i (h4 45 0)), (5, ov_i (h4 60 c)), (6, ov_i w17), (7, ov_i x7), (8, ov_i x8)] [] z31 h32 (P_Goers_worthOfWatching_36_k36_8_58 F z h c s) := by
        intro n27
        induction n27 with
        | zero =>
          intro x7 x8 z31 h32 I33 q29 hn34
          exact absurd hn34 (by omega)
        | succ n27 ih28 =>
          intro x7 x8 z31 h32 I33 q29 hn34
          have e35 : h32 36 8 = 58 := by omega
          refine ov_blk (ls2 := [(0, ov_r 36), (1, ov_i c), (2, ov_i s), (3, ov_i v2), (4, ov_i (h4 45 0)), (5, ov_i (h4 60 c)), (6, ov_i w17), (7, ov_i x7), (8, ov_i x8)]) (st2 := [ov_i w17, ov_i x8]) (pc2 := 78) b_147_74_2 rfl rfl ?_
          refine ov_icge (tgt := 139) d_147_78 (by decide) (by omega) (by omega) (fun c36 => ?_) (fun c36 => ?_)
          · skip
            refine ov_blk (ls2 := [(0, ov_r 36), (1, ov_i c), (2, ov_i s), (3, ov_i v2), (4, ov_i (h4 45 0)), (5, ov_i (h4 60 c)), (6, ov_i w17), (7, ov_i x7), (8, ov_i x8)]) (st2 := [ov_r 36, ov_r 36]) (pc2 := 141) b_147_139_2 rfl rfl ?_
            refine ov_getf (v := ov_l (h32 36 9)) d_147_141 fl_Goers_35 (zb_36 I33) (zs_36 I33) rfl ?_
            refine ov_blk (ls2 := [(0, ov_r 36), (1, ov_i c), (2, ov_i s), (3, ov_i v2), (4, ov_i (h4 45 0)), (5, ov_i (h4 60 c)), (6, ov_i w17), (7, ov_i x7), (8, ov_i x8)]) (st2 := [ov_l (ov_lshl 1 c), ov_l (h32 36 9), ov_r 36]) (pc2 := 147) b_147_144_3 rfl rfl ?_
            refine ov_ldc2 (n := (-1)) d_147_147 kc_Goers_167 ?_
            refine ov_blk (ls2 := [(0, ov_r 36), (1, ov_i c), (2, ov_i s), (3, ov_i v2), (4, ov_i (h4 45 0)), (5, ov_i (h4 60 c)), (6, ov_i w17), (7, ov_i x7), (8, ov_i x8)]) (st2 := [ov_l (ov_land (h32 36 9) (ov_lxor (ov_lshl 1 c) (-1))), ov_r 36]) (pc2 := 152) b_147_150_2 rfl rfl ?_
            refine ov_putf (x := (ov_land (h32 36 9) (ov_lxor (ov_lshl 1 c) (-1)))) d_147_152 fl_Goers_35 (zb_36 I33) (zs_36 I33) rfl nk_1 rfl ?_
            have I37 := up_36_9 (x := (ov_land (h32 36 9) (ov_lxor (ov_lshl 1 c) (-1)))) I33
            refine ov_blk (ls2 := [(0, ov_r 36), (1, ov_i c), (2, ov_i s), (3, ov_i v2), (4, ov_i (h4 45 0)), (5, ov_i (h4 60 c)), (6, ov_i w17), (7, ov_i x7), (8, ov_i x8)]) (st2 := [ov_r 36]) (pc2 := 156) b_147_155_1 rfl rfl ?_
            refine ov_cV (as := []) (st := []) (d2 := d - 1) d_147_156 lk_Goers_74 rfl (Nat.le_of_ble_eq_true rfl) (c := 2) (zb_36 I37) (zs_36 I37) ⟨by decide, rfl⟩ (by omega) (c_Goers_findPeriods_36_k36_8_58 (d - 1) (by omega) U I37 e35) ?_
            rintro _ z39 h40 ⟨rfl, I41, f38⟩
            show ov_R u d ov_m147 159 [(0, ov_r 36), (1, ov_i c), (2, ov_i s), (3, ov_i v2), (4, ov_i (h4 45 0)), (5, ov_i (h4 60 c)), (6, ov_i w17), (7, ov_i x7), (8, ov_i x8)] [] z39 h40 (P_Goers_worthOfWatching_36_k36_8_58 F z h c s)
            have f42 : (h40 36 7) = (h32 36 7) ∧ (h40 1 1) = (h32 1 1) ∧ (h40 90 2) = (h32 90 2) ∧ (h40 0 10) = (h32 0 10) ∧ (h40 0 11) = (h32 0 11) ∧ (h40 0 12) = (h32 0 12) ∧ (h40 0 13) = (h32 0 13) ∧ (h40 3 1) = (h32 3 1) ∧ (h40 36 8) = (h32 36 8) ∧ (h40 46 3) = (h32 46 3) ∧ (h40 46 4) = (h32 46 4) ∧ (h40 49 4) = (h32 49 4) ∧ (h40 49 5) = (h32 49 5) ∧ (h40 64 0) = (h32 64 0) ∧ (h40 76 0) = (h32 76 0) := f38
            clear f38
            have e43 : h40 36 8 = 58 := by omega
            refine ov_blk (ls2 := [(0, ov_r 36), (1, ov_i c), (2, ov_i s), (3, ov_i v2), (4, ov_i (h4 45 0)), (5, ov_i (h4 60 c)), (6, ov_i w17), (7, ov_i x7), (8, ov_i x8)]) (st2 := [ov_r 36]) (pc2 := 160) b_147_159_1 rfl rfl ?_
            refine ov_getf (v := ov_r 43) d_147_160 fl_Goers_21 (zb_36 I41) (zs_36 I41) (congrArg ov_r (rg_36_4 I41)) ?_
            refine ov_blk (ls2 := [(0, ov_r 36), (1, ov_i c), (2, ov_i s), (3, ov_i v2), (4, ov_i (h4 45 0)), (5, ov_i (h4 60 c)), (6, ov_i w17), (7, ov_i x7), (8, ov_i x8)]) (st2 := [ov_i 0, ov_i c, ov_r 43]) (pc2 := 165) b_147_163_2 rfl rfl ?_
            refine ov_iast d_147_165 (zb_43 I41) (zs_43 I41) (by omega) ?_
            have I44 := ua_43 (k := c) (x := 0) I41 (by omega)
            refine ov_blk (ls2 := [(0, ov_r 36), (1, ov_i c), (2, ov_i s), (3, ov_i v2), (4, ov_i (h4 45 0)), (5, ov_i (h4 60 c)), (6, ov_i w17), (7, ov_i x7), (8, ov_i x8)]) (st2 := [ov_r 36]) (pc2 := 167) b_147_166_1 rfl rfl ?_
            refine ov_getf (v := ov_r 37) d_147_167 fl_Goers_12 (zb_36 I44) (zs_36 I44) (congrArg ov_r (rg_36_2 I44)) ?_
            refine ov_blk (ls2 := [(0, ov_r 36), (1, ov_i c), (2, ov_i s), (3, ov_i v2), (4, ov_i (h4 45 0)), (5, ov_i (h4 60 c)), (6, ov_i w17), (7, ov_i x7), (8, ov_i x8)]) (st2 := [ov_i c, ov_r 37]) (pc2 := 171) b_147_170_1 rfl rfl ?_
            refine ov_cV (as := [ov_i c]) (st := []) (d2 := d - 1) d_147_171 lk_Goers_164 rfl (Nat.le_of_ble_eq_true rfl) (c := 4) (zb_37 I44) (zs_37 I44) ⟨by decide, rfl⟩ (by omega) (c_Memo_clearBefore_37 (d - 1) (by omega) U I44 c (by omega) (by omega)) ?_
            rintro _ z46 h47 ⟨rfl, I48, f45⟩
            show ov_R u d ov_m147 174 [(0, ov_r 36), (1, ov_i c), (2, ov_i s), (3, ov_i v2), (4, ov_i (h4 45 0)), (5, ov_i (h4 60 c)), (6, ov_i w17), (7, ov_i x7), (8, ov_i x8)] [] z46 h47 (P_Goers_worthOfWatching_36_k36_8_58 F z h c s)
            have f49 : (h47 36 7) = (h40 36 7) ∧ (h47 1 1) = (h40 1 1) ∧ (h47 90 2) = (h40 90 2) ∧ (h47 0 10) = (h40 0 10) ∧ (h47 0 11) = (h40 0 11) ∧ (h47 0 12) = (h40 0 12) ∧ (h47 0 13) = (h40 0 13) ∧ (h47 3 1) = (h40 3 1) ∧ (h47 36 8) = (h40 36 8) ∧ (h47 46 3) = (h40 46 3) ∧ (h47 46 4) = (h40 46 4) ∧ (h47 49 4) = (h40 49 4) ∧ (h47 49 5) = (h40 49 5) ∧ (h47 64 0) = (h40 64 0) ∧ (h47 76 0) = (h40 76 0) := f45
            clear f45
            have e50 : h47 36 8 = 58 := by omega
            refine ov_blk (ls2 := [(0, ov_r 36), (1, ov_i c), (2, ov_i s), (3, ov_i v2), (4, ov_i (h4 45 0)), (5, ov_i (h4 60 c)), (6, ov_i w17), (7, ov_i x7), (8, ov_i x8)]) (st2 := [ov_i (h4 60 c), ov_i x7, ov_i v2]) (pc2 := 179) b_147_174_3 rfl rfl ?_
            refine ov_idiv d_147_179 (by omega) (by omega) (by omega) ?_
            refine ov_hav (fun w51 gw51 => ?_)
            refine ov_blk (ls2 := [(0, ov_r 36), (1, ov_i c), (2, ov_i s), (3, ov_i v2), (4, ov_i (h4 45 0)), (5, ov_i (h4 60 c)), (6, ov_i w17), (7, ov_i x7), (8, ov_i x8)]) (st2 := [ov_i (v2 - w51)]) (pc2 := 181) b_147_180_1 rfl rfl ?_
            refine ov_hav (fun w52 gw52 => ?_)
            exact ov_reti (st := []) d_147_181 rfl ⟨_, rfl, I48, (by show -2147483648 ≤ w52 ∧ w52 ≤ 2147483647 ∧ (h47 36 7) = (h 36 7) ∧ (h47 1 1) = (h 1 1) ∧ (h47 90 2) = (h 90 2) ∧ (h47 0 10) = (h 0 10) ∧ (h47 0 11) = (h 0 11) ∧ (h47 0 12) = (h 0 12) ∧ (h47 0 13) = (h 0 13) ∧ (h47 3 1) = (h 3 1) ∧ (h47 36 8) = (h 36 8) ∧ (h47 46 3) = (h 46 3) ∧ (h47 46 4) = (h 46 4) ∧ (h47 49 4) = (h 49 4) ∧ (h47 49 5) = (h 49 5) ∧ (h47 64 0) = (h 64 0) ∧ (h47 76 0) = (h 76 0); omega)⟩
          · skip
            refine ov_blk (ls2 := [(0, ov_r 36), (1, ov_i c), (2, ov_i s), (3, ov_i v2), (4, ov_i (h4 45 0)), (5, ov_i (h4 60 c)), (6, ov_i w17), (7, ov_i x7), (8, ov_i x8)]) (st2 := [ov_r 36]) (pc2 := 82) b_147_81_1 rfl rfl ?_
            refine ov_getf (v := ov_r 43) d_147_82 fl_Goers_21 (zb_36 I33) (zs_36 I33) (congrArg ov_r (rg_36_4 I33)) ?_
            refine ov_blk (ls2 := [(0, ov_r 36), (1, ov_i c), (2, ov_i s), (3, ov_i v2), (4, ov_i (h4 45 0)), (5, ov_i (h4 60 c)), (6, ov_i w17), (7, ov_i x7), (8, ov_i x8)]) (st2 := [ov_i x8, ov_i c, ov_r 43]) (pc2 := 88) b_147_85_2 rfl rfl ?_
            refine ov_iast d_147_88 (zb_43 I33) (zs_43 I33) (by omega) ?_
            have I53 := ua_43 (k := c) (x := x8) I33 (by omega)
            refine ov_blk (ls2 := [(0, ov_r 36), (1, ov_i c), (2, ov_i s), (3, ov_i v2), (4, ov_i (h4 45 0)), (5, ov_i (h4 60 c)), (6, ov_i w17), (7, ov_i x7), (8, ov_i x8)]) (st2 := [ov_r 36]) (pc2 := 90) b_147_89_1 rfl rfl ?_
            refine ov_getf (v := ov_r 37) d_147_90 fl_Goers_12 (zb_36 I53) (zs_36 I53) (congrArg ov_r (rg_36_2 I53)) ?_
            refine ov_blk (ls2 := [(0, ov_r 36), (1, ov_i c), (2, ov_i s), (3, ov_i v2), (4, ov_i (h4 45 0)), (5, ov_i (h4 60 c)), (6, ov_i w17), (7, ov_i x7), (8, ov_i x8)]) (st2 := [ov_i c, ov_r 37]) (pc2 := 94) b_147_93_1 rfl rfl ?_
            refine ov_cV (as := [ov_i c]) (st := []) (d2 := d - 1) d_147_94 lk_Goers_164 rfl (Nat.le_of_ble_eq_true rfl) (c := 4) (zb_37 I53) (zs_37 I53) ⟨by decide, rfl⟩ (by omega) (c_Memo_clearBefore_37 (d - 1) (by omega) U I53 c (by omega) (by omega)) ?_
            rintro _ z55 h56 ⟨rfl, I57, f54⟩
            show ov_R u d ov_m147 97 [(0, ov_r 36), (1, ov_i c), (2, ov_i s), (3, ov_i v2), (4, ov_i (h4 45 0)), (5, ov_i (h4 60 c)), (6, ov_i w17), (7, ov_i x7), (8, ov_i x8)] [] z55 h56 (P_Goers_worthOfWatching_36_k36_8_58 F z h c s)
            have f58 : (h56 36 7) = (h32 36 7) ∧ (h56 1 1) = (h32 1 1) ∧ (h56 90 2) = (h32 90 2) ∧ (h56 0 10) = (h32 0 10) ∧ (h56 0 11) = (h32 0 11) ∧ (h56 0 12) = (h32 0 12) ∧ (h56 0 13) = (h32 0 13) ∧ (h56 3 1) = (h32 3 1) ∧ (h56 36 8) = (h32 36 8) ∧ (h56 46 3) = (h32 46 3) ∧ (h56 46 4) = (h32 46 4) ∧ (h56 49 4) = (h32 49 4) ∧ (h56 49 5) = (h32 49 5) ∧ (h56 64 0) = (h32 64 0) ∧ (h56 76 0) = (h32 76 0) := f54
            clear f54
            have e59 : h56 36 8 = 58 := by omega
            refine ov_blk (ls2 := [(0, ov_r 36), (1, ov_i c), (2, ov_i s), (3, ov_i v2), (4, ov_i (h4 45 0)), (5, ov_i (h4 60 c)), (6, ov_i w17), (7, ov_i x7), (8, ov_i x8), (9, ov_i 0)]) (st2 := []) (pc2 := 100) b_147_97_2 rfl rfl ?_
            have L63 : ∀ (n60 : Nat) (x7_ : Int) (x9 : Int) (z64 : ov_Z) (h65 : ov_H) (I66 : ov_I F z64 h65) (q62 : ov_g x7_ ∧ 0 ≤ x9 ∧ x9 ≤ 61 ∧ (h65 36 7) = (h 36 7) ∧ (h65 1 1) = (h 1 1) ∧ (h65 90 2) = (h 90 2) ∧ (h65 0 10) = (h 0 10) ∧ (h65 0 11) = (h 0 11) ∧ (h65 0 12) = (h 0 12) ∧ (h65 0 13) = (h 0 13) ∧ (h65 3 1) = (h 3 1) ∧ (h65 36 8) = (h 36 8) ∧ (h65 46 3) = (h 46 3) ∧ (h65 46 4) = (h 46 4) ∧ (h65 49 4) = (h 49 4) ∧ (h65 49 5) = (h 49 5) ∧ (h65 64 0) = (h 64 0) ∧ (h65 76 0) = (h 76 0) ∧ h65 36 8 = 58), 61 - x9 < (n60 : Int) → ov_R u d ov_m147 100 [(0, ov_r 36), (1, ov_i c), (2, ov_i s), (3, ov_i v2), (4, ov_i (h4 45 0)), (5, ov_i (h4 60 c)), (6, ov_i w17), (7, ov_i x7_), (8, ov_i x8), (9, ov_i x9)] [] z64 h65 (P_Goers_worthOfWatching_36_k36_8_58 F z h c s) := by
              intro n60
              induction n60 with
              | zero =>
                intro x7_ x9 z64 h65 I66 q62 hn67
                exact absurd hn67 (by omega)
              | succ n60 ih61 =>
                intro x7_ x9 z64 h65 I66 q62 hn67
                have e68 : h65 36 8 = 58 := by omega
                refine ov_blk (ls2 := [(0, ov_r 36), (1, ov_i c), (2, ov_i s), (3, ov_i v2), (4, ov_i (h4 45 0)), (5, ov_i (h4 60 c)), (6, ov_i w17), (7, ov_i x7_), (8, ov_i x8), (9, ov_i x9)]) (st2 := [ov_i w17, ov_i (h4 60 c), ov_i x9]) (pc2 := 106) b_147_100_3 rfl rfl ?_
                refine ov_idiv d_147_106 (by omega) (by omega) (by omega) ?_
                have g69 := ov_tdl (a := (h4 60 c)) (b := w17) (by omega) (by omega)
                refine ov_icge (tgt := 133) d_147_107 (by decide) (by omega) (by omega) (fun c70 => ?_) (fun c70 => ?_)
                · skip
                  refine ov_blk (ls2 := [(0, ov_r 36), (1, ov_i c), (2, ov_i s), (3, ov_i v2), (4, ov_i (h4 45 0)), (5, ov_i (h4 60 c)), (6, ov_i w17), (7, ov_i x7_), (8, ov_i (x8 + 1)), (9, ov_i x9)]) (st2 := []) (pc2 := 136) b_147_133_1 rfl rfl ?_
                  refine ov_goto (tgt := 74) d_147_136 (by decide) ?_
                  refine ov_sub (ls2 := [(0, ov_r 36), (1, ov_i c), (2, ov_i s), (3, ov_i v2), (4, ov_i (h4 45 0)), (5, ov_i (h4 60 c)), (6, ov_i w17), (7, ov_i x7_), (8, ov_i (x8 + 1))]) (List.Sublist.subset (by repeat (first | exact List.Sublist.refl _ | apply List.Sublist.cons_cons | apply List.Sublist.cons))) ?_
                  exact ih28 x7_ (x8 + 1) _ _ I66 (by show ov_g x7_ ∧ 0 ≤ (x8 + 1) ∧ (x8 + 1) ≤ w17 ∧ 1 ≤ w17 ∧ w17 ≤ 2147483647 ∧ (h65 36 7) = (h 36 7) ∧ (h65 1 1) = (h 1 1) ∧ (h65 90 2) = (h 90 2) ∧ (h65 0 10) = (h 0 10) ∧ (h65 0 11) = (h 0 11) ∧ (h65 0 12) = (h 0 12) ∧ (h65 0 13) = (h 0 13) ∧ (h65 3 1) = (h 3 1) ∧ (h65 36 8) = (h 36 8) ∧ (h65 46 3) = (h 46 3) ∧ (h65 46 4) = (h 46 4) ∧ (h65 49 4) = (h 49 4) ∧ (h65 49 5) = (h 49 5) ∧ (h65 64 0) = (h 64 0) ∧ (h65 76 0) = (h 76 0) ∧ (h65 36 8) = 58; omega) (by omega)
                · skip
                  refine ov_blk (ls2 := [(0, ov_r 36), (1, ov_i c), (2, ov_i s), (3, ov_i v2), (4, ov_i (h4 45 0)), (5, ov_i (h4 60 c)), (6, ov_i w17), (7, ov_i x7_), (8, ov_i x8), (9, ov_i x9)]) (st2 := [ov_i (x9 * (h4 45 0)), ov_i s, ov_i 0, ov_r 36, ov_i x7_]) (pc2 := 120) b_147_110_7 rfl rfl ?_
                  refine ov_hav (fun w71 gw71 => ?_)
                  refine ov_blk (ls2 := [(0, ov_r 36), (1, ov_i c), (2, ov_i s), (3, ov_i v2), (4, ov_i (h4 45 0)), (5, ov_i (h4 60 c)), (6, ov_i w17), (7, ov_i x7_), (8, ov_i x8), (9, ov_i x9)]) (st2 := [ov_i (s + w71), ov_i 0, ov_r 36, ov_i x7_]) (pc2 := 121) b_147_120_1 rfl rfl ?_
                  refine ov_hav (fun w72 gw72 => ?_)
                  refine ov_cV (as := [ov_i 0, ov_i w72]) (st := [ov_i x7_]) (d2 := d - 1) d_147_121 lk_Goers_153 rfl (Nat.le_of_ble_eq_true rfl) (c := 2) (zb_36 I66) (zs_36 I66) ⟨by decide, rfl⟩ (by omega) (c_Goers_valueAt_36_k36_8_58_all (Int.toNat (53 - (0))) (d - 1) (by omega) U I66 (ov_kws hw (by decide +kernel)) 0 w72 e68 (by omega) (by omega) (by omega) (by omega)) ?_
                  rintro _ z75 h76 ⟨v74, rfl, I77, f73⟩
                  show ov_R u d ov_m147 124 [(0, ov_r 36), (1, ov_i c), (2, ov_i s), (3, ov_i v2), (4, ov_i (h4 45 0)), (5, ov_i (h4 60 c)), (6, ov_i w17), (7, ov_i x7_), (8, ov_i x8), (9, ov_i x9)] [ov_i v74, ov_i x7_] z75 h76 (P_Goers_worthOfWatching_36_k36_8_58 F z h c s)
                  have f78 : -2147483648 ≤ v74 ∧ v74 ≤ 2147483647 ∧ (h76 36 7) = (h65 36 7) ∧ (h76 1 1) = (h65 1 1) ∧ (h76 90 2) = (h65 90 2) ∧ (h76 0 10) = (h65 0 10) ∧ (h76 0 11) = (h65 0 11) ∧ (h76 0 12) = (h65 0 12) ∧ (h76 0 13) = (h65 0 13) ∧ (h76 3 1) = (h65 3 1) ∧ (h76 36 8) = (h65 36 8) ∧ (h76 46 3) = (h65 46 3) ∧ (h76 46 4) = (h65 46 4) ∧ (h76 49 4) = (h65 49 4) ∧ (h76 49 5) = (h65 49 5) ∧ (h76 64 0) = (h65 64 0) ∧ (h76 76 0) = (h65 76 0) := f73
                  clear f73
                  have e79 : h76 36 8 = 58 := by omega
                  refine ov_blk (ls2 := [(0, ov_r 36), (1, ov_i c), (2, ov_i s), (3, ov_i v2), (4, ov_i (h4 45 0)), (5, ov_i (h4 60 c)), (6, ov_i w17), (7, ov_i x7_), (8, ov_i x8), (9, ov_i x9)]) (st2 := [ov_i (x7_ + v74)]) (pc2 := 125) b_147_124_1 rfl rfl ?_
                  refine ov_hav (fun w80 gw80 => ?_)
                  refine ov_blk (ls2 := [(0, ov_r 36), (1, ov_i c), (2, ov_i s), (3, ov_i v2), (4, ov_i (h4 45 0)), (5, ov_i (h4 60 c)), (6, ov_i w17), (7, ov_i w80), (8, ov_i x8), (9, ov_i (x9 + 1))]) (st2 := []) (pc2 := 130) b_147_125_2 rfl rfl ?_
                  refine ov_goto (tgt := 100) d_147_130 (by decide) ?_
                  exact ih61 w80 (x9 + 1) _ _ I77 (by show ov_g w80 ∧ 0 ≤ (x9 + 1) ∧ (x9 + 1) ≤ 61 ∧ (h76 36 7) = (h 36 7) ∧ (h76 1 1) = (h 1 1) ∧ (h76 90 2) = (h 90 2) ∧ (h76 0 10) = (h 0 10) ∧ (h76 0 11) = (h 0 11) ∧ (h76 0 12) = (h 0 12) ∧ (h76 0 13) = (h 0 13) ∧ (h76 3 1) = (h 3 1) ∧ (h76 36 8) = (h 36 8) ∧ (h76 46 3) = (h 46 3) ∧ (h76 46 4) = (h 46 4) ∧ (h76 49 4) = (h 49 4) ∧ (h76 49 5) = (h 49 5) ∧ (h76 64 0) = (h 64 0) ∧ (h76 76 0) = (h 76 0) ∧ (h76 36 8) = 58; omega) (by omega)
            exact L63 62 x7 0 _ _ I57 (by show ov_g x7 ∧ 0 ≤ 0 ∧ 0 ≤ 61 ∧ (h56 36 7) = (h 36 7) ∧ (h56 1 1) = (h 1 1) ∧ (h56 90 2) = (h 90 2) ∧ (h56 0 10) = (h 0 10) ∧ (h56 0 11) = (h 0 11) ∧ (h56 0 12) = (h 0 12) ∧ (h56 0 13) = (h 0 13) ∧ (h56 3 1) = (h 3 1) ∧ (h56 36 8) = (h 36 8) ∧ (h56 46 3) = (h 46 3) ∧ (h56 46 4) = (h 46 4) ∧ (h56 49 4) = (h 49 4) ∧ (h56 49 5) = (h 49 5) ∧ (h56 64 0) = (h 64 0) ∧ (h56 76 0) = (h 76 0) ∧ (h56 36 8) = 58; omega) (by omega)
      exact L30 2147483648 0 0 _ _ I24 (by show ov_g 0 ∧ 0 ≤ 0 ∧ 0 ≤ w17 ∧ 1 ≤ w17 ∧ w17 ≤ 2147483647 ∧ (h23 36 7) = (h 36 7) ∧ (h23 1 1) = (h 1 1) ∧ (h23 90 2) = (h 90 2) ∧ (h23 0 10) = (h 0 10) ∧ (h23 0 11) = (h 0 11) ∧ (h23 0 12) = (h 0 12) ∧ (h23 0 13) = (h 0 13) ∧ (h23 3 1) = (h 3 1) ∧ (h23 36 8) = (h 36 8) ∧ (h23 46 3) = (h 46 3) ∧ (h23 46 4) = (h 46 4) ∧ (h23 49 4) = (h 49 4) ∧ (h23 49 5) = (h 49 5) ∧ (h23 64 0) = (h 64 0) ∧ (h23 76 0) = (h 76 0) ∧ (h23 36 8) = 58; omega) (by omega)
    · skip
      refine ov_blk (ls2 := [(0, ov_r 36), (1, ov_i c), (2, ov_i s), (3, ov_i v2), (4, ov_i (h4 45 0)), (5, ov_i (h4 60 c)), (6, ov_i w17)]) (st2 := [ov_i 0]) (pc2 := 51) b_147_50_1 rfl rfl ?_
      exact ov_reti (st := []) d_147_51 rfl ⟨_, rfl, I5, (by show -2147483648 ≤ 0 ∧ 0 ≤ 2147483647 ∧ (h4 36 7) = (h 36 7) ∧ (h4 1 1) = (h 1 1) ∧ (h4 90 2) = (h 90 2) ∧ (h4 0 10) = (h 0 10) ∧ (h4 0 11) = (h 0 11) ∧ (h4 0 12) = (h 0 12) ∧ (h4 0 13) = (h 0 13) ∧ (h4 3 1) = (h 3 1) ∧ (h4 36 8) = (h 36 8) ∧ (h4 46 3) = (h 46 3) ∧ (h4 46 4) = (h 46 4) ∧ (h4 49 4) = (h 49 4) ∧ (h4 49 5) = (h 49 5) ∧ (h4 64 0) = (h 64 0) ∧ (h4 76 0) = (h 76 0); omega)⟩
abbrev P_Goers_mostWorthWatching_36_k36_8_58 (F : ov_H) (z : ov_Z) (h : ov_H) (s : Int) : Option ov_V → ov_Z → ov_H → Prop := fun r0 z' h' => ∃ r : Int, r0 = some (ov_i r) ∧ ov_I F z' h' ∧ (-1 ≤ r ∧ r ≤ 53 ∧ (h' 36 7) = (h 36 7) ∧ (h' 1 1) = (h 1 1) ∧ (h' 90 2) = (h 90 2) ∧ (h' 0 10) = (h 0 10) ∧ (h' 0 11) = (h 0 11) ∧ (h' 0 12) = (h 0 12) ∧ (h' 0 13) = (h 0 13) ∧ (h' 3 1) = (h 3 1) ∧ (h' 36 8) = (h 36 8) ∧ (h' 46 3) = (h 46 3) ∧ (h' 46 4) = (h 46 4) ∧ (h' 49 4) = (h 49 4) ∧ (h' 49 5) = (h 49 5) ∧ (h' 64 0) = (h 64 0) ∧ (h' 76 0) = (h 76 0))
set_option maxHeartbeats 4000000 in
theorem c_Goers_mostWorthWatching_36_k36_8_58 {u : ov_U} {F : ov_H} {z : ov_Z} {h : ov_H} (d : Nat) (hd : 301 ≤ d) (U : ov_cap u) (I : ov_I F z h) (hw : ov_kw 590295810358705651712 F) (s : Int) (k0 : h 36 8 = 58) (g_s : ov_g s) (p0 : F (-5) 58 = 1) : ov_T u d ov_m157 [ov_r 36, ov_i s] z h (P_Goers_mostWorthWatching_36_k36_8_58 F z h s) := by
  refine ov_en rfl (Nat.le_of_ble_eq_true rfl) ?_
  show ov_R u d ov_m157 0 [(0, ov_r 36), (1, ov_i s)] [] z h (P_Goers_mostWorthWatching_36_k36_8_58 F z h s)
  refine ov_blk (ls2 := [(0, ov_r 36), (1, ov_i s), (2, ov_i (-1)), (3, ov_i 0), (4, ov_i 0)]) (st2 := []) (pc2 := 7) b_157_0_6 rfl rfl ?_
  have L4 : ∀ (n1 : Nat) (x2 : Int) (x3 : Int) (x4 : Int) (z5 : ov_Z) (h6 : ov_H) (I7 : ov_I F z5 h6) (q3 : -1 ≤ x2 ∧ x2 ≤ 53 ∧ ov_g x3 ∧ 0 ≤ x4 ∧ x4 ≤ 54 ∧ (h6 36 7) = (h 36 7) ∧ (h6 1 1) = (h 1 1) ∧ (h6 90 2) = (h 90 2) ∧ (h6 0 10) = (h 0 10) ∧ (h6 0 11) = (h 0 11) ∧ (h6 0 12) = (h 0 12) ∧ (h6 0 13) = (h 0 13) ∧ (h6 3 1) = (h 3 1) ∧ (h6 36 8) = (h 36 8) ∧ (h6 46 3) = (h 46 3) ∧ (h6 46 4) = (h 46 4) ∧ (h6 49 4) = (h 49 4) ∧ (h6 49 5) = (h 49 5) ∧ (h6 64 0) = (h 64 0) ∧ (h6 76 0) = (h 76 0) ∧ h6 36 8 = 58), 54 - x4 < (n1 : Int) → ov_R u d ov_m157 7 [(0, ov_r 36), (1, ov_i s), (2, ov_i x2), (3, ov_i x3), (4, ov_i x4)] [] z5 h6 (P_Goers_mostWorthWatching_36_k36_8_58 F z h s) := by
    intro n1
    induction n1 with
    | zero =>
      intro x2 x3 x4 z5 h6 I7 q3 hn8
      exact absurd hn8 (by omega)
    | succ n1 ih2 =>
      intro x2 x3 x4 z5 h6 I7 q3 hn8
      have e9 : h6 36 8 = 58 := by omega
      refine ov_blk (ls2 := [(0, ov_r 36), (1, ov_i s), (2, ov_i x2), (3, ov_i x3), (4, ov_i x4)]) (st2 := [ov_i 54, ov_i x4]) (pc2 := 11) b_157_7_2 rfl rfl ?_
      refine ov_icge (tgt := 55) d_157_11 (by decide) (by omega) (by omega) (fun c10 => ?_) (fun c10 => ?_)
      · skip
        refine ov_blk (ls2 := [(0, ov_r 36), (1, ov_i s), (2, ov_i x2), (3, ov_i x3), (4, ov_i x4)]) (st2 := [ov_i x2]) (pc2 := 56) b_157_55_1 rfl rfl ?_
        exact ov_reti (st := []) d_157_56 rfl ⟨_, rfl, I7, (by show -1 ≤ x2 ∧ x2 ≤ 53 ∧ (h6 36 7) = (h 36 7) ∧ (h6 1 1) = (h 1 1) ∧ (h6 90 2) = (h 90 2) ∧ (h6 0 10) = (h 0 10) ∧ (h6 0 11) = (h 0 11) ∧ (h6 0 12) = (h 0 12) ∧ (h6 0 13) = (h 0 13) ∧ (h6 3 1) = (h 3 1) ∧ (h6 36 8) = (h 36 8) ∧ (h6 46 3) = (h 46 3) ∧ (h6 46 4) = (h 46 4) ∧ (h6 49 4) = (h 49 4) ∧ (h6 49 5) = (h 49 5) ∧ (h6 64 0) = (h 64 0) ∧ (h6 76 0) = (h 76 0); omega)⟩
      · skip
        refine ov_blk (ls2 := [(0, ov_r 36), (1, ov_i s), (2, ov_i x2), (3, ov_i x3), (4, ov_i x4)]) (st2 := [ov_i x4, ov_r 36]) (pc2 := 17) b_157_14_2 rfl rfl ?_
        refine ov_cV (as := [ov_i x4]) (st := []) (d2 := d - 1) d_157_17 lk_Goers_81 rfl (Nat.le_of_ble_eq_true rfl) (c := 2) (zb_36 I7) (zs_36 I7) ⟨by decide, rfl⟩ (by omega) (c_Goers_hides_36_k36_8_58 (d - 1) (by omega) U I7 x4 e9 (by omega) (by omega)) ?_
        rintro _ _ _ ⟨v12, rfl, rfl, rfl, f11⟩
        show ov_R u d ov_m157 20 [(0, ov_r 36), (1, ov_i s), (2, ov_i x2), (3, ov_i x3), (4, ov_i x4)] [ov_i v12] z5 h6 (P_Goers_mostWorthWatching_36_k36_8_58 F z h s)
        have f13 : (v12 = 0 ∨ v12 = 1) := f11
        clear f11
        refine ov_ifeq (tgt := 49) d_157_20 (by decide) (by omega) (fun c14 => ?_) (fun c14 => ?_)
        · skip
          refine ov_blk (ls2 := [(0, ov_r 36), (1, ov_i s), (2, ov_i x2), (3, ov_i x3), (4, ov_i (x4 + 1))]) (st2 := []) (pc2 := 52) b_157_49_1 rfl rfl ?_
          refine ov_goto (tgt := 7) d_157_52 (by decide) ?_
          exact ih2 x2 x3 (x4 + 1) _ _ I7 (by show -1 ≤ x2 ∧ x2 ≤ 53 ∧ ov_g x3 ∧ 0 ≤ (x4 + 1) ∧ (x4 + 1) ≤ 54 ∧ (h6 36 7) = (h 36 7) ∧ (h6 1 1) = (h 1 1) ∧ (h6 90 2) = (h 90 2) ∧ (h6 0 10) = (h 0 10) ∧ (h6 0 11) = (h 0 11) ∧ (h6 0 12) = (h 0 12) ∧ (h6 0 13) = (h 0 13) ∧ (h6 3 1) = (h 3 1) ∧ (h6 36 8) = (h 36 8) ∧ (h6 46 3) = (h 46 3) ∧ (h6 46 4) = (h 46 4) ∧ (h6 49 4) = (h 49 4) ∧ (h6 49 5) = (h 49 5) ∧ (h6 64 0) = (h 64 0) ∧ (h6 76 0) = (h 76 0) ∧ (h6 36 8) = 58; omega) (by omega)
        · skip
          refine ov_blk (ls2 := [(0, ov_r 36), (1, ov_i s), (2, ov_i x2), (3, ov_i x3), (4, ov_i x4)]) (st2 := [ov_i s, ov_i x4, ov_r 36]) (pc2 := 27) b_157_23_3 rfl rfl ?_
          refine ov_cV (as := [ov_i x4, ov_i s]) (st := []) (d2 := d - 1) d_157_27 lk_Goers_169 rfl (Nat.le_of_ble_eq_true rfl) (c := 2) (zb_36 I7) (zs_36 I7) ⟨by decide, rfl⟩ (by omega) (c_Goers_worthOfWatching_36_k36_8_58 (d - 1) (by omega) U I7 (ov_kws hw (by decide +kernel)) x4 s e9 (by omega) (by omega) (by omega) (by omega)) ?_
          rintro _ z17 h18 ⟨v16, rfl, I19, f15⟩
          show ov_R u d ov_m157 30 [(0, ov_r 36), (1, ov_i s), (2, ov_i x2), (3, ov_i x3), (4, ov_i x4)] [ov_i v16] z17 h18 (P_Goers_mostWorthWatching_36_k36_8_58 F z h s)
          have f20 : -2147483648 ≤ v16 ∧ v16 ≤ 2147483647 ∧ (h18 36 7) = (h6 36 7) ∧ (h18 1 1) = (h6 1 1) ∧ (h18 90 2) = (h6 90 2) ∧ (h18 0 10) = (h6 0 10) ∧ (h18 0 11) = (h6 0 11) ∧ (h18 0 12) = (h6 0 12) ∧ (h18 0 13) = (h6 0 13) ∧ (h18 3 1) = (h6 3 1) ∧ (h18 36 8) = (h6 36 8) ∧ (h18 46 3) = (h6 46 3) ∧ (h18 46 4) = (h6 46 4) ∧ (h18 49 4) = (h6 49 4) ∧ (h18 49 5) = (h6 49 5) ∧ (h18 64 0) = (h6 64 0) ∧ (h18 76 0) = (h6 76 0) := f15
          clear f15
          have e21 : h18 36 8 = 58 := by omega
          refine ov_blk (ls2 := [(0, ov_r 36), (1, ov_i s), (2, ov_i x2), (3, ov_i x3), (4, ov_i x4), (5, ov_i v16)]) (st2 := [ov_i (-1), ov_i x2]) (pc2 := 34) b_157_30_3 rfl rfl ?_
          refine ov_iceq (tgt := 43) d_157_34 (by decide) (by omega) (by omega) (fun c22 => ?_) (fun c22 => ?_)
          · skip
            refine ov_blk (ls2 := [(0, ov_r 36), (1, ov_i s), (2, ov_i x4), (3, ov_i v16), (4, ov_i (x4 + 1)), (5, ov_i v16)]) (st2 := []) (pc2 := 52) b_157_43_5 rfl rfl ?_
            refine ov_goto (tgt := 7) d_157_52 (by decide) ?_
            refine ov_sub (ls2 := [(0, ov_r 36), (1, ov_i s), (2, ov_i x4), (3, ov_i v16), (4, ov_i (x4 + 1))]) (List.Sublist.subset (by repeat (first | exact List.Sublist.refl _ | apply List.Sublist.cons_cons | apply List.Sublist.cons))) ?_
            exact ih2 x4 v16 (x4 + 1) _ _ I19 (by show -1 ≤ x4 ∧ x4 ≤ 53 ∧ ov_g v16 ∧ 0 ≤ (x4 + 1) ∧ (x4 + 1) ≤ 54 ∧ (h18 36 7) = (h 36 7) ∧ (h18 1 1) = (h 1 1) ∧ (h18 90 2) = (h 90 2) ∧ (h18 0 10) = (h 0 10) ∧ (h18 0 11) = (h 0 11) ∧ (h18 0 12) = (h 0 12) ∧ (h18 0 13) = (h 0 13) ∧ (h18 3 1) = (h 3 1) ∧ (h18 36 8) = (h 36 8) ∧ (h18 46 3) = (h 46 3) ∧ (h18 46 4) = (h 46 4) ∧ (h18 49 4) = (h 49 4) ∧ (h18 49 5) = (h 49 5) ∧ (h18 64 0) = (h 64 0) ∧ (h18 76 0) = (h 76 0) ∧ (h18 36 8) = 58; omega) (by omega)
          · skip
            refine ov_blk (ls2 := [(0, ov_r 36), (1, ov_i s), (2, ov_i x2), (3, ov_i x3), (4, ov_i x4), (5, ov_i v16)]) (st2 := [ov_i x3, ov_i v16]) (pc2 := 40) b_157_37_2 rfl rfl ?_
            refine ov_icle (tgt := 49) d_157_40 (by decide) (by omega) (by omega) (fun c23 => ?_) (fun c23 => ?_)
            · skip
              refine ov_blk (ls2 := [(0, ov_r 36), (1, ov_i s), (2, ov_i x2), (3, ov_i x3), (4, ov_i (x4 + 1)), (5, ov_i v16)]) (st2 := []) (pc2 := 52) b_157_49_1 rfl rfl ?_
              refine ov_goto (tgt := 7) d_157_52 (by decide) ?_
              refine ov_sub (ls2 := [(0, ov_r 36), (1, ov_i s), (2, ov_i x2), (3, ov_i x3), (4, ov_i (x4 + 1))]) (List.Sublist.subset (by repeat (first | exact List.Sublist.refl _ | apply List.Sublist.cons_cons | apply List.Sublist.cons))) ?_
              exact ih2 x2 x3 (x4 + 1) _ _ I19 (by show -1 ≤ x2 ∧ x2 ≤ 53 ∧ ov_g x3 ∧ 0 ≤ (x4 + 1) ∧ (x4 + 1) ≤ 54 ∧ (h18 36 7) = (h 36 7) ∧ (h18 1 1) = (h 1 1) ∧ (h18 90 2) = (h 90 2) ∧ (h18 0 10) = (h 0 10) ∧ (h18 0 11) = (h 0 11) ∧ (h18 0 12) = (h 0 12) ∧ (h18 0 13) = (h 0 13) ∧ (h18 3 1) = (h 3 1) ∧ (h18 36 8) = (h 36 8) ∧ (h18 46 3) = (h 46 3) ∧ (h18 46 4) = (h 46 4) ∧ (h18 49 4) = (h 49 4) ∧ (h18 49 5) = (h 49 5) ∧ (h18 64 0) = (h 64 0) ∧ (h18 76 0) = (h 76 0) ∧ (h18 36 8) = 58; omega) (by omega)
            · skip
              refine ov_blk (ls2 := [(0, ov_r 36), (1, ov_i s), (2, ov_i x4), (3, ov_i v16), (4, ov_i (x4 + 1)), (5, ov_i v16)]) (st2 := []) (pc2 := 52) b_157_43_5 rfl rfl ?_
              refine ov_goto (tgt := 7) d_157_52 (by decide) ?_
              refine ov_sub (ls2 := [(0, ov_r 36), (1, ov_i s), (2, ov_i x4), (3, ov_i v16), (4, ov_i (x4 + 1))]) (List.Sublist.subset (by repeat (first | exact List.Sublist.refl _ | apply List.Sublist.cons_cons | apply List.Sublist.cons))) ?_
              exact ih2 x4 v16 (x4 + 1) _ _ I19 (by show -1 ≤ x4 ∧ x4 ≤ 53 ∧ ov_g v16 ∧ 0 ≤ (x4 + 1) ∧ (x4 + 1) ≤ 54 ∧ (h18 36 7) = (h 36 7) ∧ (h18 1 1) = (h 1 1) ∧ (h18 90 2) = (h 90 2) ∧ (h18 0 10) = (h 0 10) ∧ (h18 0 11) = (h 0 11) ∧ (h18 0 12) = (h 0 12) ∧ (h18 0 13) = (h 0 13) ∧ (h18 3 1) = (h 3 1) ∧ (h18 36 8) = (h 36 8) ∧ (h18 46 3) = (h 46 3) ∧ (h18 46 4) = (h 46 4) ∧ (h18 49 4) = (h 49 4) ∧ (h18 49 5) = (h 49 5) ∧ (h18 64 0) = (h 64 0) ∧ (h18 76 0) = (h 76 0) ∧ (h18 36 8) = 58; omega) (by omega)
  exact L4 55 (-1) 0 0 _ _ I (by show -1 ≤ (-1) ∧ (-1) ≤ 53 ∧ ov_g 0 ∧ 0 ≤ 0 ∧ 0 ≤ 54 ∧ (h 36 7) = (h 36 7) ∧ (h 1 1) = (h 1 1) ∧ (h 90 2) = (h 90 2) ∧ (h 0 10) = (h 0 10) ∧ (h 0 11) = (h 0 11) ∧ (h 0 12) = (h 0 12) ∧ (h 0 13) = (h 0 13) ∧ (h 3 1) = (h 3 1) ∧ (h 36 8) = (h 36 8) ∧ (h 46 3) = (h 46 3) ∧ (h 46 4) = (h 46 4) ∧ (h 49 4) = (h 49 4) ∧ (h 49 5) = (h 49 5) ∧ (h 64 0) = (h 64 0) ∧ (h 76 0) = (h 76 0) ∧ (h 36 8) = 58; omega) (by omega)
abbrev P_Goers_chanceSeen_36_k36_8_58 (F : ov_H) (z : ov_Z) (h : ov_H) (c : Int) (sp : Int) (sn : Int) : Option ov_V → ov_Z → ov_H → Prop := fun r0 z' h' => ∃ r : Int, r0 = some (ov_i r) ∧ ov_I F z' h' ∧ (-2147483648 ≤ r ∧ r ≤ 2147483647 ∧ h' 36 7 = h 36 7 ∧ h' 1 1 = h 1 1 ∧ h' 90 2 = h 90 2 ∧ h' 0 10 = h 0 10 ∧ h' 0 11 = h 0 11 ∧ h' 0 12 = h 0 12 ∧ h' 0 13 = h 0 13 ∧ h' 3 1 = h 3 1 ∧ h' 36 8 = h 36 8 ∧ h' 46 3 = h 46 3 ∧ h' 46 4 = h 46 4 ∧ h' 49 4 = h 49 4 ∧ h' 49 5 = h 49 5 ∧ h' 64 0 = h 64 0 ∧ h' 76 0 = h 76 0)
abbrev P_Goers_chanceOverRound_36_k36_8_58 (F : ov_H) (z : ov_Z) (h : ov_H) (c : Int) (sp : Int) : Option ov_V → ov_Z → ov_H → Prop := fun r0 z' h' => ∃ r : Int, r0 = some (ov_i r) ∧ ov_I F z' h' ∧ (-2147483648 ≤ r ∧ r ≤ 2147483647 ∧ h' 36 7 = h 36 7 ∧ h' 1 1 = h 1 1 ∧ h' 90 2 = h 90 2 ∧ h' 0 10 = h 0 10 ∧ h' 0 11 = h 0 11 ∧ h' 0 12 = h 0 12 ∧ h' 0 13 = h 0 13 ∧ h' 3 1 = h 3 1 ∧ h' 36 8 = h 36 8 ∧ h' 46 3 = h 46 3 ∧ h' 46 4 = h 46 4 ∧ h' 49 4 = h 49 4 ∧ h' 49 5 = h 49 5 ∧ h' 64 0 = h 64 0 ∧ h' 76 0 = h 76 0)
abbrev P_Goers_chanceAt_36_k36_8_58 (F : ov_H) (z : ov_Z) (h : ov_H) (c : Int) (sp : Int) : Option ov_V → ov_Z → ov_H → Prop := fun r0 z' h' => ∃ r : Int, r0 = some (ov_i r) ∧ ov_I F z' h' ∧ (-2147483648 ≤ r ∧ r ≤ 2147483647 ∧ h' 36 7 = h 36 7 ∧ h' 1 1 = h 1 1 ∧ h' 90 2 = h 90 2 ∧ h' 0 10 = h 0 10 ∧ h' 0 11 = h 0 11 ∧ h' 0 12 = h 0 12 ∧ h' 0 13 = h 0 13 ∧ h' 3 1 = h 3 1 ∧ h' 36 8 = h 36 8 ∧ h' 46 3 = h 46 3 ∧ h' 46 4 = h 46 4 ∧ h' 49 4 = h 49 4 ∧ h' 49 5 = h 49 5 ∧ h' 64 0 = h 64 0 ∧ h' 76 0 = h 76 0)
set_option maxHeartbeats 4000000 in
theorem c_Goers_chanceSeen_36_k36_8_58 {u : ov_U} {F : ov_H} (k : Nat) (HC : ∀ k' : Nat, k' < k → ∀ {z : ov_Z} {h : ov_H} (d : Nat) (hd : (300 + 3 * k' + 2) ≤ d) (U : ov_cap u) (I : ov_I F z h) (hw : ov_kw 590295810358705651712 F) (c : Int) (sp : Int) (k0 : h 36 8 = 58) (g_c : ov_g c) (g_sp : ov_g sp) (p0 : 0 ≤ c ∧ c + (k' : Int) = 53) (p1 : F (-5) 58 = 1), ov_T u d ov_m161 [ov_r 36, ov_i c, ov_i sp] z h (P_Goers_chanceAt_36_k36_8_58 F z h c sp)) {z : ov_Z} {h : ov_H} (d : Nat) (hd : (300 + 3 * k + 0) ≤ d) (U : ov_cap u) (I : ov_I F z h) (hw : ov_kw 590295810358705651712 F) (c : Int) (sp : Int) (sn : Int) (k0 : h 36 8 = 58) (g_c : ov_g c) (g_sp : ov_g sp) (g_sn : ov_g sn) (p0 : 0 ≤ c ∧ c + (k : Int) = 53) (p1 : F (-5) 58 = 1) : ov_T u d ov_m163 [ov_r 36, ov_i c, ov_i sp, ov_i sn] z h (P_Goers_chanceSeen_36_k36_8_58 F z h c sp sn) := by
  refine ov_en rfl (Nat.le_of_ble_eq_true rfl) ?_
  show ov_R u d ov_m163 0 [(0, ov_r 36), (1, ov_i c), (2, ov_i sp), (3, ov_i sn)] [] z h (P_Goers_chanceSeen_36_k36_8_58 F z h c sp sn)
  refine ov_blk (ls2 := [(0, ov_r 36), (1, ov_i c), (2, ov_i sp), (3, ov_i sn)]) (st2 := [ov_r 36, ov_i c, ov_r 36]) (pc2 := 3) b_163_0_3 rfl rfl ?_
  refine ov_getf (v := ov_i (h 36 15)) d_163_3 fl_Goers_172 (zb_36 I) (zs_36 I) rfl ?_
  have g1 := rg_36_15 I
  refine ov_blk (ls2 := [(0, ov_r 36), (1, ov_i c), (2, ov_i sp), (3, ov_i sn)]) (st2 := [ov_i ((h 36 15) + sp), ov_i c, ov_r 36]) (pc2 := 8) b_163_6_2 rfl rfl ?_
  refine ov_hav (fun w2 gw2 => ?_)
  refine ov_blk (ls2 := [(0, ov_r 36), (1, ov_i c), (2, ov_i sp), (3, ov_i sn)]) (st2 := [ov_i sn, ov_i w2, ov_i c, ov_r 36]) (pc2 := 9) b_163_8_1 rfl rfl ?_
  refine ov_cV (as := [ov_i c, ov_i w2, ov_i sn]) (st := []) (d2 := d - 1) d_163_9 lk_Goers_194 rfl (Nat.le_of_ble_eq_true rfl) (c := 2) (zb_36 I) (zs_36 I) ⟨by decide, rfl⟩ (by omega) (c_Goers_wayOf_36_k36_8_58_all (Int.toNat (53 - (c))) (d - 1) (by omega) U I (ov_kws hw (by decide +kernel)) c w2 sn k0 (by omega) (by omega) (by omega) (by omega) (by omega)) ?_
  rintro _ z5 h6 ⟨v4, rfl, I7, f3⟩
  show ov_R u d ov_m163 12 [(0, ov_r 36), (1, ov_i c), (2, ov_i sp), (3, ov_i sn)] [ov_i v4] z5 h6 (P_Goers_chanceSeen_36_k36_8_58 F z h c sp sn)
  have f8 : (v4 = -1 ∨ (v4 = 0 ∧ c ≤ 52) ∨ (v4 = 1 ∧ c ≤ 47)) ∧ (h6 36 7) = (h 36 7) ∧ (h6 1 1) = (h 1 1) ∧ (h6 90 2) = (h 90 2) ∧ (h6 0 10) = (h 0 10) ∧ (h6 0 11) = (h 0 11) ∧ (h6 0 12) = (h 0 12) ∧ (h6 0 13) = (h 0 13) ∧ (h6 3 1) = (h 3 1) ∧ (h6 36 8) = (h 36 8) ∧ (h6 46 3) = (h 46 3) ∧ (h6 46 4) = (h 46 4) ∧ (h6 49 4) = (h 49 4) ∧ (h6 49 5) = (h 49 5) ∧ (h6 64 0) = (h 64 0) ∧ (h6 76 0) = (h 76 0) := f3
  clear f3
  have e9 : h6 36 8 = 58 := by omega
  refine ov_blk (ls2 := [(0, ov_r 36), (1, ov_i c), (2, ov_i sp), (3, ov_i sn), (4, ov_i v4)]) (st2 := [ov_i (-1), ov_i v4]) (pc2 := 17) b_163_12_3 rfl rfl ?_
  refine ov_icne (tgt := 22) d_163_17 (by decide) (by omega) (by omega) (fun c10 => ?_) (fun c10 => ?_)
  · skip
    refine ov_blk (ls2 := [(0, ov_r 36), (1, ov_i c), (2, ov_i sp), (3, ov_i sn), (4, ov_i v4)]) (st2 := [ov_r 36]) (pc2 := 23) b_163_22_1 rfl rfl ?_
    refine ov_getf (v := ov_r 58) d_163_23 fl_Goers_46 (zb_36 I7) (zs_36 I7) (congrArg ov_r e9) ?_
    refine ov_blk (ls2 := [(0, ov_r 36), (1, ov_i c), (2, ov_i sp), (3, ov_i sn), (4, ov_i v4)]) (st2 := [ov_i sn, ov_i v4, ov_i c, ov_r 58]) (pc2 := 30) b_163_26_3 rfl rfl ?_
    refine ov_cV (as := [ov_i c, ov_i v4, ov_i sn]) (st := []) (d2 := d - 1) d_163_30 lk_Goers_114 rfl (Nat.le_of_ble_eq_true rfl) (c := 9) (zb_58 I7) (zs_58 I7) ⟨by decide, rfl⟩ (by omega) (c_Town_waitFor_58 (d - 1) (by omega) U I7 c v4 sn (by omega) (by omega) (by omega) (by omega)) ?_
    rintro _ _ _ ⟨v12, rfl, rfl, rfl, f11⟩
    show ov_R u d ov_m163 33 [(0, ov_r 36), (1, ov_i c), (2, ov_i sp), (3, ov_i sn), (4, ov_i v4)] [ov_i v12] z5 h6 (P_Goers_chanceSeen_36_k36_8_58 F z h c sp sn)
    have f13 : 0 ≤ v12 ∧ v12 ≤ 60 := f11
    clear f11
    refine ov_blk (ls2 := [(0, ov_r 36), (1, ov_i c), (2, ov_i sp), (3, ov_i sn), (4, ov_i v4)]) (st2 := [ov_r 36, ov_i v12]) (pc2 := 34) b_163_33_1 rfl rfl ?_
    refine ov_getf (v := ov_i (h6 36 14)) d_163_34 fl_Goers_64 (zb_36 I7) (zs_36 I7) rfl ?_
    have g14 := rg_36_14 I7
    refine ov_blk (ls2 := [(0, ov_r 36), (1, ov_i c), (2, ov_i sp), (3, ov_i sn), (4, ov_i v4)]) (st2 := [ov_i (v12 + (h6 36 14))]) (pc2 := 38) b_163_37_1 rfl rfl ?_
    refine ov_hav (fun w15 gw15 => ?_)
    refine ov_blk (ls2 := [(0, ov_r 36), (1, ov_i c), (2, ov_i sp), (3, ov_i sn), (4, ov_i v4), (5, ov_i w15)]) (st2 := [ov_r 36, ov_r 36]) (pc2 := 42) b_163_38_3 rfl rfl ?_
    refine ov_getf (v := ov_r 58) d_163_42 fl_Goers_46 (zb_36 I7) (zs_36 I7) (congrArg ov_r e9) ?_
    refine ov_blk (ls2 := [(0, ov_r 36), (1, ov_i c), (2, ov_i sp), (3, ov_i sn), (4, ov_i v4), (5, ov_i w15)]) (st2 := [ov_i v4, ov_i c, ov_r 58, ov_r 36]) (pc2 := 48) b_163_45_2 rfl rfl ?_
    refine ov_cV (as := [ov_i c, ov_i v4]) (st := [ov_r 36]) (d2 := d - 1) d_163_48 lk_Goers_91 rfl (Nat.le_of_ble_eq_true rfl) (c := 9) (zb_58 I7) (zs_58 I7) ⟨by decide, rfl⟩ (by omega) (c_Town_after_58 (d - 1) (by omega) U I7 c v4 (by omega) (by omega) (by omega)) ?_
    rintro _ _ _ ⟨v17, rfl, rfl, rfl, f16⟩
    show ov_R u d ov_m163 51 [(0, ov_r 36), (1, ov_i c), (2, ov_i sp), (3, ov_i sn), (4, ov_i v4), (5, ov_i w15)] [ov_i v17, ov_r 36] z5 h6 (P_Goers_chanceSeen_36_k36_8_58 F z h c sp sn)
    have f18 : (v4 = 0 → v17 = c + 1) ∧ (¬ v4 = 0 → v17 = c + 6) := f16
    clear f16
    refine ov_blk (ls2 := [(0, ov_r 36), (1, ov_i c), (2, ov_i sp), (3, ov_i sn), (4, ov_i v4), (5, ov_i w15)]) (st2 := [ov_i (sp + w15), ov_i v17, ov_r 36]) (pc2 := 55) b_163_51_3 rfl rfl ?_
    refine ov_hav (fun w19 gw19 => ?_)
    refine ov_cV (as := [ov_i v17, ov_i w19]) (st := []) (d2 := d - 1) d_163_55 lk_Goers_184 rfl (Nat.le_of_ble_eq_true rfl) (c := 2) (zb_36 I7) (zs_36 I7) ⟨by decide, rfl⟩ (by omega) (HC (Int.toNat (53 - (v17))) (by omega) (d - 1) (by omega) U I7 (ov_kws hw (by decide +kernel)) v17 w19 e9 (by omega) (by omega) (by omega) (by omega)) ?_
    rintro _ z22 h23 ⟨v21, rfl, I24, f20⟩
    show ov_R u d ov_m163 58 [(0, ov_r 36), (1, ov_i c), (2, ov_i sp), (3, ov_i sn), (4, ov_i v4), (5, ov_i w15)] [ov_i v21] z22 h23 (P_Goers_chanceSeen_36_k36_8_58 F z h c sp sn)
    have f25 : -2147483648 ≤ v21 ∧ v21 ≤ 2147483647 ∧ (h23 36 7) = (h6 36 7) ∧ (h23 1 1) = (h6 1 1) ∧ (h23 90 2) = (h6 90 2) ∧ (h23 0 10) = (h6 0 10) ∧ (h23 0 11) = (h6 0 11) ∧ (h23 0 12) = (h6 0 12) ∧ (h23 0 13) = (h6 0 13) ∧ (h23 3 1) = (h6 3 1) ∧ (h23 36 8) = (h6 36 8) ∧ (h23 46 3) = (h6 46 3) ∧ (h23 46 4) = (h6 46 4) ∧ (h23 49 4) = (h6 49 4) ∧ (h23 49 5) = (h6 49 5) ∧ (h23 64 0) = (h6 64 0) ∧ (h23 76 0) = (h6 76 0) := f20
    clear f20
    have e26 : h23 36 8 = 58 := by omega
    exact ov_reti (st := []) d_163_58 rfl ⟨_, rfl, I24, (by show -2147483648 ≤ v21 ∧ v21 ≤ 2147483647 ∧ (h23 36 7) = (h 36 7) ∧ (h23 1 1) = (h 1 1) ∧ (h23 90 2) = (h 90 2) ∧ (h23 0 10) = (h 0 10) ∧ (h23 0 11) = (h 0 11) ∧ (h23 0 12) = (h 0 12) ∧ (h23 0 13) = (h 0 13) ∧ (h23 3 1) = (h 3 1) ∧ (h23 36 8) = (h 36 8) ∧ (h23 46 3) = (h 46 3) ∧ (h23 46 4) = (h 46 4) ∧ (h23 49 4) = (h 49 4) ∧ (h23 49 5) = (h 49 5) ∧ (h23 64 0) = (h 64 0) ∧ (h23 76 0) = (h 76 0); omega)⟩
  · skip
    refine ov_blk (ls2 := [(0, ov_r 36), (1, ov_i c), (2, ov_i sp), (3, ov_i sn), (4, ov_i v4)]) (st2 := [ov_i 0]) (pc2 := 21) b_163_20_1 rfl rfl ?_
    exact ov_reti (st := []) d_163_21 rfl ⟨_, rfl, I7, (by show -2147483648 ≤ 0 ∧ 0 ≤ 2147483647 ∧ (h6 36 7) = (h 36 7) ∧ (h6 1 1) = (h 1 1) ∧ (h6 90 2) = (h 90 2) ∧ (h6 0 10) = (h 0 10) ∧ (h6 0 11) = (h 0 11) ∧ (h6 0 12) = (h 0 12) ∧ (h6 0 13) = (h 0 13) ∧ (h6 3 1) = (h 3 1) ∧ (h6 36 8) = (h 36 8) ∧ (h6 46 3) = (h 46 3) ∧ (h6 46 4) = (h 46 4) ∧ (h6 49 4) = (h 49 4) ∧ (h6 49 5) = (h 49 5) ∧ (h6 64 0) = (h 64 0) ∧ (h6 76 0) = (h 76 0); omega)⟩
set_option maxHeartbeats 4000000 in
theorem c_Goers_chanceOverRound_36_k36_8_58 {u : ov_U} {F : ov_H} (k : Nat) (HC : ∀ k' : Nat, k' < k → ∀ {z : ov_Z} {h : ov_H} (d : Nat) (hd : (300 + 3 * k' + 2) ≤ d) (U : ov_cap u) (I : ov_I F z h) (hw : ov_kw 590295810358705651712 F) (c : Int) (sp : Int) (k0 : h 36 8 = 58) (g_c : ov_g c) (g_sp : ov_g sp) (p0 : 0 ≤ c ∧ c + (k' : Int) = 53) (p1 : F (-5) 58 = 1), ov_T u d ov_m161 [ov_r 36, ov_i c, ov_i sp] z h (P_Goers_chanceAt_36_k36_8_58 F z h c sp)) {z : ov_Z} {h : ov_H} (d : Nat) (hd : (300 + 3 * k + 1) ≤ d) (U : ov_cap u) (I : ov_I F z h) (hw : ov_kw 590295810358705651712 F) (c : Int) (sp : Int) (k0 : h 36 8 = 58) (g_c : ov_g c) (g_sp : ov_g sp) (p0 : 0 ≤ c ∧ c + (k : Int) = 53) (p1 : F (-5) 58 = 1) : ov_T u d ov_m162 [ov_r 36, ov_i c, ov_i sp] z h (P_Goers_chanceOverRound_36_k36_8_58 F z h c sp) := by
  refine ov_en rfl (Nat.le_of_ble_eq_true rfl) ?_
  show ov_R u d ov_m162 0 [(0, ov_r 36), (1, ov_i c), (2, ov_i sp)] [] z h (P_Goers_chanceOverRound_36_k36_8_58 F z h c sp)
  refine ov_blk (ls2 := [(0, ov_r 36), (1, ov_i c), (2, ov_i sp)]) (st2 := [ov_r 36]) (pc2 := 1) b_162_0_1 rfl rfl ?_
  refine ov_getf (v := ov_r 58) d_162_1 fl_Goers_46 (zb_36 I) (zs_36 I) (congrArg ov_r k0) ?_
  refine ov_getf (v := ov_r 60) d_162_4 fl_Goers_84 (zb_58 I) (zs_58 I) (congrArg ov_r (rg_58_3 I)) ?_
  refine ov_blk (ls2 := [(0, ov_r 36), (1, ov_i c), (2, ov_i sp)]) (st2 := [ov_i c, ov_r 60]) (pc2 := 8) b_162_7_1 rfl rfl ?_
  refine ov_iald d_162_8 (zb_60 I) (zs_60 I) (by omega) ?_
  have g1 := ra_60 I c
  refine ov_blk (ls2 := [(0, ov_r 36), (1, ov_i c), (2, ov_i sp), (3, ov_i (h 60 c)), (4, ov_i 0), (5, ov_i 0)]) (st2 := []) (pc2 := 16) b_162_9_5 rfl rfl ?_
  have L5 : ∀ (n2 : Nat) (x4 : Int) (x5 : Int) (z6 : ov_Z) (h7 : ov_H) (I8 : ov_I F z6 h7) (q4 : ov_g x4 ∧ 0 ≤ x5 ∧ x5 ≤ 60 ∧ (h7 36 7) = (h 36 7) ∧ (h7 1 1) = (h 1 1) ∧ (h7 90 2) = (h 90 2) ∧ (h7 0 10) = (h 0 10) ∧ (h7 0 11) = (h 0 11) ∧ (h7 0 12) = (h 0 12) ∧ (h7 0 13) = (h 0 13) ∧ (h7 3 1) = (h 3 1) ∧ (h7 36 8) = (h 36 8) ∧ (h7 46 3) = (h 46 3) ∧ (h7 46 4) = (h 46 4) ∧ (h7 49 4) = (h 49 4) ∧ (h7 49 5) = (h 49 5) ∧ (h7 64 0) = (h 64 0) ∧ (h7 76 0) = (h 76 0) ∧ h7 36 8 = 58), 60 - x5 < (n2 : Int) → ov_R u d ov_m162 16 [(0, ov_r 36), (1, ov_i c), (2, ov_i sp), (3, ov_i (h 60 c)), (4, ov_i x4), (5, ov_i x5)] [] z6 h7 (P_Goers_chanceOverRound_36_k36_8_58 F z h c sp) := by
    intro n2
    induction n2 with
    | zero =>
      intro x4 x5 z6 h7 I8 q4 hn9
      exact absurd hn9 (by omega)
    | succ n2 ih3 =>
      intro x4 x5 z6 h7 I8 q4 hn9
      have e10 : h7 36 8 = 58 := by omega
      refine ov_blk (ls2 := [(0, ov_r 36), (1, ov_i c), (2, ov_i sp), (3, ov_i (h 60 c)), (4, ov_i x4), (5, ov_i x5)]) (st2 := [ov_i (h 60 c), ov_i x5]) (pc2 := 19) b_162_16_2 rfl rfl ?_
      refine ov_icge (tgt := 41) d_162_19 (by decide) (by omega) (by omega) (fun c11 => ?_) (fun c11 => ?_)
      · skip
        refine ov_blk (ls2 := [(0, ov_r 36), (1, ov_i c), (2, ov_i sp), (3, ov_i (h 60 c)), (4, ov_i x4), (5, ov_i x5)]) (st2 := [ov_i 1, ov_i (h 60 c)]) (pc2 := 43) b_162_41_2 rfl rfl ?_
        refine ov_icge (tgt := 50) d_162_43 (by decide) (by omega) (by omega) (fun c12 => ?_) (fun c12 => ?_)
        · skip
          refine ov_blk (ls2 := [(0, ov_r 36), (1, ov_i c), (2, ov_i sp), (3, ov_i (h 60 c)), (4, ov_i x4), (5, ov_i x5)]) (st2 := [ov_i (h 60 c), ov_i x4]) (pc2 := 53) b_162_50_2 rfl rfl ?_
          refine ov_idiv d_162_53 (by omega) (by omega) (by omega) ?_
          refine ov_hav (fun w13 gw13 => ?_)
          exact ov_reti (st := []) d_162_54 rfl ⟨_, rfl, I8, (by show -2147483648 ≤ w13 ∧ w13 ≤ 2147483647 ∧ (h7 36 7) = (h 36 7) ∧ (h7 1 1) = (h 1 1) ∧ (h7 90 2) = (h 90 2) ∧ (h7 0 10) = (h 0 10) ∧ (h7 0 11) = (h 0 11) ∧ (h7 0 12) = (h 0 12) ∧ (h7 0 13) = (h 0 13) ∧ (h7 3 1) = (h 3 1) ∧ (h7 36 8) = (h 36 8) ∧ (h7 46 3) = (h 46 3) ∧ (h7 46 4) = (h 46 4) ∧ (h7 49 4) = (h 49 4) ∧ (h7 49 5) = (h 49 5) ∧ (h7 64 0) = (h 64 0) ∧ (h7 76 0) = (h 76 0); omega)⟩
        · skip
          refine ov_blk (ls2 := [(0, ov_r 36), (1, ov_i c), (2, ov_i sp), (3, ov_i (h 60 c)), (4, ov_i x4), (5, ov_i x5)]) (st2 := [ov_i 0]) (pc2 := 47) b_162_46_1 rfl rfl ?_
          refine ov_goto (tgt := 54) d_162_47 (by decide) ?_
          exact ov_reti (st := []) d_162_54 rfl ⟨_, rfl, I8, (by show -2147483648 ≤ 0 ∧ 0 ≤ 2147483647 ∧ (h7 36 7) = (h 36 7) ∧ (h7 1 1) = (h 1 1) ∧ (h7 90 2) = (h 90 2) ∧ (h7 0 10) = (h 0 10) ∧ (h7 0 11) = (h 0 11) ∧ (h7 0 12) = (h 0 12) ∧ (h7 0 13) = (h 0 13) ∧ (h7 3 1) = (h 3 1) ∧ (h7 36 8) = (h 36 8) ∧ (h7 46 3) = (h 46 3) ∧ (h7 46 4) = (h 46 4) ∧ (h7 49 4) = (h 49 4) ∧ (h7 49 5) = (h 49 5) ∧ (h7 64 0) = (h 64 0) ∧ (h7 76 0) = (h 76 0); omega)⟩
      · skip
        refine ov_blk (ls2 := [(0, ov_r 36), (1, ov_i c), (2, ov_i sp), (3, ov_i (h 60 c)), (4, ov_i x4), (5, ov_i x5)]) (st2 := [ov_i x5, ov_i sp, ov_i c, ov_r 36, ov_i x4]) (pc2 := 29) b_162_22_5 rfl rfl ?_
        refine ov_cV (as := [ov_i c, ov_i sp, ov_i x5]) (st := [ov_i x4]) (d2 := d - 1) d_162_29 lk_Goers_191 rfl (Nat.le_of_ble_eq_true rfl) (c := 2) (zb_36 I8) (zs_36 I8) ⟨by decide, rfl⟩ (by omega) (c_Goers_chanceSeen_36_k36_8_58 k HC (d - 1) (by omega) U I8 (ov_kws hw (by decide +kernel)) c sp x5 e10 (by omega) (by omega) (by omega) (by omega) (by omega)) ?_
        rintro _ z16 h17 ⟨v15, rfl, I18, f14⟩
        show ov_R u d ov_m162 32 [(0, ov_r 36), (1, ov_i c), (2, ov_i sp), (3, ov_i (h 60 c)), (4, ov_i x4), (5, ov_i x5)] [ov_i v15, ov_i x4] z16 h17 (P_Goers_chanceOverRound_36_k36_8_58 F z h c sp)
        have f19 : -2147483648 ≤ v15 ∧ v15 ≤ 2147483647 ∧ (h17 36 7) = (h7 36 7) ∧ (h17 1 1) = (h7 1 1) ∧ (h17 90 2) = (h7 90 2) ∧ (h17 0 10) = (h7 0 10) ∧ (h17 0 11) = (h7 0 11) ∧ (h17 0 12) = (h7 0 12) ∧ (h17 0 13) = (h7 0 13) ∧ (h17 3 1) = (h7 3 1) ∧ (h17 36 8) = (h7 36 8) ∧ (h17 46 3) = (h7 46 3) ∧ (h17 46 4) = (h7 46 4) ∧ (h17 49 4) = (h7 49 4) ∧ (h17 49 5) = (h7 49 5) ∧ (h17 64 0) = (h7 64 0) ∧ (h17 76 0) = (h7 76 0) := f14
        clear f14
        have e20 : h17 36 8 = 58 := by omega
        refine ov_blk (ls2 := [(0, ov_r 36), (1, ov_i c), (2, ov_i sp), (3, ov_i (h 60 c)), (4, ov_i x4), (5, ov_i x5)]) (st2 := [ov_i (x4 + v15)]) (pc2 := 33) b_162_32_1 rfl rfl ?_
        refine ov_hav (fun w21 gw21 => ?_)
        refine ov_blk (ls2 := [(0, ov_r 36), (1, ov_i c), (2, ov_i sp), (3, ov_i (h 60 c)), (4, ov_i w21), (5, ov_i (x5 + 1))]) (st2 := []) (pc2 := 38) b_162_33_2 rfl rfl ?_
        refine ov_goto (tgt := 16) d_162_38 (by decide) ?_
        exact ih3 w21 (x5 + 1) _ _ I18 (by show ov_g w21 ∧ 0 ≤ (x5 + 1) ∧ (x5 + 1) ≤ 60 ∧ (h17 36 7) = (h 36 7) ∧ (h17 1 1) = (h 1 1) ∧ (h17 90 2) = (h 90 2) ∧ (h17 0 10) = (h 0 10) ∧ (h17 0 11) = (h 0 11) ∧ (h17 0 12) = (h 0 12) ∧ (h17 0 13) = (h 0 13) ∧ (h17 3 1) = (h 3 1) ∧ (h17 36 8) = (h 36 8) ∧ (h17 46 3) = (h 46 3) ∧ (h17 46 4) = (h 46 4) ∧ (h17 49 4) = (h 49 4) ∧ (h17 49 5) = (h 49 5) ∧ (h17 64 0) = (h 64 0) ∧ (h17 76 0) = (h 76 0) ∧ (h17 36 8) = 58; omega) (by omega)
  exact L5 61 0 0 _ _ I (by show ov_g 0 ∧ 0 ≤ 0 ∧ 0 ≤ 60 ∧ (h 36 7) = (h 36 7) ∧ (h 1 1) = (h 1 1) ∧ (h 90 2) = (h 90 2) ∧ (h 0 10) = (h 0 10) ∧ (h 0 11) = (h 0 11) ∧ (h 0 12) = (h 0 12) ∧ (h 0 13) = (h 0 13) ∧ (h 3 1) = (h 3 1) ∧ (h 36 8) = (h 36 8) ∧ (h 46 3) = (h 46 3) ∧ (h 46 4) = (h 46 4) ∧ (h 49 4) = (h 49 4) ∧ (h 49 5) = (h 49 5) ∧ (h 64 0) = (h 64 0) ∧ (h 76 0) = (h 76 0) ∧ (h 36 8) = 58; omega) (by omega)
set_option maxHeartbeats 4000000 in
theorem c_Goers_chanceAt_36_k36_8_58 {u : ov_U} {F : ov_H} (k : Nat) (HC : ∀ k' : Nat, k' < k → ∀ {z : ov_Z} {h : ov_H} (d : Nat) (hd : (300 + 3 * k' + 2) ≤ d) (U : ov_cap u) (I : ov_I F z h) (hw : ov_kw 590295810358705651712 F) (c : Int) (sp : Int) (k0 : h 36 8 = 58) (g_c : ov_g c) (g_sp : ov_g sp) (p0 : 0 ≤ c ∧ c + (k' : Int) = 53) (p1 : F (-5) 58 = 1), ov_T u d ov_m161 [ov_r 36, ov_i c, ov_i sp] z h (P_Goers_chanceAt_36_k36_8_58 F z h c sp)) {z : ov_Z} {h : ov_H} (d : Nat) (hd : (300 + 3 * k + 2) ≤ d) (U : ov_cap u) (I : ov_I F z h) (hw : ov_kw 590295810358705651712 F) (c : Int) (sp : Int) (k0 : h 36 8 = 58) (g_c : ov_g c) (g_sp : ov_g sp) (p0 : 0 ≤ c ∧ c + (k : Int) = 53) (p1 : F (-5) 58 = 1) : ov_T u d ov_m161 [ov_r 36, ov_i c, ov_i sp] z h (P_Goers_chanceAt_36_k36_8_58 F z h c sp) := by
  refine ov_en rfl (Nat.le_of_ble_eq_true rfl) ?_
  show ov_R u d ov_m161 0 [(0, ov_r 36), (1, ov_i c), (2, ov_i sp)] [] z h (P_Goers_chanceAt_36_k36_8_58 F z h c sp)
  refine ov_blk (ls2 := [(0, ov_r 36), (1, ov_i c), (2, ov_i sp)]) (st2 := [ov_r 36]) (pc2 := 1) b_161_0_1 rfl rfl ?_
  refine ov_getf (v := ov_i (h 36 15)) d_161_1 fl_Goers_172 (zb_36 I) (zs_36 I) rfl ?_
  have g1 := rg_36_15 I
  refine ov_blk (ls2 := [(0, ov_r 36), (1, ov_i c), (2, ov_i sp)]) (st2 := [ov_i ((h 36 15) + sp)]) (pc2 := 6) b_161_4_2 rfl rfl ?_
  refine ov_hav (fun w2 gw2 => ?_)
  refine ov_blk (ls2 := [(0, ov_r 36), (1, ov_i c), (2, ov_i sp)]) (st2 := [ov_r 36, ov_i w2]) (pc2 := 7) b_161_6_1 rfl rfl ?_
  refine ov_getf (v := ov_i (h 36 16)) d_161_7 fl_Goers_175 (zb_36 I) (zs_36 I) rfl ?_
  have g3 := rg_36_16 I
  refine ov_icgt (tgt := 21) d_161_10 (by decide) (by omega) (by omega) (fun c4 => ?_) (fun c4 => ?_)
  · skip
    refine ov_blk (ls2 := [(0, ov_r 36), (1, ov_i c), (2, ov_i sp)]) (st2 := [ov_i 0]) (pc2 := 22) b_161_21_1 rfl rfl ?_
    exact ov_reti (st := []) d_161_22 rfl ⟨_, rfl, I, (by show -2147483648 ≤ 0 ∧ 0 ≤ 2147483647 ∧ (h 36 7) = (h 36 7) ∧ (h 1 1) = (h 1 1) ∧ (h 90 2) = (h 90 2) ∧ (h 0 10) = (h 0 10) ∧ (h 0 11) = (h 0 11) ∧ (h 0 12) = (h 0 12) ∧ (h 0 13) = (h 0 13) ∧ (h 3 1) = (h 3 1) ∧ (h 36 8) = (h 36 8) ∧ (h 46 3) = (h 46 3) ∧ (h 46 4) = (h 46 4) ∧ (h 49 4) = (h 49 4) ∧ (h 49 5) = (h 49 5) ∧ (h 64 0) = (h 64 0) ∧ (h 76 0) = (h 76 0); omega)⟩
  · skip
    refine ov_blk (ls2 := [(0, ov_r 36), (1, ov_i c), (2, ov_i sp)]) (st2 := [ov_r 36, ov_i sp]) (pc2 := 15) b_161_13_2 rfl rfl ?_
    refine ov_getf (v := ov_i (h 36 17)) d_161_15 fl_Goers_181 (zb_36 I) (zs_36 I) rfl ?_
    have g5 := rg_36_17 I
    refine ov_iclt (tgt := 23) d_161_18 (by decide) (by omega) (by omega) (fun c6 => ?_) (fun c6 => ?_)
    · skip
      refine ov_blk (ls2 := [(0, ov_r 36), (1, ov_i c), (2, ov_i sp)]) (st2 := [ov_r 36, ov_i c]) (pc2 := 25) b_161_23_2 rfl rfl ?_
      refine ov_getf (v := ov_i (h 36 13)) d_161_25 fl_Goers_59 (zb_36 I) (zs_36 I) rfl ?_
      have g7 := rg_36_13 I
      refine ov_icne (tgt := 34) d_161_28 (by decide) (by omega) (by omega) (fun c8 => ?_) (fun c8 => ?_)
      · skip
        refine ov_blk (ls2 := [(0, ov_r 36), (1, ov_i c), (2, ov_i sp)]) (st2 := [ov_r 36, ov_i c]) (pc2 := 36) b_161_34_2 rfl rfl ?_
        refine ov_getf (v := ov_i (h 36 17)) d_161_36 fl_Goers_181 (zb_36 I) (zs_36 I) rfl ?_
        refine ov_blk (ls2 := [(0, ov_r 36), (1, ov_i c), (2, ov_i sp)]) (st2 := [ov_i (c * (h 36 17))]) (pc2 := 40) b_161_39_1 rfl rfl ?_
        refine ov_hav (fun w10 gw10 => ?_)
        refine ov_blk (ls2 := [(0, ov_r 36), (1, ov_i c), (2, ov_i sp)]) (st2 := [ov_i (w10 + sp)]) (pc2 := 42) b_161_40_2 rfl rfl ?_
        refine ov_hav (fun w11 gw11 => ?_)
        refine ov_blk (ls2 := [(0, ov_r 36), (1, ov_i c), (2, ov_i sp), (3, ov_i w11)]) (st2 := [ov_r 36]) (pc2 := 44) b_161_42_2 rfl rfl ?_
        refine ov_getf (v := ov_r 40) d_161_44 fl_Goers_18 (zb_36 I) (zs_36 I) (congrArg ov_r (rg_36_3 I)) ?_
        refine ov_blk (ls2 := [(0, ov_r 36), (1, ov_i c), (2, ov_i sp), (3, ov_i w11)]) (st2 := [ov_i w11, ov_i c, ov_r 40]) (pc2 := 49) b_161_47_2 rfl rfl ?_
        refine ov_cV (as := [ov_i c, ov_i w11]) (st := []) (d2 := d - 1) d_161_49 lk_Goers_101 rfl (Nat.le_of_ble_eq_true rfl) (c := 4) (zb_40 I) (zs_40 I) ⟨by decide, rfl⟩ (by omega) (c_Memo_holds_40 (d - 1) (by omega) U I c w11 (by omega) (by omega) (by omega)) ?_
        rintro _ _ _ ⟨v13, rfl, rfl, rfl, f12⟩
        show ov_R u d ov_m161 52 [(0, ov_r 36), (1, ov_i c), (2, ov_i sp), (3, ov_i w11)] [ov_i v13] z h (P_Goers_chanceAt_36_k36_8_58 F z h c sp)
        have f14 : (v13 = 0 ∨ v13 = 1) ∧ (v13 = 1 → 0 ≤ w11 ∧ w11 < (((z.2.2 (h 40 0)).2 : Nat) : Int)) := f12
        clear f12
        refine ov_ifeq (tgt := 64) d_161_52 (by decide) (by omega) (fun c15 => ?_) (fun c15 => ?_)
        · skip
          refine ov_blk (ls2 := [(0, ov_r 36), (1, ov_i c), (2, ov_i sp), (3, ov_i w11)]) (st2 := [ov_i c, ov_r 36]) (pc2 := 66) b_161_64_2 rfl rfl ?_
          refine ov_cV (as := [ov_i c]) (st := []) (d2 := d - 1) d_161_66 lk_Goers_81 rfl (Nat.le_of_ble_eq_true rfl) (c := 2) (zb_36 I) (zs_36 I) ⟨by decide, rfl⟩ (by omega) (c_Goers_hides_36_k36_8_58 (d - 1) (by omega) U I c k0 (by omega) (by omega)) ?_
          rintro _ _ _ ⟨v17, rfl, rfl, rfl, f16⟩
          show ov_R u d ov_m161 69 [(0, ov_r 36), (1, ov_i c), (2, ov_i sp), (3, ov_i w11)] [ov_i v17] z h (P_Goers_chanceAt_36_k36_8_58 F z h c sp)
          have f18 : (v17 = 0 ∨ v17 = 1) := f16
          clear f16
          refine ov_ifeq (tgt := 81) d_161_69 (by decide) (by omega) (fun c19 => ?_) (fun c19 => ?_)
          · skip
            refine ov_blk (ls2 := [(0, ov_r 36), (1, ov_i c), (2, ov_i sp), (3, ov_i w11)]) (st2 := [ov_r 36, ov_i sp, ov_i c, ov_r 36]) (pc2 := 85) b_161_81_4 rfl rfl ?_
            refine ov_getf (v := ov_i (h 36 15)) d_161_85 fl_Goers_172 (zb_36 I) (zs_36 I) rfl ?_
            refine ov_blk (ls2 := [(0, ov_r 36), (1, ov_i c), (2, ov_i sp), (3, ov_i w11)]) (st2 := [ov_i ((h 36 15) + sp), ov_i sp, ov_i c, ov_r 36]) (pc2 := 90) b_161_88_2 rfl rfl ?_
            refine ov_hav (fun w21 gw21 => ?_)
            refine ov_cV (as := [ov_i c, ov_i sp, ov_i w21]) (st := []) (d2 := d - 1) d_161_90 lk_Goers_191 rfl (Nat.le_of_ble_eq_true rfl) (c := 2) (zb_36 I) (zs_36 I) ⟨by decide, rfl⟩ (by omega) (c_Goers_chanceSeen_36_k36_8_58 k HC (d - 1) (by omega) U I (ov_kws hw (by decide +kernel)) c sp w21 k0 (by omega) (by omega) (by omega) (by omega) (by omega)) ?_
            rintro _ z24 h25 ⟨v23, rfl, I26, f22⟩
            show ov_R u d ov_m161 93 [(0, ov_r 36), (1, ov_i c), (2, ov_i sp), (3, ov_i w11)] [ov_i v23] z24 h25 (P_Goers_chanceAt_36_k36_8_58 F z h c sp)
            have f27 : -2147483648 ≤ v23 ∧ v23 ≤ 2147483647 ∧ (h25 36 7) = (h 36 7) ∧ (h25 1 1) = (h 1 1) ∧ (h25 90 2) = (h 90 2) ∧ (h25 0 10) = (h 0 10) ∧ (h25 0 11) = (h 0 11) ∧ (h25 0 12) = (h 0 12) ∧ (h25 0 13) = (h 0 13) ∧ (h25 3 1) = (h 3 1) ∧ (h25 36 8) = (h 36 8) ∧ (h25 46 3) = (h 46 3) ∧ (h25 46 4) = (h 46 4) ∧ (h25 49 4) = (h 49 4) ∧ (h25 49 5) = (h 49 5) ∧ (h25 64 0) = (h 64 0) ∧ (h25 76 0) = (h 76 0) := f22
            clear f22
            have e28 : h25 36 8 = 58 := by omega
            refine ov_blk (ls2 := [(0, ov_r 36), (1, ov_i c), (2, ov_i sp), (3, ov_i w11), (4, ov_i v23)]) (st2 := [ov_r 36]) (pc2 := 96) b_161_93_2 rfl rfl ?_
            refine ov_getf (v := ov_r 40) d_161_96 fl_Goers_18 (zb_36 I26) (zs_36 I26) (congrArg ov_r (rg_36_3 I26)) ?_
            refine ov_blk (ls2 := [(0, ov_r 36), (1, ov_i c), (2, ov_i sp), (3, ov_i w11), (4, ov_i v23)]) (st2 := [ov_i v23, ov_i w11, ov_i c, ov_r 40]) (pc2 := 103) b_161_99_3 rfl rfl ?_
            refine ov_cV (as := [ov_i c, ov_i w11, ov_i v23]) (st := []) (d2 := d - 1) d_161_103 lk_Goers_122 rfl (Nat.le_of_ble_eq_true rfl) (c := 4) (zb_40 I26) (zs_40 I26) ⟨by decide, rfl⟩ (by omega) (c_Memo_put_40 (d - 1) (by omega) U I26 c w11 v23 (by omega) (by omega) (by omega) (by omega)) ?_
            rintro _ z30 h31 ⟨rfl, I32, f29⟩
            show ov_R u d ov_m161 106 [(0, ov_r 36), (1, ov_i c), (2, ov_i sp), (3, ov_i w11), (4, ov_i v23)] [] z30 h31 (P_Goers_chanceAt_36_k36_8_58 F z h c sp)
            have f33 : (h31 36 7) = (h25 36 7) ∧ (h31 1 1) = (h25 1 1) ∧ (h31 90 2) = (h25 90 2) ∧ (h31 0 10) = (h25 0 10) ∧ (h31 0 11) = (h25 0 11) ∧ (h31 0 12) = (h25 0 12) ∧ (h31 0 13) = (h25 0 13) ∧ (h31 3 1) = (h25 3 1) ∧ (h31 36 8) = (h25 36 8) ∧ (h31 46 3) = (h25 46 3) ∧ (h31 46 4) = (h25 46 4) ∧ (h31 49 4) = (h25 49 4) ∧ (h31 49 5) = (h25 49 5) ∧ (h31 64 0) = (h25 64 0) ∧ (h31 76 0) = (h25 76 0) := f29
            clear f29
            have e34 : h31 36 8 = 58 := by omega
            refine ov_blk (ls2 := [(0, ov_r 36), (1, ov_i c), (2, ov_i sp), (3, ov_i w11), (4, ov_i v23)]) (st2 := [ov_i v23]) (pc2 := 108) b_161_106_1 rfl rfl ?_
            exact ov_reti (st := []) d_161_108 rfl ⟨_, rfl, I32, (by show -2147483648 ≤ v23 ∧ v23 ≤ 2147483647 ∧ (h31 36 7) = (h 36 7) ∧ (h31 1 1) = (h 1 1) ∧ (h31 90 2) = (h 90 2) ∧ (h31 0 10) = (h 0 10) ∧ (h31 0 11) = (h 0 11) ∧ (h31 0 12) = (h 0 12) ∧ (h31 0 13) = (h 0 13) ∧ (h31 3 1) = (h 3 1) ∧ (h31 36 8) = (h 36 8) ∧ (h31 46 3) = (h 46 3) ∧ (h31 46 4) = (h 46 4) ∧ (h31 49 4) = (h 49 4) ∧ (h31 49 5) = (h 49 5) ∧ (h31 64 0) = (h 64 0) ∧ (h31 76 0) = (h 76 0); omega)⟩
          · skip
            refine ov_blk (ls2 := [(0, ov_r 36), (1, ov_i c), (2, ov_i sp), (3, ov_i w11)]) (st2 := [ov_i sp, ov_i c, ov_r 36]) (pc2 := 75) b_161_72_3 rfl rfl ?_
            refine ov_cV (as := [ov_i c, ov_i sp]) (st := []) (d2 := d - 1) d_161_75 lk_Goers_188 rfl (Nat.le_of_ble_eq_true rfl) (c := 2) (zb_36 I) (zs_36 I) ⟨by decide, rfl⟩ (by omega) (c_Goers_chanceOverRound_36_k36_8_58 k HC (d - 1) (by omega) U I (ov_kws hw (by decide +kernel)) c sp k0 (by omega) (by omega) (by omega) (by omega)) ?_
            rintro _ z37 h38 ⟨v36, rfl, I39, f35⟩
            show ov_R u d ov_m161 78 [(0, ov_r 36), (1, ov_i c), (2, ov_i sp), (3, ov_i w11)] [ov_i v36] z37 h38 (P_Goers_chanceAt_36_k36_8_58 F z h c sp)
            have f40 : -2147483648 ≤ v36 ∧ v36 ≤ 2147483647 ∧ (h38 36 7) = (h 36 7) ∧ (h38 1 1) = (h 1 1) ∧ (h38 90 2) = (h 90 2) ∧ (h38 0 10) = (h 0 10) ∧ (h38 0 11) = (h 0 11) ∧ (h38 0 12) = (h 0 12) ∧ (h38 0 13) = (h 0 13) ∧ (h38 3 1) = (h 3 1) ∧ (h38 36 8) = (h 36 8) ∧ (h38 46 3) = (h 46 3) ∧ (h38 46 4) = (h 46 4) ∧ (h38 49 4) = (h 49 4) ∧ (h38 49 5) = (h 49 5) ∧ (h38 64 0) = (h 64 0) ∧ (h38 76 0) = (h 76 0) := f35
            clear f35
            have e41 : h38 36 8 = 58 := by omega
            refine ov_goto (tgt := 93) d_161_78 (by decide) ?_
            refine ov_blk (ls2 := [(0, ov_r 36), (1, ov_i c), (2, ov_i sp), (3, ov_i w11), (4, ov_i v36)]) (st2 := [ov_r 36]) (pc2 := 96) b_161_93_2 rfl rfl ?_
            refine ov_getf (v := ov_r 40) d_161_96 fl_Goers_18 (zb_36 I39) (zs_36 I39) (congrArg ov_r (rg_36_3 I39)) ?_
            refine ov_blk (ls2 := [(0, ov_r 36), (1, ov_i c), (2, ov_i sp), (3, ov_i w11), (4, ov_i v36)]) (st2 := [ov_i v36, ov_i w11, ov_i c, ov_r 40]) (pc2 := 103) b_161_99_3 rfl rfl ?_
            refine ov_cV (as := [ov_i c, ov_i w11, ov_i v36]) (st := []) (d2 := d - 1) d_161_103 lk_Goers_122 rfl (Nat.le_of_ble_eq_true rfl) (c := 4) (zb_40 I39) (zs_40 I39) ⟨by decide, rfl⟩ (by omega) (c_Memo_put_40 (d - 1) (by omega) U I39 c w11 v36 (by omega) (by omega) (by omega) (by omega)) ?_
            rintro _ z43 h44 ⟨rfl, I45, f42⟩
            show ov_R u d ov_m161 106 [(0, ov_r 36), (1, ov_i c), (2, ov_i sp), (3, ov_i w11), (4, ov_i v36)] [] z43 h44 (P_Goers_chanceAt_36_k36_8_58 F z h c sp)
            have f46 : (h44 36 7) = (h38 36 7) ∧ (h44 1 1) = (h38 1 1) ∧ (h44 90 2) = (h38 90 2) ∧ (h44 0 10) = (h38 0 10) ∧ (h44 0 11) = (h38 0 11) ∧ (h44 0 12) = (h38 0 12) ∧ (h44 0 13) = (h38 0 13) ∧ (h44 3 1) = (h38 3 1) ∧ (h44 36 8) = (h38 36 8) ∧ (h44 46 3) = (h38 46 3) ∧ (h44 46 4) = (h38 46 4) ∧ (h44 49 4) = (h38 49 4) ∧ (h44 49 5) = (h38 49 5) ∧ (h44 64 0) = (h38 64 0) ∧ (h44 76 0) = (h38 76 0) := f42
            clear f42
            have e47 : h44 36 8 = 58 := by omega
            refine ov_blk (ls2 := [(0, ov_r 36), (1, ov_i c), (2, ov_i sp), (3, ov_i w11), (4, ov_i v36)]) (st2 := [ov_i v36]) (pc2 := 108) b_161_106_1 rfl rfl ?_
            exact ov_reti (st := []) d_161_108 rfl ⟨_, rfl, I45, (by show -2147483648 ≤ v36 ∧ v36 ≤ 2147483647 ∧ (h44 36 7) = (h 36 7) ∧ (h44 1 1) = (h 1 1) ∧ (h44 90 2) = (h 90 2) ∧ (h44 0 10) = (h 0 10) ∧ (h44 0 11) = (h 0 11) ∧ (h44 0 12) = (h 0 12) ∧ (h44 0 13) = (h 0 13) ∧ (h44 3 1) = (h 3 1) ∧ (h44 36 8) = (h 36 8) ∧ (h44 46 3) = (h 46 3) ∧ (h44 46 4) = (h 46 4) ∧ (h44 49 4) = (h 49 4) ∧ (h44 49 5) = (h 49 5) ∧ (h44 64 0) = (h 64 0) ∧ (h44 76 0) = (h 76 0); omega)⟩
        · skip
          refine ov_blk (ls2 := [(0, ov_r 36), (1, ov_i c), (2, ov_i sp), (3, ov_i w11)]) (st2 := [ov_r 36]) (pc2 := 56) b_161_55_1 rfl rfl ?_
          refine ov_getf (v := ov_r 40) d_161_56 fl_Goers_18 (zb_36 I) (zs_36 I) (congrArg ov_r (rg_36_3 I)) ?_
          refine ov_blk (ls2 := [(0, ov_r 36), (1, ov_i c), (2, ov_i sp), (3, ov_i w11)]) (st2 := [ov_i w11, ov_r 40]) (pc2 := 60) b_161_59_1 rfl rfl ?_
          refine ov_cV (as := [ov_i w11]) (st := []) (d2 := d - 1) d_161_60 lk_Goers_104 rfl (Nat.le_of_ble_eq_true rfl) (c := 4) (zb_40 I) (zs_40 I) ⟨by decide, rfl⟩ (by omega) (c_Memo_number_40 (d - 1) (by omega) U I w11 (by omega) (by omega)) ?_
          rintro _ _ _ ⟨v49, rfl, rfl, rfl, f48⟩
          show ov_R u d ov_m161 63 [(0, ov_r 36), (1, ov_i c), (2, ov_i sp), (3, ov_i w11)] [ov_i v49] z h (P_Goers_chanceAt_36_k36_8_58 F z h c sp)
          have f50 : -2147483648 ≤ v49 ∧ v49 ≤ 2147483647 := f48
          clear f48
          exact ov_reti (st := []) d_161_63 rfl ⟨_, rfl, I, (by show -2147483648 ≤ v49 ∧ v49 ≤ 2147483647 ∧ (h 36 7) = (h 36 7) ∧ (h 1 1) = (h 1 1) ∧ (h 90 2) = (h 90 2) ∧ (h 0 10) = (h 0 10) ∧ (h 0 11) = (h 0 11) ∧ (h 0 12) = (h 0 12) ∧ (h 0 13) = (h 0 13) ∧ (h 3 1) = (h 3 1) ∧ (h 36 8) = (h 36 8) ∧ (h 46 3) = (h 46 3) ∧ (h 46 4) = (h 46 4) ∧ (h 49 4) = (h 49 4) ∧ (h 49 5) = (h 49 5) ∧ (h 64 0) = (h 64 0) ∧ (h 76 0) = (h 76 0); omega)⟩
      · skip
        refine ov_ldc (n := 1000000) d_161_31 kc_Goers_187 ?_
        exact ov_reti (st := []) d_161_33 rfl ⟨_, rfl, I, (by show -2147483648 ≤ 1000000 ∧ 1000000 ≤ 2147483647 ∧ (h 36 7) = (h 36 7) ∧ (h 1 1) = (h 1 1) ∧ (h 90 2) = (h 90 2) ∧ (h 0 10) = (h 0 10) ∧ (h 0 11) = (h 0 11) ∧ (h 0 12) = (h 0 12) ∧ (h 0 13) = (h 0 13) ∧ (h 3 1) = (h 3 1) ∧ (h 36 8) = (h 36 8) ∧ (h 46 3) = (h 46 3) ∧ (h 46 4) = (h 46 4) ∧ (h 49 4) = (h 49 4) ∧ (h 49 5) = (h 49 5) ∧ (h 64 0) = (h 64 0) ∧ (h 76 0) = (h 76 0); omega)⟩
    · skip
      refine ov_blk (ls2 := [(0, ov_r 36), (1, ov_i c), (2, ov_i sp)]) (st2 := [ov_i 0]) (pc2 := 22) b_161_21_1 rfl rfl ?_
      exact ov_reti (st := []) d_161_22 rfl ⟨_, rfl, I, (by show -2147483648 ≤ 0 ∧ 0 ≤ 2147483647 ∧ (h 36 7) = (h 36 7) ∧ (h 1 1) = (h 1 1) ∧ (h 90 2) = (h 90 2) ∧ (h 0 10) = (h 0 10) ∧ (h 0 11) = (h 0 11) ∧ (h 0 12) = (h 0 12) ∧ (h 0 13) = (h 0 13) ∧ (h 3 1) = (h 3 1) ∧ (h 36 8) = (h 36 8) ∧ (h 46 3) = (h 46 3) ∧ (h 46 4) = (h 46 4) ∧ (h 49 4) = (h 49 4) ∧ (h 49 5) = (h 49 5) ∧ (h 64 0) = (h 64 0) ∧ (h 76 0) = (h 76 0); omega)⟩
theorem c_Goers_chanceAt_36_k36_8_58_all {u : ov_U} {F : ov_H} (k : Nat) : ∀ {z : ov_Z} {h : ov_H} (d : Nat) (hd : (300 + 3 * k + 2) ≤ d) (U : ov_cap u) (I : ov_I F z h) (hw : ov_kw 590295810358705651712 F) (c : Int) (sp : Int) (k0 : h 36 8 = 58) (g_c : ov_g c) (g_sp : ov_g sp) (p0 : 0 ≤ c ∧ c + (k : Int) = 53) (p1 : F (-5) 58 = 1), ov_T u d ov_m161 [ov_r 36, ov_i c, ov_i sp] z h (P_Goers_chanceAt_36_k36_8_58 F z h c sp) := by
  induction k using Nat.strongRecOn with
  | ind k ih => exact fun {z} {h} => @c_Goers_chanceAt_36_k36_8_58 u F k (fun k' hk => @ih k' hk) z h
abbrev P_Goers_chanceOf_36_k36_8_58 (F : ov_H) (z : ov_Z) (h : ov_H) (s : Int) (by_ : Int) : Option ov_V → ov_Z → ov_H → Prop := fun r0 z' h' => ∃ r : Int, r0 = some (ov_i r) ∧ ov_I F z' h' ∧ (-2147483648 ≤ r ∧ r ≤ 2147483647 ∧ (h' 36 7) = (h 36 7) ∧ (h' 1 1) = (h 1 1) ∧ (h' 90 2) = (h 90 2) ∧ (h' 0 10) = (h 0 10) ∧ (h' 0 11) = (h 0 11) ∧ (h' 0 12) = (h 0 12) ∧ (h' 0 13) = (h 0 13) ∧ (h' 3 1) = (h 3 1) ∧ (h' 36 8) = (h 36 8) ∧ (h' 46 3) = (h 46 3) ∧ (h' 46 4) = (h 46 4) ∧ (h' 49 4) = (h 49 4) ∧ (h' 49 5) = (h 49 5) ∧ (h' 64 0) = (h 64 0) ∧ (h' 76 0) = (h 76 0))
set_option maxHeartbeats 4000000 in
theorem c_Goers_chanceOf_36_k36_8_58 {u : ov_U} {F : ov_H} {z : ov_Z} {h : ov_H} (d : Nat) (hd : 500 ≤ d) (U : ov_cap u) (I : ov_I F z h) (hw : ov_kw 590295810358705651712 F) (s : Int) (by_ : Int) (k0 : h 36 8 = 58) (g_s : ov_g s) (g_by_ : ov_g by_) (p0 : F (-5) 58 = 1) : ov_T u d ov_m159 [ov_r 36, ov_i s, ov_i by_] z h (P_Goers_chanceOf_36_k36_8_58 F z h s by_) := by
  refine ov_en rfl (Nat.le_of_ble_eq_true rfl) ?_
  show ov_R u d ov_m159 0 [(0, ov_r 36), (1, ov_i s), (2, ov_i by_)] [] z h (P_Goers_chanceOf_36_k36_8_58 F z h s by_)
  refine ov_blk (ls2 := [(0, ov_r 36), (1, ov_i s), (2, ov_i by_)]) (st2 := [ov_i s, ov_r 36]) (pc2 := 2) b_159_0_2 rfl rfl ?_
  refine ov_putf (x := s) d_159_2 fl_Goers_172 (zb_36 I) (zs_36 I) rfl nk_0 rfl ?_
  have I1 := up_36_15 (x := s) I (by omega)
  refine ov_blk (ls2 := [(0, ov_r 36), (1, ov_i s), (2, ov_i by_)]) (st2 := [ov_i by_, ov_r 36]) (pc2 := 7) b_159_5_2 rfl rfl ?_
  refine ov_putf (x := by_) d_159_7 fl_Goers_175 (zb_36 I1) (zs_36 I1) rfl nk_0 rfl ?_
  have I2 := up_36_16 (x := by_) I1 (by omega)
  refine ov_blk (ls2 := [(0, ov_r 36), (1, ov_i s), (2, ov_i by_)]) (st2 := [ov_r 36, ov_r 36]) (pc2 := 12) b_159_10_2 rfl rfl ?_
  refine ov_getf (v := ov_r 58) d_159_12 fl_Goers_46 (zb_36 I2) (zs_36 I2) (congrArg ov_r k0) ?_
  refine ov_cV (as := []) (st := [ov_r 36]) (d2 := d - 1) d_159_15 lk_Goers_178 rfl (Nat.le_of_ble_eq_true rfl) (c := 9) (zb_58 I2) (zs_58 I2) ⟨by decide, rfl⟩ (by omega) (c_Town_longestWay_58 (d - 1) (by omega) U I2 (by omega)) ?_
  rintro _ _ _ ⟨v4, rfl, rfl, rfl, f3⟩
  show ov_R u d ov_m159 18 [(0, ov_r 36), (1, ov_i s), (2, ov_i by_)] [ov_i v4, ov_r 36] z (ov_up (ov_up h 36 15 s) 36 16 by_) (P_Goers_chanceOf_36_k36_8_58 F z h s by_)
  have f5 : -13 ≤ v4 ∧ v4 ≤ 1157 := f3
  clear f3
  refine ov_blk (ls2 := [(0, ov_r 36), (1, ov_i s), (2, ov_i by_)]) (st2 := [ov_i (v4 + 1), ov_r 36]) (pc2 := 20) b_159_18_2 rfl rfl ?_
  refine ov_putf (x := (v4 + 1)) d_159_20 fl_Goers_181 (zb_36 I2) (zs_36 I2) rfl nk_0 rfl ?_
  have I6 := up_36_17 (x := (v4 + 1)) I2 (by omega)
  refine ov_blk (ls2 := [(0, ov_r 36), (1, ov_i s), (2, ov_i by_)]) (st2 := [ov_r 36]) (pc2 := 24) b_159_23_1 rfl rfl ?_
  refine ov_getf (v := ov_r 40) d_159_24 fl_Goers_18 (zb_36 I6) (zs_36 I6) (congrArg ov_r (rg_36_3 I6)) ?_
  refine ov_blk (ls2 := [(0, ov_r 36), (1, ov_i s), (2, ov_i by_)]) (st2 := [ov_r 36, ov_r 40]) (pc2 := 28) b_159_27_1 rfl rfl ?_
  refine ov_getf (v := ov_i (h 36 13)) d_159_28 fl_Goers_59 (zb_36 I6) (zs_36 I6) rfl ?_
  have g7 := rg_36_13 I
  refine ov_blk (ls2 := [(0, ov_r 36), (1, ov_i s), (2, ov_i by_)]) (st2 := [ov_r 36, ov_i ((h 36 13) + 1), ov_r 40]) (pc2 := 34) b_159_31_3 rfl rfl ?_
  refine ov_getf (v := ov_i (v4 + 1)) d_159_34 fl_Goers_181 (zb_36 I6) (zs_36 I6) rfl ?_
  have fm := ov_mulg (a := ((h 36 13) + 1)) (b := (v4 + 1)) (A := 54) (L := -12) (B := 1158) (by omega) (by omega) (by omega) (by omega) (by omega) (by omega)
  refine ov_blk (ls2 := [(0, ov_r 36), (1, ov_i s), (2, ov_i by_)]) (st2 := [ov_i (((h 36 13) + 1) * (v4 + 1)), ov_r 40]) (pc2 := 38) b_159_37_1 rfl rfl ?_
  refine ov_cV (as := [ov_i (((h 36 13) + 1) * (v4 + 1))]) (st := []) (d2 := d - 1) d_159_38 lk_Goers_70 rfl (Nat.le_of_ble_eq_true rfl) (c := 4) (zb_40 I6) (zs_40 I6) ⟨by decide, rfl⟩ (by omega) (c_Memo_clear_40 (d - 1) (by omega) U I6 (((h 36 13) + 1) * (v4 + 1)) (by omega) (by omega)) ?_
  rintro _ z9 h10 ⟨rfl, I11, f8⟩
  show ov_R u d ov_m159 41 [(0, ov_r 36), (1, ov_i s), (2, ov_i by_)] [] z9 h10 (P_Goers_chanceOf_36_k36_8_58 F z h s by_)
  have f12 : (h10 36 7) = (h 36 7) ∧ (h10 1 1) = (h 1 1) ∧ (h10 90 2) = (h 90 2) ∧ (h10 0 10) = (h 0 10) ∧ (h10 0 11) = (h 0 11) ∧ (h10 0 12) = (h 0 12) ∧ (h10 0 13) = (h 0 13) ∧ (h10 3 1) = (h 3 1) ∧ (h10 36 8) = (h 36 8) ∧ (h10 46 3) = (h 46 3) ∧ (h10 46 4) = (h 46 4) ∧ (h10 49 4) = (h 49 4) ∧ (h10 49 5) = (h 49 5) ∧ (h10 64 0) = (h 64 0) ∧ (h10 76 0) = (h 76 0) := f8
  clear f8
  have e13 : h10 36 8 = 58 := by omega
  refine ov_blk (ls2 := [(0, ov_r 36), (1, ov_i s), (2, ov_i by_)]) (st2 := [ov_i 0, ov_i 0, ov_r 36]) (pc2 := 44) b_159_41_3 rfl rfl ?_
  refine ov_cV (as := [ov_i 0, ov_i 0]) (st := []) (d2 := d - 1) d_159_44 lk_Goers_184 rfl (Nat.le_of_ble_eq_true rfl) (c := 2) (zb_36 I11) (zs_36 I11) ⟨by decide, rfl⟩ (by omega) (c_Goers_chanceAt_36_k36_8_58_all (Int.toNat (53 - (0))) (d - 1) (by omega) U I11 (ov_kws hw (by decide +kernel)) 0 0 e13 (by omega) (by omega) (by omega) (by omega)) ?_
  rintro _ z16 h17 ⟨v15, rfl, I18, f14⟩
  show ov_R u d ov_m159 47 [(0, ov_r 36), (1, ov_i s), (2, ov_i by_)] [ov_i v15] z16 h17 (P_Goers_chanceOf_36_k36_8_58 F z h s by_)
  have f19 : -2147483648 ≤ v15 ∧ v15 ≤ 2147483647 ∧ (h17 36 7) = (h10 36 7) ∧ (h17 1 1) = (h10 1 1) ∧ (h17 90 2) = (h10 90 2) ∧ (h17 0 10) = (h10 0 10) ∧ (h17 0 11) = (h10 0 11) ∧ (h17 0 12) = (h10 0 12) ∧ (h17 0 13) = (h10 0 13) ∧ (h17 3 1) = (h10 3 1) ∧ (h17 36 8) = (h10 36 8) ∧ (h17 46 3) = (h10 46 3) ∧ (h17 46 4) = (h10 46 4) ∧ (h17 49 4) = (h10 49 4) ∧ (h17 49 5) = (h10 49 5) ∧ (h17 64 0) = (h10 64 0) ∧ (h17 76 0) = (h10 76 0) := f14
  clear f14
  have e20 : h17 36 8 = 58 := by omega
  exact ov_reti (st := []) d_159_47 rfl ⟨_, rfl, I18, (by show -2147483648 ≤ v15 ∧ v15 ≤ 2147483647 ∧ (h17 36 7) = (h 36 7) ∧ (h17 1 1) = (h 1 1) ∧ (h17 90 2) = (h 90 2) ∧ (h17 0 10) = (h 0 10) ∧ (h17 0 11) = (h 0 11) ∧ (h17 0 12) = (h 0 12) ∧ (h17 0 13) = (h 0 13) ∧ (h17 3 1) = (h 3 1) ∧ (h17 36 8) = (h 36 8) ∧ (h17 46 3) = (h 46 3) ∧ (h17 46 4) = (h 46 4) ∧ (h17 49 4) = (h 49 4) ∧ (h17 49 5) = (h 49 5) ∧ (h17 64 0) = (h 64 0) ∧ (h17 76 0) = (h 76 0); omega)⟩
abbrev P_Goers_drawLights_36_k36_8_58 (F : ov_H) (z : ov_Z) (h : ov_H) (sd : Int) : Option ov_V → ov_Z → ov_H → Prop := fun r0 z' h' => ∃ r : Int, r0 = some (ov_l r) ∧ ov_I F z' h' ∧ ((h' 36 7) = (h 36 7) ∧ (h' 1 1) = (h 1 1) ∧ (h' 90 2) = (h 90 2) ∧ (h' 0 10) = (h 0 10) ∧ (h' 0 11) = (h 0 11) ∧ (h' 0 12) = (h 0 12) ∧ (h' 0 13) = (h 0 13) ∧ (h' 3 1) = (h 3 1) ∧ (h' 36 8) = (h 36 8) ∧ (h' 46 3) = (h 46 3) ∧ (h' 46 4) = (h 46 4) ∧ (h' 49 4) = (h 49 4) ∧ (h' 49 5) = (h 49 5) ∧ (h' 64 0) = (h 64 0) ∧ (h' 76 0) = (h 76 0))
set_option maxHeartbeats 4000000 in
theorem c_Goers_drawLights_36_k36_8_58 {u : ov_U} {F : ov_H} {z : ov_Z} {h : ov_H} (d : Nat) (hd : 20 ≤ d) (U : ov_cap u) (I : ov_I F z h) (sd : Int) (k0 : h 36 8 = 58) : ov_T u d ov_m194 [ov_r 36, ov_l sd] z h (P_Goers_drawLights_36_k36_8_58 F z h sd) := by
  refine ov_en rfl (Nat.le_of_ble_eq_true rfl) ?_
  show ov_R u d ov_m194 0 [(0, ov_r 36), (1, ov_l sd)] [] z h (P_Goers_drawLights_36_k36_8_58 F z h sd)
  refine ov_blk (ls2 := [(0, ov_r 36), (1, ov_l sd), (3, ov_l sd), (5, ov_i 0)]) (st2 := []) (pc2 := 5) b_194_0_4 rfl rfl ?_
  have L4 : ∀ (n1 : Nat) (x3 : Int) (x5 : Int) (z5 : ov_Z) (h6 : ov_H) (I7 : ov_I F z5 h6) (q3 : 0 ≤ x5 ∧ x5 ≤ 54 ∧ (h6 36 7) = (h 36 7) ∧ (h6 1 1) = (h 1 1) ∧ (h6 90 2) = (h 90 2) ∧ (h6 0 10) = (h 0 10) ∧ (h6 0 11) = (h 0 11) ∧ (h6 0 12) = (h 0 12) ∧ (h6 0 13) = (h 0 13) ∧ (h6 3 1) = (h 3 1) ∧ (h6 36 8) = (h 36 8) ∧ (h6 46 3) = (h 46 3) ∧ (h6 46 4) = (h 46 4) ∧ (h6 49 4) = (h 49 4) ∧ (h6 49 5) = (h 49 5) ∧ (h6 64 0) = (h 64 0) ∧ (h6 76 0) = (h 76 0) ∧ h6 36 8 = 58), 54 - x5 < (n1 : Int) → ov_R u d ov_m194 5 [(0, ov_r 36), (1, ov_l sd), (3, ov_l x3), (5, ov_i x5)] [] z5 h6 (P_Goers_drawLights_36_k36_8_58 F z h sd) := by
    intro n1
    induction n1 with
    | zero =>
      intro x3 x5 z5 h6 I7 q3 hn8
      exact absurd hn8 (by omega)
    | succ n1 ih2 =>
      intro x3 x5 z5 h6 I7 q3 hn8
      have e9 : h6 36 8 = 58 := by omega
      refine ov_blk (ls2 := [(0, ov_r 36), (1, ov_l sd), (3, ov_l x3), (5, ov_i x5)]) (st2 := [ov_i 54, ov_i x5]) (pc2 := 9) b_194_5_2 rfl rfl ?_
      refine ov_icge (tgt := 75) d_194_9 (by decide) (by omega) (by omega) (fun c10 => ?_) (fun c10 => ?_)
      · skip
        refine ov_blk (ls2 := [(0, ov_r 36), (1, ov_l sd), (3, ov_l x3), (5, ov_i x5)]) (st2 := [ov_l x3]) (pc2 := 76) b_194_75_1 rfl rfl ?_
        exact ov_retl (st := []) d_194_76 rfl ⟨_, rfl, I7, (by show (h6 36 7) = (h 36 7) ∧ (h6 1 1) = (h 1 1) ∧ (h6 90 2) = (h 90 2) ∧ (h6 0 10) = (h 0 10) ∧ (h6 0 11) = (h 0 11) ∧ (h6 0 12) = (h 0 12) ∧ (h6 0 13) = (h 0 13) ∧ (h6 3 1) = (h 3 1) ∧ (h6 36 8) = (h 36 8) ∧ (h6 46 3) = (h 46 3) ∧ (h6 46 4) = (h 46 4) ∧ (h6 49 4) = (h 49 4) ∧ (h6 49 5) = (h 49 5) ∧ (h6 64 0) = (h 64 0) ∧ (h6 76 0) = (h 76 0); omega)⟩
      · skip
        refine ov_blk (ls2 := [(0, ov_r 36), (1, ov_l sd), (3, ov_l x3), (5, ov_i x5)]) (st2 := [ov_r 36]) (pc2 := 13) b_194_12_1 rfl rfl ?_
        refine ov_getf (v := ov_r 44) d_194_13 fl_Goers_25 (zb_36 I7) (zs_36 I7) (congrArg ov_r (rg_36_5 I7)) ?_
        refine ov_blk (ls2 := [(0, ov_r 36), (1, ov_l sd), (3, ov_l x3), (5, ov_i x5)]) (st2 := [ov_i 0, ov_i x5, ov_r 44]) (pc2 := 19) b_194_16_2 rfl rfl ?_
        refine ov_iast d_194_19 (zb_44 I7) (zs_44 I7) (by omega) ?_
        have I11 := ua_44 (k := x5) (x := 0) I7 (by omega)
        refine ov_blk (ls2 := [(0, ov_r 36), (1, ov_l sd), (3, ov_l x3), (5, ov_i x5)]) (st2 := [ov_i x5, ov_r 36]) (pc2 := 23) b_194_20_2 rfl rfl ?_
        refine ov_cV (as := [ov_i x5]) (st := []) (d2 := d - 1) d_194_23 lk_Goers_81 rfl (Nat.le_of_ble_eq_true rfl) (c := 2) (zb_36 I11) (zs_36 I11) ⟨by decide, rfl⟩ (by omega) (c_Goers_hides_36_k36_8_58 (d - 1) (by omega) U I11 x5 e9 (by omega) (by omega)) ?_
        rintro _ _ _ ⟨v13, rfl, rfl, rfl, f12⟩
        show ov_R u d ov_m194 26 [(0, ov_r 36), (1, ov_l sd), (3, ov_l x3), (5, ov_i x5)] [ov_i v13] z5 (ov_up h6 44 x5 0) (P_Goers_drawLights_36_k36_8_58 F z h sd)
        have f14 : (v13 = 0 ∨ v13 = 1) := f12
        clear f12
        refine ov_ifeq (tgt := 69) d_194_26 (by decide) (by omega) (fun c15 => ?_) (fun c15 => ?_)
        · skip
          refine ov_blk (ls2 := [(0, ov_r 36), (1, ov_l sd), (3, ov_l x3), (5, ov_i (x5 + 1))]) (st2 := []) (pc2 := 72) b_194_69_1 rfl rfl ?_
          refine ov_goto (tgt := 5) d_194_72 (by decide) ?_
          exact ih2 x3 (x5 + 1) _ _ I11 (by show 0 ≤ (x5 + 1) ∧ (x5 + 1) ≤ 54 ∧ (h6 36 7) = (h 36 7) ∧ (h6 1 1) = (h 1 1) ∧ (h6 90 2) = (h 90 2) ∧ (h6 0 10) = (h 0 10) ∧ (h6 0 11) = (h 0 11) ∧ (h6 0 12) = (h 0 12) ∧ (h6 0 13) = (h 0 13) ∧ (h6 3 1) = (h 3 1) ∧ (h6 36 8) = (h 36 8) ∧ (h6 46 3) = (h 46 3) ∧ (h6 46 4) = (h 46 4) ∧ (h6 49 4) = (h 49 4) ∧ (h6 49 5) = (h 49 5) ∧ (h6 64 0) = (h 64 0) ∧ (h6 76 0) = (h 76 0) ∧ (h6 36 8) = 58; omega) (by omega)
        · skip
          refine ov_blk (ls2 := [(0, ov_r 36), (1, ov_l sd), (3, ov_l x3), (5, ov_i x5)]) (st2 := [ov_l x3]) (pc2 := 30) b_194_29_1 rfl rfl ?_
          refine ov_ldc2 (n := 1103515245) d_194_30 kc_Goers_210 ?_
          refine ov_blk (ls2 := [(0, ov_r 36), (1, ov_l sd), (3, ov_l x3), (5, ov_i x5)]) (st2 := [ov_l (x3 * 1103515245)]) (pc2 := 34) b_194_33_1 rfl rfl ?_
          refine ov_ldc2 (n := 12345) d_194_34 kc_Goers_212 ?_
          refine ov_blk (ls2 := [(0, ov_r 36), (1, ov_l sd), (3, ov_l x3), (5, ov_i x5)]) (st2 := [ov_l ((x3 * 1103515245) + 12345)]) (pc2 := 38) b_194_37_1 rfl rfl ?_
          refine ov_ldc2 (n := 2147483647) d_194_38 kc_Goers_214 ?_
          refine ov_blk (ls2 := [(0, ov_r 36), (1, ov_l sd), (3, ov_l x3), (5, ov_i x5)]) (st2 := [ov_l (ov_land ((x3 * 1103515245) + 12345) 2147483647)]) (pc2 := 42) b_194_41_1 rfl rfl ?_
          refine ov_havl (fun w16 gw16 qw16 => ?_)
          refine ov_blk (ls2 := [(0, ov_r 36), (1, ov_l sd), (3, ov_l w16), (5, ov_i x5)]) (st2 := [ov_r 36]) (pc2 := 44) b_194_42_2 rfl rfl ?_
          refine ov_getf (v := ov_r 44) d_194_44 fl_Goers_25 (zb_36 I11) (zs_36 I11) (congrArg ov_r (rg_36_5 I11)) ?_
          refine ov_blk (ls2 := [(0, ov_r 36), (1, ov_l sd), (3, ov_l w16), (5, ov_i x5)]) (st2 := [ov_l w16, ov_i x5, ov_r 44]) (pc2 := 50) b_194_47_2 rfl rfl ?_
          refine ov_ldc2 (n := 65536) d_194_50 kc_Goers_216 ?_
          refine ov_ldiv d_194_53 (by omega) (by omega) (by omega) ?_
          refine ov_blk (ls2 := [(0, ov_r 36), (1, ov_l sd), (3, ov_l w16), (5, ov_i x5)]) (st2 := [ov_i (Int.tdiv w16 65536), ov_i x5, ov_r 44]) (pc2 := 55) b_194_54_1 rfl rfl ?_
          refine ov_havw (fun w17 gw17 qw17 => ?_)
          refine ov_blk (ls2 := [(0, ov_r 36), (1, ov_l sd), (3, ov_l w16), (5, ov_i x5)]) (st2 := [ov_r 36, ov_i w17, ov_i x5, ov_r 44]) (pc2 := 56) b_194_55_1 rfl rfl ?_
          refine ov_getf (v := ov_r 58) d_194_56 fl_Goers_46 (zb_36 I11) (zs_36 I11) (congrArg ov_r e9) ?_
          refine ov_getf (v := ov_r 60) d_194_59 fl_Goers_84 (zb_58 I11) (zs_58 I11) (congrArg ov_r (rg_58_3 I11)) ?_
          refine ov_blk (ls2 := [(0, ov_r 36), (1, ov_l sd), (3, ov_l w16), (5, ov_i x5)]) (st2 := [ov_i x5, ov_r 60, ov_i w17, ov_i x5, ov_r 44]) (pc2 := 64) b_194_62_1 rfl rfl ?_
          refine ov_iald d_194_64 (zb_60 I11) (zs_60 I11) (by omega) ?_
          show ov_R u d ov_m194 65 [(0, ov_r 36), (1, ov_l sd), (3, ov_l w16), (5, ov_i x5)] [ov_i (h6 60 x5), ov_i w17, ov_i x5, ov_r 44] z5 (ov_up h6 44 x5 0) (P_Goers_drawLights_36_k36_8_58 F z h sd)
          have g18 := ra_60 I7 x5
          refine ov_cSN (as := [ov_i w17, ov_i (h6 60 x5)]) (st := [ov_i x5, ov_r 44]) (d2 := d - 1) d_194_65 lk_Goers_218 rfl (Nat.le_of_ble_eq_true rfl) (by omega) (c_OF_modulo (d - 1) (by omega) U I11 w17 (h6 60 x5) (by omega) (by omega)) ?_
          rintro _ _ _ ⟨v20, rfl, rfl, rfl, f19⟩
          show ov_R u d ov_m194 68 [(0, ov_r 36), (1, ov_l sd), (3, ov_l w16), (5, ov_i x5)] [ov_i v20, ov_i x5, ov_r 44] z5 (ov_up h6 44 x5 0) (P_Goers_drawLights_36_k36_8_58 F z h sd)
          have f21 : (0 < (h6 60 x5) → 0 ≤ v20 ∧ v20 < (h6 60 x5)) ∧ ((h6 60 x5) ≤ 0 → v20 = 0) := f19
          clear f19
          refine ov_iast d_194_68 (zb_44 I11) (zs_44 I11) (by omega) ?_
          have I22 := ua_44 (k := x5) (x := v20) I11 (by omega)
          refine ov_blk (ls2 := [(0, ov_r 36), (1, ov_l sd), (3, ov_l w16), (5, ov_i (x5 + 1))]) (st2 := []) (pc2 := 72) b_194_69_1 rfl rfl ?_
          refine ov_goto (tgt := 5) d_194_72 (by decide) ?_
          exact ih2 w16 (x5 + 1) _ _ I22 (by show 0 ≤ (x5 + 1) ∧ (x5 + 1) ≤ 54 ∧ (h6 36 7) = (h 36 7) ∧ (h6 1 1) = (h 1 1) ∧ (h6 90 2) = (h 90 2) ∧ (h6 0 10) = (h 0 10) ∧ (h6 0 11) = (h 0 11) ∧ (h6 0 12) = (h 0 12) ∧ (h6 0 13) = (h 0 13) ∧ (h6 3 1) = (h 3 1) ∧ (h6 36 8) = (h 36 8) ∧ (h6 46 3) = (h 46 3) ∧ (h6 46 4) = (h 46 4) ∧ (h6 49 4) = (h 49 4) ∧ (h6 49 5) = (h 49 5) ∧ (h6 64 0) = (h 64 0) ∧ (h6 76 0) = (h 76 0) ∧ (h6 36 8) = 58; omega) (by omega)
  exact L4 55 sd 0 _ _ I (by show 0 ≤ 0 ∧ 0 ≤ 54 ∧ (h 36 7) = (h 36 7) ∧ (h 1 1) = (h 1 1) ∧ (h 90 2) = (h 90 2) ∧ (h 0 10) = (h 0 10) ∧ (h 0 11) = (h 0 11) ∧ (h 0 12) = (h 0 12) ∧ (h 0 13) = (h 0 13) ∧ (h 3 1) = (h 3 1) ∧ (h 36 8) = (h 36 8) ∧ (h 46 3) = (h 46 3) ∧ (h 46 4) = (h 46 4) ∧ (h 49 4) = (h 49 4) ∧ (h 49 5) = (h 49 5) ∧ (h 64 0) = (h 64 0) ∧ (h 76 0) = (h 76 0) ∧ (h 36 8) = 58; omega) (by omega)
abbrev P_Goers_walkHome_36_k36_8_58 (F : ov_H) (z : ov_Z) (h : ov_H)  : Option ov_V → ov_Z → ov_H → Prop := fun r0 z' h' => ∃ r : Int, r0 = some (ov_i r) ∧ ov_I F z' h' ∧ (-2147483648 ≤ r ∧ r ≤ 2147483647 ∧ (h' 36 7) = (h 36 7) ∧ (h' 1 1) = (h 1 1) ∧ (h' 90 2) = (h 90 2) ∧ (h' 0 10) = (h 0 10) ∧ (h' 0 11) = (h 0 11) ∧ (h' 0 12) = (h 0 12) ∧ (h' 0 13) = (h 0 13) ∧ (h' 3 1) = (h 3 1) ∧ (h' 36 8) = (h 36 8) ∧ (h' 46 3) = (h 46 3) ∧ (h' 46 4) = (h 46 4) ∧ (h' 49 4) = (h 49 4) ∧ (h' 49 5) = (h 49 5) ∧ (h' 64 0) = (h 64 0) ∧ (h' 76 0) = (h 76 0))
set_option maxHeartbeats 4000000 in
theorem c_Goers_walkHome_36_k36_8_58 {u : ov_U} {F : ov_H} {z : ov_Z} {h : ov_H} (d : Nat) (hd : 300 ≤ d) (U : ov_cap u) (I : ov_I F z h) (hw : ov_kw 590295810358705651712 F) (k0 : h 36 8 = 58) (p0 : F (-5) 58 = 1) : ov_T u d ov_m195 [ov_r 36] z h (P_Goers_walkHome_36_k36_8_58 F z h) := by
  refine ov_en rfl (Nat.le_of_ble_eq_true rfl) ?_
  show ov_R u d ov_m195 0 [(0, ov_r 36)] [] z h (P_Goers_walkHome_36_k36_8_58 F z h)
  refine ov_blk (ls2 := [(0, ov_r 36), (1, ov_i 0), (2, ov_i 0), (3, ov_i 0)]) (st2 := []) (pc2 := 6) b_195_0_6 rfl rfl ?_
  have L4 : ∀ (n1 : Nat) (x1 : Int) (x2 : Int) (x3 : Int) (z5 : ov_Z) (h6 : ov_H) (I7 : ov_I F z5 h6) (q3 : 0 ≤ x1 ∧ x1 ≤ 53 ∧ ov_g x2 ∧ 0 ≤ x3 ∧ x3 ≤ 13 ∧ (h6 36 7) = (h 36 7) ∧ (h6 1 1) = (h 1 1) ∧ (h6 90 2) = (h 90 2) ∧ (h6 0 10) = (h 0 10) ∧ (h6 0 11) = (h 0 11) ∧ (h6 0 12) = (h 0 12) ∧ (h6 0 13) = (h 0 13) ∧ (h6 3 1) = (h 3 1) ∧ (h6 36 8) = (h 36 8) ∧ (h6 46 3) = (h 46 3) ∧ (h6 46 4) = (h 46 4) ∧ (h6 49 4) = (h 49 4) ∧ (h6 49 5) = (h 49 5) ∧ (h6 64 0) = (h 64 0) ∧ (h6 76 0) = (h 76 0) ∧ h6 36 8 = 58), 13 - x3 < (n1 : Int) → ov_R u d ov_m195 6 [(0, ov_r 36), (1, ov_i x1), (2, ov_i x2), (3, ov_i x3)] [] z5 h6 (P_Goers_walkHome_36_k36_8_58 F z h) := by
    intro n1
    induction n1 with
    | zero =>
      intro x1 x2 x3 z5 h6 I7 q3 hn8
      exact absurd hn8 (by omega)
    | succ n1 ih2 =>
      intro x1 x2 x3 z5 h6 I7 q3 hn8
      have e9 : h6 36 8 = 58 := by omega
      refine ov_blk (ls2 := [(0, ov_r 36), (1, ov_i x1), (2, ov_i x2), (3, ov_i x3)]) (st2 := [ov_i 13, ov_i x3]) (pc2 := 9) b_195_6_2 rfl rfl ?_
      refine ov_icge (tgt := 85) d_195_9 (by decide) (by omega) (by omega) (fun c10 => ?_) (fun c10 => ?_)
      · skip
        refine ov_blk (ls2 := [(0, ov_r 36), (1, ov_i x1), (2, ov_i x2), (3, ov_i x3)]) (st2 := [ov_i x2]) (pc2 := 86) b_195_85_1 rfl rfl ?_
        exact ov_reti (st := []) d_195_86 rfl ⟨_, rfl, I7, (by show -2147483648 ≤ x2 ∧ x2 ≤ 2147483647 ∧ (h6 36 7) = (h 36 7) ∧ (h6 1 1) = (h 1 1) ∧ (h6 90 2) = (h 90 2) ∧ (h6 0 10) = (h 0 10) ∧ (h6 0 11) = (h 0 11) ∧ (h6 0 12) = (h 0 12) ∧ (h6 0 13) = (h 0 13) ∧ (h6 3 1) = (h 3 1) ∧ (h6 36 8) = (h 36 8) ∧ (h6 46 3) = (h 46 3) ∧ (h6 46 4) = (h 46 4) ∧ (h6 49 4) = (h 49 4) ∧ (h6 49 5) = (h 49 5) ∧ (h6 64 0) = (h 64 0) ∧ (h6 76 0) = (h 76 0); omega)⟩
      · skip
        refine ov_blk (ls2 := [(0, ov_r 36), (1, ov_i x1), (2, ov_i x2), (3, ov_i x3)]) (st2 := [ov_r 36, ov_i x1]) (pc2 := 14) b_195_12_2 rfl rfl ?_
        refine ov_getf (v := ov_i (h6 36 13)) d_195_14 fl_Goers_59 (zb_36 I7) (zs_36 I7) rfl ?_
        have g11 := rg_36_13 I7
        refine ov_iceq (tgt := 85) d_195_17 (by decide) (by omega) (by omega) (fun c12 => ?_) (fun c12 => ?_)
        · skip
          refine ov_blk (ls2 := [(0, ov_r 36), (1, ov_i x1), (2, ov_i x2), (3, ov_i x3)]) (st2 := [ov_i x2]) (pc2 := 86) b_195_85_1 rfl rfl ?_
          exact ov_reti (st := []) d_195_86 rfl ⟨_, rfl, I7, (by show -2147483648 ≤ x2 ∧ x2 ≤ 2147483647 ∧ (h6 36 7) = (h 36 7) ∧ (h6 1 1) = (h 1 1) ∧ (h6 90 2) = (h 90 2) ∧ (h6 0 10) = (h 0 10) ∧ (h6 0 11) = (h 0 11) ∧ (h6 0 12) = (h 0 12) ∧ (h6 0 13) = (h 0 13) ∧ (h6 3 1) = (h 3 1) ∧ (h6 36 8) = (h 36 8) ∧ (h6 46 3) = (h 46 3) ∧ (h6 46 4) = (h 46 4) ∧ (h6 49 4) = (h 49 4) ∧ (h6 49 5) = (h 49 5) ∧ (h6 64 0) = (h 64 0) ∧ (h6 76 0) = (h 76 0); omega)⟩
        · skip
          refine ov_blk (ls2 := [(0, ov_r 36), (1, ov_i x1), (2, ov_i x2), (3, ov_i x3)]) (st2 := [ov_r 36, ov_i x2]) (pc2 := 22) b_195_20_2 rfl rfl ?_
          refine ov_getf (v := ov_r 44) d_195_22 fl_Goers_25 (zb_36 I7) (zs_36 I7) (congrArg ov_r (rg_36_5 I7)) ?_
          refine ov_blk (ls2 := [(0, ov_r 36), (1, ov_i x1), (2, ov_i x2), (3, ov_i x3)]) (st2 := [ov_i x1, ov_r 44, ov_i x2]) (pc2 := 26) b_195_25_1 rfl rfl ?_
          refine ov_iald d_195_26 (zb_44 I7) (zs_44 I7) (by omega) ?_
          have g13 := ra_44 I7 x1
          refine ov_blk (ls2 := [(0, ov_r 36), (1, ov_i x1), (2, ov_i x2), (3, ov_i x3)]) (st2 := [ov_i (x2 + (h6 44 x1))]) (pc2 := 28) b_195_27_1 rfl rfl ?_
          refine ov_havw (fun w14 gw14 qw14 => ?_)
          refine ov_blk (ls2 := [(0, ov_r 36), (1, ov_i x1), (2, ov_i x2), (3, ov_i x3), (4, ov_i w14)]) (st2 := [ov_i w14, ov_i x2, ov_i x1, ov_r 36]) (pc2 := 35) b_195_28_5 rfl rfl ?_
          refine ov_cV (as := [ov_i x1, ov_i x2, ov_i w14]) (st := []) (d2 := d - 1) d_195_35 lk_Goers_194 rfl (Nat.le_of_ble_eq_true rfl) (c := 2) (zb_36 I7) (zs_36 I7) ⟨by decide, rfl⟩ (by omega) (c_Goers_wayOf_36_k36_8_58_all (Int.toNat (53 - (x1))) (d - 1) (by omega) U I7 (ov_kws hw (by decide +kernel)) x1 x2 w14 e9 (by omega) (by omega) (by omega) (by omega) (by omega)) ?_
          rintro _ z17 h18 ⟨v16, rfl, I19, f15⟩
          show ov_R u d ov_m195 38 [(0, ov_r 36), (1, ov_i x1), (2, ov_i x2), (3, ov_i x3), (4, ov_i w14)] [ov_i v16] z17 h18 (P_Goers_walkHome_36_k36_8_58 F z h)
          have f20 : (v16 = -1 ∨ (v16 = 0 ∧ x1 ≤ 52) ∨ (v16 = 1 ∧ x1 ≤ 47)) ∧ (h18 36 7) = (h6 36 7) ∧ (h18 1 1) = (h6 1 1) ∧ (h18 90 2) = (h6 90 2) ∧ (h18 0 10) = (h6 0 10) ∧ (h18 0 11) = (h6 0 11) ∧ (h18 0 12) = (h6 0 12) ∧ (h18 0 13) = (h6 0 13) ∧ (h18 3 1) = (h6 3 1) ∧ (h18 36 8) = (h6 36 8) ∧ (h18 46 3) = (h6 46 3) ∧ (h18 46 4) = (h6 46 4) ∧ (h18 49 4) = (h6 49 4) ∧ (h18 49 5) = (h6 49 5) ∧ (h18 64 0) = (h6 64 0) ∧ (h18 76 0) = (h6 76 0) := f15
          clear f15
          have e21 : h18 36 8 = 58 := by omega
          refine ov_blk (ls2 := [(0, ov_r 36), (1, ov_i x1), (2, ov_i x2), (3, ov_i x3), (4, ov_i w14), (5, ov_i v16)]) (st2 := [ov_i (-1), ov_i v16]) (pc2 := 43) b_195_38_3 rfl rfl ?_
          refine ov_icne (tgt := 48) d_195_43 (by decide) (by omega) (by omega) (fun c22 => ?_) (fun c22 => ?_)
          · skip
            refine ov_blk (ls2 := [(0, ov_r 36), (1, ov_i x1), (2, ov_i x2), (3, ov_i x3), (4, ov_i w14), (5, ov_i v16)]) (st2 := [ov_r 36, ov_i x2]) (pc2 := 50) b_195_48_2 rfl rfl ?_
            refine ov_getf (v := ov_r 58) d_195_50 fl_Goers_46 (zb_36 I19) (zs_36 I19) (congrArg ov_r e21) ?_
            refine ov_blk (ls2 := [(0, ov_r 36), (1, ov_i x1), (2, ov_i x2), (3, ov_i x3), (4, ov_i w14), (5, ov_i v16)]) (st2 := [ov_i w14, ov_i v16, ov_i x1, ov_r 58, ov_i x2]) (pc2 := 58) b_195_53_3 rfl rfl ?_
            refine ov_cV (as := [ov_i x1, ov_i v16, ov_i w14]) (st := [ov_i x2]) (d2 := d - 1) d_195_58 lk_Goers_114 rfl (Nat.le_of_ble_eq_true rfl) (c := 9) (zb_58 I19) (zs_58 I19) ⟨by decide, rfl⟩ (by omega) (c_Town_waitFor_58 (d - 1) (by omega) U I19 x1 v16 w14 (by omega) (by omega) (by omega) (by omega)) ?_
            rintro _ _ _ ⟨v24, rfl, rfl, rfl, f23⟩
            show ov_R u d ov_m195 61 [(0, ov_r 36), (1, ov_i x1), (2, ov_i x2), (3, ov_i x3), (4, ov_i w14), (5, ov_i v16)] [ov_i v24, ov_i x2] z17 h18 (P_Goers_walkHome_36_k36_8_58 F z h)
            have f25 : 0 ≤ v24 ∧ v24 ≤ 60 := f23
            clear f23
            refine ov_blk (ls2 := [(0, ov_r 36), (1, ov_i x1), (2, ov_i x2), (3, ov_i x3), (4, ov_i w14), (5, ov_i v16)]) (st2 := [ov_r 36, ov_i v24, ov_i x2]) (pc2 := 62) b_195_61_1 rfl rfl ?_
            refine ov_getf (v := ov_i (h18 36 14)) d_195_62 fl_Goers_64 (zb_36 I19) (zs_36 I19) rfl ?_
            have g26 := rg_36_14 I19
            refine ov_blk (ls2 := [(0, ov_r 36), (1, ov_i x1), (2, ov_i x2), (3, ov_i x3), (4, ov_i w14), (5, ov_i v16)]) (st2 := [ov_i (v24 + (h18 36 14)), ov_i x2]) (pc2 := 66) b_195_65_1 rfl rfl ?_
            refine ov_havw (fun w27 gw27 qw27 => ?_)
            refine ov_blk (ls2 := [(0, ov_r 36), (1, ov_i x1), (2, ov_i x2), (3, ov_i x3), (4, ov_i w14), (5, ov_i v16)]) (st2 := [ov_i (x2 + w27)]) (pc2 := 67) b_195_66_1 rfl rfl ?_
            refine ov_havw (fun w28 gw28 qw28 => ?_)
            refine ov_blk (ls2 := [(0, ov_r 36), (1, ov_i x1), (2, ov_i w28), (3, ov_i x3), (4, ov_i w14), (5, ov_i v16)]) (st2 := [ov_r 36]) (pc2 := 69) b_195_67_2 rfl rfl ?_
            refine ov_getf (v := ov_r 58) d_195_69 fl_Goers_46 (zb_36 I19) (zs_36 I19) (congrArg ov_r e21) ?_
            refine ov_blk (ls2 := [(0, ov_r 36), (1, ov_i x1), (2, ov_i w28), (3, ov_i x3), (4, ov_i w14), (5, ov_i v16)]) (st2 := [ov_i v16, ov_i x1, ov_r 58]) (pc2 := 75) b_195_72_2 rfl rfl ?_
            refine ov_cV (as := [ov_i x1, ov_i v16]) (st := []) (d2 := d - 1) d_195_75 lk_Goers_91 rfl (Nat.le_of_ble_eq_true rfl) (c := 9) (zb_58 I19) (zs_58 I19) ⟨by decide, rfl⟩ (by omega) (c_Town_after_58 (d - 1) (by omega) U I19 x1 v16 (by omega) (by omega) (by omega)) ?_
            rintro _ _ _ ⟨v30, rfl, rfl, rfl, f29⟩
            show ov_R u d ov_m195 78 [(0, ov_r 36), (1, ov_i x1), (2, ov_i w28), (3, ov_i x3), (4, ov_i w14), (5, ov_i v16)] [ov_i v30] z17 h18 (P_Goers_walkHome_36_k36_8_58 F z h)
            have f31 : (v16 = 0 → v30 = x1 + 1) ∧ (¬ v16 = 0 → v30 = x1 + 6) := f29
            clear f29
            refine ov_blk (ls2 := [(0, ov_r 36), (1, ov_i v30), (2, ov_i w28), (3, ov_i (x3 + 1)), (4, ov_i w14), (5, ov_i v16)]) (st2 := []) (pc2 := 82) b_195_78_2 rfl rfl ?_
            refine ov_goto (tgt := 6) d_195_82 (by decide) ?_
            refine ov_sub (ls2 := [(0, ov_r 36), (1, ov_i v30), (2, ov_i w28), (3, ov_i (x3 + 1))]) (List.Sublist.subset (by repeat (first | exact List.Sublist.refl _ | apply List.Sublist.cons_cons | apply List.Sublist.cons))) ?_
            exact ih2 v30 w28 (x3 + 1) _ _ I19 (by show 0 ≤ v30 ∧ v30 ≤ 53 ∧ ov_g w28 ∧ 0 ≤ (x3 + 1) ∧ (x3 + 1) ≤ 13 ∧ (h18 36 7) = (h 36 7) ∧ (h18 1 1) = (h 1 1) ∧ (h18 90 2) = (h 90 2) ∧ (h18 0 10) = (h 0 10) ∧ (h18 0 11) = (h 0 11) ∧ (h18 0 12) = (h 0 12) ∧ (h18 0 13) = (h 0 13) ∧ (h18 3 1) = (h 3 1) ∧ (h18 36 8) = (h 36 8) ∧ (h18 46 3) = (h 46 3) ∧ (h18 46 4) = (h 46 4) ∧ (h18 49 4) = (h 49 4) ∧ (h18 49 5) = (h 49 5) ∧ (h18 64 0) = (h 64 0) ∧ (h18 76 0) = (h 76 0) ∧ (h18 36 8) = 58; omega) (by omega)
          · skip
            refine ov_blk (ls2 := [(0, ov_r 36), (1, ov_i x1), (2, ov_i x2), (3, ov_i x3), (4, ov_i w14), (5, ov_i v16)]) (st2 := [ov_i x2]) (pc2 := 47) b_195_46_1 rfl rfl ?_
            exact ov_reti (st := []) d_195_47 rfl ⟨_, rfl, I19, (by show -2147483648 ≤ x2 ∧ x2 ≤ 2147483647 ∧ (h18 36 7) = (h 36 7) ∧ (h18 1 1) = (h 1 1) ∧ (h18 90 2) = (h 90 2) ∧ (h18 0 10) = (h 0 10) ∧ (h18 0 11) = (h 0 11) ∧ (h18 0 12) = (h 0 12) ∧ (h18 0 13) = (h 0 13) ∧ (h18 3 1) = (h 3 1) ∧ (h18 36 8) = (h 36 8) ∧ (h18 46 3) = (h 46 3) ∧ (h18 46 4) = (h 46 4) ∧ (h18 49 4) = (h 49 4) ∧ (h18 49 5) = (h 49 5) ∧ (h18 64 0) = (h 64 0) ∧ (h18 76 0) = (h 76 0); omega)⟩
  exact L4 14 0 0 0 _ _ I (by show 0 ≤ 0 ∧ 0 ≤ 53 ∧ ov_g 0 ∧ 0 ≤ 0 ∧ 0 ≤ 13 ∧ (h 36 7) = (h 36 7) ∧ (h 1 1) = (h 1 1) ∧ (h 90 2) = (h 90 2) ∧ (h 0 10) = (h 0 10) ∧ (h 0 11) = (h 0 11) ∧ (h 0 12) = (h 0 12) ∧ (h 0 13) = (h 0 13) ∧ (h 3 1) = (h 3 1) ∧ (h 36 8) = (h 36 8) ∧ (h 46 3) = (h 46 3) ∧ (h 46 4) = (h 46 4) ∧ (h 49 4) = (h 49 4) ∧ (h 49 5) = (h 49 5) ∧ (h 64 0) = (h 64 0) ∧ (h 76 0) = (h 76 0) ∧ (h 36 8) = 58; omega) (by omega)
abbrev P_Goers_spendNights_36_k36_8_58 (F : ov_H) (z : ov_Z) (h : ov_H) (sd : Int) (n : Int) : Option ov_V → ov_Z → ov_H → Prop := fun r0 z' h' => r0 = none ∧ ov_I F z' h' ∧ ((h' 36 7) = (h 36 7) ∧ (h' 1 1) = (h 1 1) ∧ (h' 90 2) = (h 90 2) ∧ (h' 0 10) = (h 0 10) ∧ (h' 0 11) = (h 0 11) ∧ (h' 0 12) = (h 0 12) ∧ (h' 0 13) = (h 0 13) ∧ (h' 3 1) = (h 3 1) ∧ (h' 36 8) = (h 36 8) ∧ (h' 46 3) = (h 46 3) ∧ (h' 46 4) = (h 46 4) ∧ (h' 49 4) = (h 49 4) ∧ (h' 49 5) = (h 49 5) ∧ (h' 64 0) = (h 64 0) ∧ (h' 76 0) = (h 76 0))
set_option maxHeartbeats 4000000 in
theorem c_Goers_spendNights_36_k36_8_58 {u : ov_U} {F : ov_H} {z : ov_Z} {h : ov_H} (d : Nat) (hd : 310 ≤ d) (U : ov_cap u) (I : ov_I F z h) (hw : ov_kw 590295810358705651712 F) (sd : Int) (n : Int) (k0 : h 36 8 = 58) (g_sd : ov_g sd) (g_n : ov_g n) (p0 : n ≤ 30) (p1 : F (-5) 58 = 1) : ov_T u d ov_m193 [ov_r 36, ov_i sd, ov_i n] z h (P_Goers_spendNights_36_k36_8_58 F z h sd n) := by
  refine ov_en rfl (Nat.le_of_ble_eq_true rfl) ?_
  show ov_R u d ov_m193 0 [(0, ov_r 36), (1, ov_i sd), (2, ov_i n)] [] z h (P_Goers_spendNights_36_k36_8_58 F z h sd n)
  refine ov_blk (ls2 := [(0, ov_r 36), (1, ov_i sd), (2, ov_i n)]) (st2 := [ov_i 0, ov_r 36]) (pc2 := 2) b_193_0_2 rfl rfl ?_
  refine ov_putf (x := 0) d_193_2 fl_Goers_197 (zb_36 I) (zs_36 I) rfl nk_0 rfl ?_
  have I1 := up_36_0 (x := 0) I (by omega)
  refine ov_blk (ls2 := [(0, ov_r 36), (1, ov_i sd), (2, ov_i n)]) (st2 := [ov_i 0, ov_r 36]) (pc2 := 7) b_193_5_2 rfl rfl ?_
  refine ov_putf (x := 0) d_193_7 fl_Goers_200 (zb_36 I1) (zs_36 I1) rfl nk_0 rfl ?_
  have I2 := up_36_1 (x := 0) I1 (by omega)
  refine ov_blk (ls2 := [(0, ov_r 36), (1, ov_i sd), (2, ov_i n), (3, ov_l (ov_w sd)), (5, ov_i 0)]) (st2 := []) (pc2 := 16) b_193_10_5 rfl rfl ?_
  have g3 := ov_wg sd
  have g4 := ov_wq sd
  have L8 : ∀ (n5 : Nat) (x3 : Int) (x5 : Int) (z9 : ov_Z) (h10 : ov_H) (I11 : ov_I F z9 h10) (q7 : 0 ≤ x5 ∧ x5 ≤ 30 ∧ (h10 36 7) = (h 36 7) ∧ (h10 1 1) = (h 1 1) ∧ (h10 90 2) = (h 90 2) ∧ (h10 0 10) = (h 0 10) ∧ (h10 0 11) = (h 0 11) ∧ (h10 0 12) = (h 0 12) ∧ (h10 0 13) = (h 0 13) ∧ (h10 3 1) = (h 3 1) ∧ (h10 36 8) = (h 36 8) ∧ (h10 46 3) = (h 46 3) ∧ (h10 46 4) = (h 46 4) ∧ (h10 49 4) = (h 49 4) ∧ (h10 49 5) = (h 49 5) ∧ (h10 64 0) = (h 64 0) ∧ (h10 76 0) = (h 76 0) ∧ h10 36 8 = 58), 30 - x5 < (n5 : Int) → ov_R u d ov_m193 16 [(0, ov_r 36), (1, ov_i sd), (2, ov_i n), (3, ov_l x3), (5, ov_i x5)] [] z9 h10 (P_Goers_spendNights_36_k36_8_58 F z h sd n) := by
    intro n5
    induction n5 with
    | zero =>
      intro x3 x5 z9 h10 I11 q7 hn12
      exact absurd hn12 (by omega)
    | succ n5 ih6 =>
      intro x3 x5 z9 h10 I11 q7 hn12
      have e13 : h10 36 8 = 58 := by omega
      refine ov_blk (ls2 := [(0, ov_r 36), (1, ov_i sd), (2, ov_i n), (3, ov_l x3), (5, ov_i x5)]) (st2 := [ov_i n, ov_i x5]) (pc2 := 19) b_193_16_2 rfl rfl ?_
      refine ov_icge (tgt := 64) d_193_19 (by decide) (by omega) (by omega) (fun c14 => ?_) (fun c14 => ?_)
      · skip
        exact ov_retv (st := []) d_193_64 rfl ⟨rfl, I11, (by show (h10 36 7) = (h 36 7) ∧ (h10 1 1) = (h 1 1) ∧ (h10 90 2) = (h 90 2) ∧ (h10 0 10) = (h 0 10) ∧ (h10 0 11) = (h 0 11) ∧ (h10 0 12) = (h 0 12) ∧ (h10 0 13) = (h 0 13) ∧ (h10 3 1) = (h 3 1) ∧ (h10 36 8) = (h 36 8) ∧ (h10 46 3) = (h 46 3) ∧ (h10 46 4) = (h 46 4) ∧ (h10 49 4) = (h 49 4) ∧ (h10 49 5) = (h 49 5) ∧ (h10 64 0) = (h 64 0) ∧ (h10 76 0) = (h 76 0); omega)⟩
      · skip
        refine ov_blk (ls2 := [(0, ov_r 36), (1, ov_i sd), (2, ov_i n), (3, ov_l x3), (5, ov_i x5)]) (st2 := [ov_l x3, ov_r 36]) (pc2 := 24) b_193_22_2 rfl rfl ?_
        refine ov_cV (as := [ov_l x3]) (st := []) (d2 := d - 1) d_193_24 lk_Goers_203 rfl (Nat.le_of_ble_eq_true rfl) (c := 2) (zb_36 I11) (zs_36 I11) ⟨by decide, rfl⟩ (by omega) (c_Goers_drawLights_36_k36_8_58 (d - 1) (by omega) U I11 x3 e13) ?_
        rintro _ z17 h18 ⟨v16, rfl, I19, f15⟩
        show ov_R u d ov_m193 27 [(0, ov_r 36), (1, ov_i sd), (2, ov_i n), (3, ov_l x3), (5, ov_i x5)] [ov_l v16] z17 h18 (P_Goers_spendNights_36_k36_8_58 F z h sd n)
        have f20 : (h18 36 7) = (h10 36 7) ∧ (h18 1 1) = (h10 1 1) ∧ (h18 90 2) = (h10 90 2) ∧ (h18 0 10) = (h10 0 10) ∧ (h18 0 11) = (h10 0 11) ∧ (h18 0 12) = (h10 0 12) ∧ (h18 0 13) = (h10 0 13) ∧ (h18 3 1) = (h10 3 1) ∧ (h18 36 8) = (h10 36 8) ∧ (h18 46 3) = (h10 46 3) ∧ (h18 46 4) = (h10 46 4) ∧ (h18 49 4) = (h10 49 4) ∧ (h18 49 5) = (h10 49 5) ∧ (h18 64 0) = (h10 64 0) ∧ (h18 76 0) = (h10 76 0) := f15
        clear f15
        have e21 : h18 36 8 = 58 := by omega
        refine ov_blk (ls2 := [(0, ov_r 36), (1, ov_i sd), (2, ov_i n), (3, ov_l v16), (5, ov_i x5)]) (st2 := [ov_r 36]) (pc2 := 29) b_193_27_2 rfl rfl ?_
        refine ov_cV (as := []) (st := []) (d2 := d - 1) d_193_29 lk_Goers_207 rfl (Nat.le_of_ble_eq_true rfl) (c := 2) (zb_36 I19) (zs_36 I19) ⟨by decide, rfl⟩ (by omega) (c_Goers_walkHome_36_k36_8_58 (d - 1) (by omega) U I19 (ov_kws hw (by decide +kernel)) e21 (by omega)) ?_
        rintro _ z24 h25 ⟨v23, rfl, I26, f22⟩
        show ov_R u d ov_m193 32 [(0, ov_r 36), (1, ov_i sd), (2, ov_i n), (3, ov_l v16), (5, ov_i x5)] [ov_i v23] z24 h25 (P_Goers_spendNights_36_k36_8_58 F z h sd n)
        have f27 : -2147483648 ≤ v23 ∧ v23 ≤ 2147483647 ∧ (h25 36 7) = (h18 36 7) ∧ (h25 1 1) = (h18 1 1) ∧ (h25 90 2) = (h18 90 2) ∧ (h25 0 10) = (h18 0 10) ∧ (h25 0 11) = (h18 0 11) ∧ (h25 0 12) = (h18 0 12) ∧ (h25 0 13) = (h18 0 13) ∧ (h25 3 1) = (h18 3 1) ∧ (h25 36 8) = (h18 36 8) ∧ (h25 46 3) = (h18 46 3) ∧ (h25 46 4) = (h18 46 4) ∧ (h25 49 4) = (h18 49 4) ∧ (h25 49 5) = (h18 49 5) ∧ (h25 64 0) = (h18 64 0) ∧ (h25 76 0) = (h18 76 0) := f22
        clear f22
        have e28 : h25 36 8 = 58 := by omega
        refine ov_blk (ls2 := [(0, ov_r 36), (1, ov_i sd), (2, ov_i n), (3, ov_l v16), (5, ov_i x5), (6, ov_i v23)]) (st2 := [ov_r 36, ov_r 36]) (pc2 := 36) b_193_32_3 rfl rfl ?_
        refine ov_getf (v := ov_i (h25 36 0)) d_193_36 fl_Goers_197 (zb_36 I26) (zs_36 I26) rfl ?_
        have g29 := rg_36_0 I26
        refine ov_blk (ls2 := [(0, ov_r 36), (1, ov_i sd), (2, ov_i n), (3, ov_l v16), (5, ov_i x5), (6, ov_i v23)]) (st2 := [ov_i ((h25 36 0) + v23), ov_r 36]) (pc2 := 42) b_193_39_2 rfl rfl ?_
        refine ov_havw (fun w30 gw30 qw30 => ?_)
        refine ov_putf (x := w30) d_193_42 fl_Goers_197 (zb_36 I26) (zs_36 I26) rfl nk_0 rfl ?_
        have I31 := up_36_0 (x := w30) I26 (by omega)
        refine ov_blk (ls2 := [(0, ov_r 36), (1, ov_i sd), (2, ov_i n), (3, ov_l v16), (5, ov_i x5), (6, ov_i v23)]) (st2 := [ov_r 36, ov_r 36]) (pc2 := 47) b_193_45_2 rfl rfl ?_
        refine ov_getf (v := ov_i (h25 36 1)) d_193_47 fl_Goers_200 (zb_36 I31) (zs_36 I31) rfl ?_
        have g32 := rg_36_1 I26
        refine ov_blk (ls2 := [(0, ov_r 36), (1, ov_i sd), (2, ov_i n), (3, ov_l v16), (5, ov_i x5), (6, ov_i v23)]) (st2 := [ov_i v23, ov_i (h25 36 1), ov_r 36]) (pc2 := 52) b_193_50_1 rfl rfl ?_
        refine ov_cS (as := [ov_i (h25 36 1), ov_i v23]) (st := [ov_r 36]) (d2 := d - 1) d_193_52 lk_Goers_129 rfl (Nat.le_of_ble_eq_true rfl) (by omega) (c_Math_max (d - 1) (by omega) U I31 (h25 36 1) v23 (by omega) (by omega)) ?_
        rintro _ _ _ ⟨v34, rfl, rfl, rfl, f33⟩
        show ov_R u d ov_m193 55 [(0, ov_r 36), (1, ov_i sd), (2, ov_i n), (3, ov_l v16), (5, ov_i x5), (6, ov_i v23)] [ov_i v34, ov_r 36] z24 (ov_up h25 36 0 w30) (P_Goers_spendNights_36_k36_8_58 F z h sd n)
        have f35 : (h25 36 1) ≤ v34 ∧ v23 ≤ v34 ∧ (v34 = (h25 36 1) ∨ v34 = v23) := f33
        clear f33
        refine ov_putf (x := v34) d_193_55 fl_Goers_200 (zb_36 I31) (zs_36 I31) rfl nk_0 rfl ?_
        have I36 := up_36_1 (x := v34) I31 (by omega)
        refine ov_blk (ls2 := [(0, ov_r 36), (1, ov_i sd), (2, ov_i n), (3, ov_l v16), (5, ov_i (x5 + 1)), (6, ov_i v23)]) (st2 := []) (pc2 := 61) b_193_58_1 rfl rfl ?_
        refine ov_goto (tgt := 16) d_193_61 (by decide) ?_
        refine ov_sub (ls2 := [(0, ov_r 36), (1, ov_i sd), (2, ov_i n), (3, ov_l v16), (5, ov_i (x5 + 1))]) (List.Sublist.subset (by repeat (first | exact List.Sublist.refl _ | apply List.Sublist.cons_cons | apply List.Sublist.cons))) ?_
        exact ih6 v16 (x5 + 1) _ _ I36 (by show 0 ≤ (x5 + 1) ∧ (x5 + 1) ≤ 30 ∧ (h25 36 7) = (h 36 7) ∧ (h25 1 1) = (h 1 1) ∧ (h25 90 2) = (h 90 2) ∧ (h25 0 10) = (h 0 10) ∧ (h25 0 11) = (h 0 11) ∧ (h25 0 12) = (h 0 12) ∧ (h25 0 13) = (h 0 13) ∧ (h25 3 1) = (h 3 1) ∧ (h25 36 8) = (h 36 8) ∧ (h25 46 3) = (h 46 3) ∧ (h25 46 4) = (h 46 4) ∧ (h25 49 4) = (h 49 4) ∧ (h25 49 5) = (h 49 5) ∧ (h25 64 0) = (h 64 0) ∧ (h25 76 0) = (h 76 0) ∧ (h25 36 8) = 58; omega) (by omega)
  exact L8 31 (ov_w sd) 0 _ _ I2 (by show 0 ≤ 0 ∧ 0 ≤ 30 ∧ (h 36 7) = (h 36 7) ∧ (h 1 1) = (h 1 1) ∧ (h 90 2) = (h 90 2) ∧ (h 0 10) = (h 0 10) ∧ (h 0 11) = (h 0 11) ∧ (h 0 12) = (h 0 12) ∧ (h 0 13) = (h 0 13) ∧ (h 3 1) = (h 3 1) ∧ (h 36 8) = (h 36 8) ∧ (h 46 3) = (h 46 3) ∧ (h 46 4) = (h 46 4) ∧ (h 49 4) = (h 49 4) ∧ (h 49 5) = (h 49 5) ∧ (h 64 0) = (h 64 0) ∧ (h 76 0) = (h 76 0) ∧ (h 36 8) = 58; omega) (by omega)

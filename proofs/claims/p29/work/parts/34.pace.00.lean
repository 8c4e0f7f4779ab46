theorem b_86_0_2 : ov_ds ov_m86.2.1 0 [.aload_n 0, .iconst (-1)] = true := by decide +kernel
theorem d_86_2 : decode ov_m86.2.1 2 = .ok (.putfield 22, 3) := by decide +kernel
theorem d_86_5 : decode ov_m86.2.1 5 = .ok (.return_, 1) := by decide +kernel
theorem b_169_0_1 : ov_ds ov_m169.2.1 0 [.aload_n 0] = true := by decide +kernel
theorem d_169_1 : decode ov_m169.2.1 1 = .ok (.getfield 30, 3) := by decide +kernel
theorem d_169_4 : decode ov_m169.2.1 4 = .ok (.getfield 43, 3) := by decide +kernel
theorem b_169_7_1 : ov_ds ov_m169.2.1 7 [.iconst 1] = true := by decide +kernel
theorem d_169_8 : decode ov_m169.2.1 8 = .ok (.iaload, 1) := by decide +kernel
theorem b_169_9_1 : ov_ds ov_m169.2.1 9 [.aload_n 0] = true := by decide +kernel
theorem d_169_10 : decode ov_m169.2.1 10 = .ok (.getfield 30, 3) := by decide +kernel
theorem d_169_13 : decode ov_m169.2.1 13 = .ok (.getfield 43, 3) := by decide +kernel
theorem b_169_16_1 : ov_ds ov_m169.2.1 16 [.iconst 2] = true := by decide +kernel
theorem d_169_17 : decode ov_m169.2.1 17 = .ok (.iaload, 1) := by decide +kernel
theorem d_169_18 : decode ov_m169.2.1 18 = .ok (.if_icmp .le 15, 3) := by decide +kernel
theorem b_169_33_1 : ov_ds ov_m169.2.1 33 [.aload_n 0] = true := by decide +kernel
theorem d_169_34 : decode ov_m169.2.1 34 = .ok (.getfield 30, 3) := by decide +kernel
theorem d_169_37 : decode ov_m169.2.1 37 = .ok (.getfield 43, 3) := by decide +kernel
theorem b_169_40_1 : ov_ds ov_m169.2.1 40 [.iconst 1] = true := by decide +kernel
theorem d_169_41 : decode ov_m169.2.1 41 = .ok (.iaload, 1) := by decide +kernel
theorem d_169_42 : decode ov_m169.2.1 42 = .ok (.ireturn, 1) := by decide +kernel
theorem b_169_21_1 : ov_ds ov_m169.2.1 21 [.aload_n 0] = true := by decide +kernel
theorem d_169_22 : decode ov_m169.2.1 22 = .ok (.getfield 30, 3) := by decide +kernel
theorem d_169_25 : decode ov_m169.2.1 25 = .ok (.getfield 43, 3) := by decide +kernel
theorem b_169_28_1 : ov_ds ov_m169.2.1 28 [.iconst 0] = true := by decide +kernel
theorem d_169_29 : decode ov_m169.2.1 29 = .ok (.iaload, 1) := by decide +kernel
theorem d_169_30 : decode ov_m169.2.1 30 = .ok (.goto 12, 3) := by decide +kernel
theorem b_168_0_1 : ov_ds ov_m168.2.1 0 [.aload_n 0] = true := by decide +kernel
theorem d_168_1 : decode ov_m168.2.1 1 = .ok (.getfield 30, 3) := by decide +kernel
theorem d_168_4 : decode ov_m168.2.1 4 = .ok (.getfield 43, 3) := by decide +kernel
theorem b_168_7_1 : ov_ds ov_m168.2.1 7 [.iconst 1] = true := by decide +kernel
theorem d_168_8 : decode ov_m168.2.1 8 = .ok (.iaload, 1) := by decide +kernel
theorem b_168_9_1 : ov_ds ov_m168.2.1 9 [.aload_n 0] = true := by decide +kernel
theorem d_168_10 : decode ov_m168.2.1 10 = .ok (.getfield 30, 3) := by decide +kernel
theorem d_168_13 : decode ov_m168.2.1 13 = .ok (.getfield 43, 3) := by decide +kernel
theorem b_168_16_1 : ov_ds ov_m168.2.1 16 [.iconst 2] = true := by decide +kernel
theorem d_168_17 : decode ov_m168.2.1 17 = .ok (.iaload, 1) := by decide +kernel
theorem d_168_18 : decode ov_m168.2.1 18 = .ok (.if_icmp .le 15, 3) := by decide +kernel
theorem b_168_33_1 : ov_ds ov_m168.2.1 33 [.aload_n 0] = true := by decide +kernel
theorem d_168_34 : decode ov_m168.2.1 34 = .ok (.getfield 30, 3) := by decide +kernel
theorem d_168_37 : decode ov_m168.2.1 37 = .ok (.getfield 43, 3) := by decide +kernel
theorem b_168_40_1 : ov_ds ov_m168.2.1 40 [.iconst 2] = true := by decide +kernel
theorem d_168_41 : decode ov_m168.2.1 41 = .ok (.iaload, 1) := by decide +kernel
theorem d_168_42 : decode ov_m168.2.1 42 = .ok (.ireturn, 1) := by decide +kernel
theorem b_168_21_1 : ov_ds ov_m168.2.1 21 [.aload_n 0] = true := by decide +kernel
theorem d_168_22 : decode ov_m168.2.1 22 = .ok (.getfield 30, 3) := by decide +kernel
theorem d_168_25 : decode ov_m168.2.1 25 = .ok (.getfield 43, 3) := by decide +kernel
theorem b_168_28_1 : ov_ds ov_m168.2.1 28 [.iconst 0] = true := by decide +kernel
theorem d_168_29 : decode ov_m168.2.1 29 = .ok (.iaload, 1) := by decide +kernel
theorem d_168_30 : decode ov_m168.2.1 30 = .ok (.goto 12, 3) := by decide +kernel
theorem b_170_0_2 : ov_ds ov_m170.2.1 0 [.iload 4, .aload_n 0] = true := by decide +kernel
theorem d_170_3 : decode ov_m170.2.1 3 = .ok (.getfield 30, 3) := by decide +kernel
theorem d_170_6 : decode ov_m170.2.1 6 = .ok (.getfield 43, 3) := by decide +kernel
theorem b_170_9_1 : ov_ds ov_m170.2.1 9 [.iconst 0] = true := by decide +kernel
theorem d_170_10 : decode ov_m170.2.1 10 = .ok (.iaload, 1) := by decide +kernel
theorem d_170_11 : decode ov_m170.2.1 11 = .ok (.if_icmp .ge 9, 3) := by decide +kernel
theorem b_170_20_4 : ov_ds ov_m170.2.1 20 [.iload_n 2, .istore 5, .iload 5, .aload_n 0] = true := by decide +kernel
theorem d_170_26 : decode ov_m170.2.1 26 = .ok (.getfield 46, 3) := by decide +kernel
theorem d_170_29 : decode ov_m170.2.1 29 = .ok (.if_icmp .gt 31, 3) := by decide +kernel
theorem b_170_60_1 : ov_ds ov_m170.2.1 60 [.iconst (-1)] = true := by decide +kernel
theorem d_170_61 : decode ov_m170.2.1 61 = .ok (.ireturn, 1) := by decide +kernel
theorem b_170_32_1 : ov_ds ov_m170.2.1 32 [.aload_n 0] = true := by decide +kernel
theorem d_170_33 : decode ov_m170.2.1 33 = .ok (.getfield 30, 3) := by decide +kernel
theorem b_170_36_1 : ov_ds ov_m170.2.1 36 [.aload_n 0] = true := by decide +kernel
theorem d_170_37 : decode ov_m170.2.1 37 = .ok (.getfield 34, 3) := by decide +kernel
theorem d_170_40 : decode ov_m170.2.1 40 = .ok (.getfield 101, 3) := by decide +kernel
theorem b_170_43_1 : ov_ds ov_m170.2.1 43 [.iload_n 1] = true := by decide +kernel
theorem d_170_44 : decode ov_m170.2.1 44 = .ok (.iaload, 1) := by decide +kernel
theorem b_170_45_1 : ov_ds ov_m170.2.1 45 [.aload_n 0] = true := by decide +kernel
theorem d_170_46 : decode ov_m170.2.1 46 = .ok (.getfield 34, 3) := by decide +kernel
theorem d_170_49 : decode ov_m170.2.1 49 = .ok (.getfield 104, 3) := by decide +kernel
theorem b_170_52_1 : ov_ds ov_m170.2.1 52 [.iload_n 1] = true := by decide +kernel
theorem d_170_53 : decode ov_m170.2.1 53 = .ok (.iaload, 1) := by decide +kernel
theorem d_170_54 : decode ov_m170.2.1 54 = .ok (.invokevirtual 107, 3) := by decide +kernel
theorem d_170_57 : decode ov_m170.2.1 57 = .ok (.ifCond .ne 5, 3) := by decide +kernel
theorem b_170_62_1 : ov_ds ov_m170.2.1 62 [.aload_n 0] = true := by decide +kernel
theorem d_170_63 : decode ov_m170.2.1 63 = .ok (.getfield 30, 3) := by decide +kernel
theorem b_170_66_1 : ov_ds ov_m170.2.1 66 [.aload_n 0] = true := by decide +kernel
theorem d_170_67 : decode ov_m170.2.1 67 = .ok (.getfield 34, 3) := by decide +kernel
theorem d_170_70 : decode ov_m170.2.1 70 = .ok (.getfield 101, 3) := by decide +kernel
theorem b_170_73_1 : ov_ds ov_m170.2.1 73 [.iload_n 1] = true := by decide +kernel
theorem d_170_74 : decode ov_m170.2.1 74 = .ok (.iaload, 1) := by decide +kernel
theorem b_170_75_1 : ov_ds ov_m170.2.1 75 [.aload_n 0] = true := by decide +kernel
theorem d_170_76 : decode ov_m170.2.1 76 = .ok (.getfield 34, 3) := by decide +kernel
theorem d_170_79 : decode ov_m170.2.1 79 = .ok (.getfield 104, 3) := by decide +kernel
theorem b_170_82_1 : ov_ds ov_m170.2.1 82 [.iload_n 1] = true := by decide +kernel
theorem d_170_83 : decode ov_m170.2.1 83 = .ok (.iaload, 1) := by decide +kernel
theorem b_170_84_1 : ov_ds ov_m170.2.1 84 [.iload_n 3] = true := by decide +kernel
theorem d_170_85 : decode ov_m170.2.1 85 = .ok (.invokevirtual 110, 3) := by decide +kernel
theorem b_170_88_5 : ov_ds ov_m170.2.1 88 [.istore 6, .aload_n 0, .iload_n 1, .iconst 1, .iadd] = true := by decide +kernel
theorem b_170_94_4 : ov_ds ov_m170.2.1 94 [.iload 5, .iload_n 3, .iload 6, .iadd] = true := by decide +kernel
theorem b_170_100_2 : ov_ds ov_m170.2.1 100 [.iload 4, .iadd] = true := by decide +kernel
theorem b_170_103_1 : ov_ds ov_m170.2.1 103 [.aload_n 0] = true := by decide +kernel
theorem d_170_104 : decode ov_m170.2.1 104 = .ok (.getfield 30, 3) := by decide +kernel
theorem d_170_107 : decode ov_m170.2.1 107 = .ok (.getfield 54, 3) := by decide +kernel
theorem d_170_110 : decode ov_m170.2.1 110 = .ok (.invokestatic 61, 3) := by decide +kernel
theorem d_170_113 : decode ov_m170.2.1 113 = .ok (.invokevirtual 65, 3) := by decide +kernel
theorem b_170_116_3 : ov_ds ov_m170.2.1 116 [.istore 7, .iload 7, .iconst (-1)] = true := by decide +kernel
theorem d_170_121 : decode ov_m170.2.1 121 = .ok (.if_icmp .ne 7, 3) := by decide +kernel
theorem b_170_128_3 : ov_ds ov_m170.2.1 128 [.iload 7, .iload 6, .iadd] = true := by decide +kernel
theorem b_170_133_2 : ov_ds ov_m170.2.1 133 [.iload 4, .iadd] = true := by decide +kernel
theorem b_170_136_1 : ov_ds ov_m170.2.1 136 [.iload 6] = true := by decide +kernel
theorem d_170_138 : decode ov_m170.2.1 138 = .ok (.ifCond .le 9, 3) := by decide +kernel
theorem b_170_147_2 : ov_ds ov_m170.2.1 147 [.iconst 0, .iadd] = true := by decide +kernel
theorem d_170_149 : decode ov_m170.2.1 149 = .ok (.ireturn, 1) := by decide +kernel
theorem b_170_141_1 : ov_ds ov_m170.2.1 141 [.sipush 10000] = true := by decide +kernel
theorem d_170_144 : decode ov_m170.2.1 144 = .ok (.goto 4, 3) := by decide +kernel
theorem b_170_148_1 : ov_ds ov_m170.2.1 148 [.iadd] = true := by decide +kernel
theorem b_170_124_1 : ov_ds ov_m170.2.1 124 [.iconst (-1)] = true := by decide +kernel
theorem d_170_125 : decode ov_m170.2.1 125 = .ok (.goto 24, 3) := by decide +kernel
theorem b_170_14_3 : ov_ds ov_m170.2.1 14 [.iload_n 2, .iconst 1, .iadd] = true := by decide +kernel
theorem d_170_17 : decode ov_m170.2.1 17 = .ok (.goto 4, 3) := by decide +kernel
theorem b_170_21_3 : ov_ds ov_m170.2.1 21 [.istore 5, .iload 5, .aload_n 0] = true := by decide +kernel
theorem b_167_0_2 : ov_ds ov_m167.2.1 0 [.iload_n 1, .aload_n 0] = true := by decide +kernel
theorem d_167_2 : decode ov_m167.2.1 2 = .ok (.getfield 34, 3) := by decide +kernel
theorem d_167_5 : decode ov_m167.2.1 5 = .ok (.getfield 49, 3) := by decide +kernel
theorem d_167_8 : decode ov_m167.2.1 8 = .ok (.if_icmp .lt 5, 3) := by decide +kernel
theorem b_167_13_2 : ov_ds ov_m167.2.1 13 [.iload_n 1, .aload_n 0] = true := by decide +kernel
theorem d_167_15 : decode ov_m167.2.1 15 = .ok (.getfield 46, 3) := by decide +kernel
theorem b_167_18_2 : ov_ds ov_m167.2.1 18 [.iconst 1, .iadd] = true := by decide +kernel
theorem b_167_20_1 : ov_ds ov_m167.2.1 20 [.imul] = true := by decide +kernel
theorem b_167_21_2 : ov_ds ov_m167.2.1 21 [.iload_n 2, .iadd] = true := by decide +kernel
theorem b_167_23_1 : ov_ds ov_m167.2.1 23 [.aload_n 0] = true := by decide +kernel
theorem d_167_24 : decode ov_m167.2.1 24 = .ok (.getfield 30, 3) := by decide +kernel
theorem d_167_27 : decode ov_m167.2.1 27 = .ok (.getfield 54, 3) := by decide +kernel
theorem b_167_30_1 : ov_ds ov_m167.2.1 30 [.imul] = true := by decide +kernel
theorem b_167_31_2 : ov_ds ov_m167.2.1 31 [.iload_n 3, .iadd] = true := by decide +kernel
theorem b_167_33_2 : ov_ds ov_m167.2.1 33 [.istore 4, .aload_n 0] = true := by decide +kernel
theorem d_167_36 : decode ov_m167.2.1 36 = .ok (.getfield 18, 3) := by decide +kernel
theorem b_167_39_2 : ov_ds ov_m167.2.1 39 [.iconst 0, .iload 4] = true := by decide +kernel
theorem d_167_42 : decode ov_m167.2.1 42 = .ok (.invokevirtual 78, 3) := by decide +kernel
theorem d_167_45 : decode ov_m167.2.1 45 = .ok (.ifCond .eq 13, 3) := by decide +kernel
theorem b_167_58_3 : ov_ds ov_m167.2.1 58 [.iconst (-1), .istore 5, .aload_n 0] = true := by decide +kernel
theorem d_167_62 : decode ov_m167.2.1 62 = .ok (.invokevirtual 86, 3) := by decide +kernel
theorem b_167_65_2 : ov_ds ov_m167.2.1 65 [.istore 6, .aload_n 0] = true := by decide +kernel
theorem d_167_68 : decode ov_m167.2.1 68 = .ok (.invokevirtual 90, 3) := by decide +kernel
theorem b_167_71_1 : ov_ds ov_m167.2.1 71 [.istore 7] = true := by decide +kernel
theorem b_167_73_2 : ov_ds ov_m167.2.1 73 [.iload 7, .iload 6] = true := by decide +kernel
theorem d_167_77 : decode ov_m167.2.1 77 = .ok (.if_icmp .gt 43, 3) := by decide +kernel
theorem b_167_120_1 : ov_ds ov_m167.2.1 120 [.aload_n 0] = true := by decide +kernel
theorem d_167_121 : decode ov_m167.2.1 121 = .ok (.getfield 18, 3) := by decide +kernel
theorem b_167_124_3 : ov_ds ov_m167.2.1 124 [.iconst 0, .iload 4, .iload 5] = true := by decide +kernel
theorem d_167_129 : decode ov_m167.2.1 129 = .ok (.invokevirtual 97, 3) := by decide +kernel
theorem b_167_132_1 : ov_ds ov_m167.2.1 132 [.iload 5] = true := by decide +kernel
theorem d_167_134 : decode ov_m167.2.1 134 = .ok (.ireturn, 1) := by decide +kernel
theorem b_167_80_5 : ov_ds ov_m167.2.1 80 [.aload_n 0, .iload_n 1, .iload_n 2, .iload_n 3, .iload 7] = true := by decide +kernel
theorem d_167_86 : decode ov_m167.2.1 86 = .ok (.invokevirtual 93, 3) := by decide +kernel
theorem b_167_89_3 : ov_ds ov_m167.2.1 89 [.istore 8, .iload 8, .iconst (-1)] = true := by decide +kernel
theorem d_167_94 : decode ov_m167.2.1 94 = .ok (.if_icmp .eq 20, 3) := by decide +kernel
theorem b_167_114_1 : ov_ds ov_m167.2.1 114 [.iinc 7 1] = true := by decide +kernel
theorem d_167_117 : decode ov_m167.2.1 117 = .ok (.goto (-44), 3) := by decide +kernel
theorem b_167_97_2 : ov_ds ov_m167.2.1 97 [.iload 5, .iconst (-1)] = true := by decide +kernel
theorem d_167_100 : decode ov_m167.2.1 100 = .ok (.if_icmp .eq 10, 3) := by decide +kernel
theorem b_167_110_3 : ov_ds ov_m167.2.1 110 [.iload 8, .istore 5, .iinc 7 1] = true := by decide +kernel
theorem b_167_103_2 : ov_ds ov_m167.2.1 103 [.iload 8, .iload 5] = true := by decide +kernel
theorem d_167_107 : decode ov_m167.2.1 107 = .ok (.if_icmp .ge 7, 3) := by decide +kernel
theorem b_167_48_1 : ov_ds ov_m167.2.1 48 [.aload_n 0] = true := by decide +kernel
theorem d_167_49 : decode ov_m167.2.1 49 = .ok (.getfield 18, 3) := by decide +kernel
theorem b_167_52_1 : ov_ds ov_m167.2.1 52 [.iload 4] = true := by decide +kernel
theorem d_167_54 : decode ov_m167.2.1 54 = .ok (.invokevirtual 82, 3) := by decide +kernel
theorem d_167_57 : decode ov_m167.2.1 57 = .ok (.ireturn, 1) := by decide +kernel
theorem b_167_11_1 : ov_ds ov_m167.2.1 11 [.iconst 0] = true := by decide +kernel
theorem d_167_12 : decode ov_m167.2.1 12 = .ok (.ireturn, 1) := by decide +kernel
theorem b_171_0_6 : ov_ds ov_m171.2.1 0 [.iload_n 1, .istore_n 2, .iconst 0, .istore_n 3, .iconst 0, .istore 4] = true := by decide +kernel
theorem b_171_7_2 : ov_ds ov_m171.2.1 7 [.iload 4, .aload_n 0] = true := by decide +kernel
theorem d_171_10 : decode ov_m171.2.1 10 = .ok (.getfield 34, 3) := by decide +kernel
theorem d_171_13 : decode ov_m171.2.1 13 = .ok (.getfield 49, 3) := by decide +kernel
theorem d_171_16 : decode ov_m171.2.1 16 = .ok (.if_icmp .ge 138, 3) := by decide +kernel
theorem d_171_154 : decode ov_m171.2.1 154 = .ok (.return_, 1) := by decide +kernel
theorem b_171_19_4 : ov_ds ov_m171.2.1 19 [.aload_n 0, .iload 4, .iload_n 3, .iload_n 2] = true := by decide +kernel
theorem d_171_24 : decode ov_m171.2.1 24 = .ok (.invokevirtual 65, 3) := by decide +kernel
theorem b_171_27_2 : ov_ds ov_m171.2.1 27 [.istore 5, .aload_n 0] = true := by decide +kernel
theorem d_171_30 : decode ov_m171.2.1 30 = .ok (.invokevirtual 90, 3) := by decide +kernel
theorem b_171_33_2 : ov_ds ov_m171.2.1 33 [.istore 6, .aload_n 0] = true := by decide +kernel
theorem d_171_36 : decode ov_m171.2.1 36 = .ok (.invokevirtual 86, 3) := by decide +kernel
theorem b_171_39_1 : ov_ds ov_m171.2.1 39 [.istore 7] = true := by decide +kernel
theorem b_171_41_2 : ov_ds ov_m171.2.1 41 [.iload 6, .iload 7] = true := by decide +kernel
theorem d_171_45 : decode ov_m171.2.1 45 = .ok (.if_icmp .ge 24, 3) := by decide +kernel
theorem b_171_69_1 : ov_ds ov_m171.2.1 69 [.aload_n 0] = true := by decide +kernel
theorem d_171_70 : decode ov_m171.2.1 70 = .ok (.getfield 9, 3) := by decide +kernel
theorem b_171_73_2 : ov_ds ov_m171.2.1 73 [.iload 4, .iload 6] = true := by decide +kernel
theorem d_171_77 : decode ov_m171.2.1 77 = .ok (.iastore, 1) := by decide +kernel
theorem b_171_78_3 : ov_ds ov_m171.2.1 78 [.iload_n 3, .iload 6, .aload_n 0] = true := by decide +kernel
theorem d_171_82 : decode ov_m171.2.1 82 = .ok (.getfield 30, 3) := by decide +kernel
theorem d_171_85 : decode ov_m171.2.1 85 = .ok (.getfield 43, 3) := by decide +kernel
theorem b_171_88_1 : ov_ds ov_m171.2.1 88 [.iconst 0] = true := by decide +kernel
theorem d_171_89 : decode ov_m171.2.1 89 = .ok (.iaload, 1) := by decide +kernel
theorem d_171_90 : decode ov_m171.2.1 90 = .ok (.if_icmp .ge 7, 3) := by decide +kernel
theorem b_171_97_2 : ov_ds ov_m171.2.1 97 [.iconst 0, .iadd] = true := by decide +kernel
theorem b_171_99_2 : ov_ds ov_m171.2.1 99 [.istore_n 3, .aload_n 0] = true := by decide +kernel
theorem d_171_101 : decode ov_m171.2.1 101 = .ok (.getfield 30, 3) := by decide +kernel
theorem b_171_104_1 : ov_ds ov_m171.2.1 104 [.aload_n 0] = true := by decide +kernel
theorem d_171_105 : decode ov_m171.2.1 105 = .ok (.getfield 34, 3) := by decide +kernel
theorem d_171_108 : decode ov_m171.2.1 108 = .ok (.getfield 101, 3) := by decide +kernel
theorem b_171_111_1 : ov_ds ov_m171.2.1 111 [.iload 4] = true := by decide +kernel
theorem d_171_113 : decode ov_m171.2.1 113 = .ok (.iaload, 1) := by decide +kernel
theorem b_171_114_1 : ov_ds ov_m171.2.1 114 [.aload_n 0] = true := by decide +kernel
theorem d_171_115 : decode ov_m171.2.1 115 = .ok (.getfield 34, 3) := by decide +kernel
theorem d_171_118 : decode ov_m171.2.1 118 = .ok (.getfield 104, 3) := by decide +kernel
theorem b_171_121_1 : ov_ds ov_m171.2.1 121 [.iload 4] = true := by decide +kernel
theorem d_171_123 : decode ov_m171.2.1 123 = .ok (.iaload, 1) := by decide +kernel
theorem b_171_124_1 : ov_ds ov_m171.2.1 124 [.iload_n 2] = true := by decide +kernel
theorem d_171_125 : decode ov_m171.2.1 125 = .ok (.invokevirtual 110, 3) := by decide +kernel
theorem b_171_128_4 : ov_ds ov_m171.2.1 128 [.istore 8, .iload_n 2, .iload 8, .iadd] = true := by decide +kernel
theorem b_171_134_2 : ov_ds ov_m171.2.1 134 [.iload 6, .iadd] = true := by decide +kernel
theorem b_171_137_1 : ov_ds ov_m171.2.1 137 [.aload_n 0] = true := by decide +kernel
theorem d_171_138 : decode ov_m171.2.1 138 = .ok (.getfield 30, 3) := by decide +kernel
theorem d_171_141 : decode ov_m171.2.1 141 = .ok (.getfield 54, 3) := by decide +kernel
theorem d_171_144 : decode ov_m171.2.1 144 = .ok (.invokestatic 61, 3) := by decide +kernel
theorem b_171_147_2 : ov_ds ov_m171.2.1 147 [.istore_n 2, .iinc 4 1] = true := by decide +kernel
theorem d_171_151 : decode ov_m171.2.1 151 = .ok (.goto (-144), 3) := by decide +kernel
theorem b_171_93_1 : ov_ds ov_m171.2.1 93 [.iconst 1] = true := by decide +kernel
theorem d_171_94 : decode ov_m171.2.1 94 = .ok (.goto 4, 3) := by decide +kernel
theorem b_171_98_1 : ov_ds ov_m171.2.1 98 [.iadd] = true := by decide +kernel
theorem b_171_48_5 : ov_ds ov_m171.2.1 48 [.aload_n 0, .iload 4, .iload_n 3, .iload_n 2, .iload 6] = true := by decide +kernel
theorem d_171_55 : decode ov_m171.2.1 55 = .ok (.invokevirtual 93, 3) := by decide +kernel
theorem b_171_58_1 : ov_ds ov_m171.2.1 58 [.iload 5] = true := by decide +kernel
theorem d_171_60 : decode ov_m171.2.1 60 = .ok (.if_icmp .eq 9, 3) := by decide +kernel
theorem b_171_63_1 : ov_ds ov_m171.2.1 63 [.iinc 6 1] = true := by decide +kernel
theorem d_171_66 : decode ov_m171.2.1 66 = .ok (.goto (-25), 3) := by decide +kernel
theorem b_165_0_1 : ov_ds ov_m165.2.1 0 [.aload_n 0] = true := by decide +kernel
theorem d_165_1 : decode ov_m165.2.1 1 = .ok (.getfield 22, 3) := by decide +kernel
theorem b_165_4_1 : ov_ds ov_m165.2.1 4 [.iload_n 3] = true := by decide +kernel
theorem d_165_5 : decode ov_m165.2.1 5 = .ok (.if_icmp .ne 8, 3) := by decide +kernel
theorem b_165_13_2 : ov_ds ov_m165.2.1 13 [.aload_n 0, .iload_n 3] = true := by decide +kernel
theorem d_165_15 : decode ov_m165.2.1 15 = .ok (.putfield 22, 3) := by decide +kernel
theorem b_165_18_2 : ov_ds ov_m165.2.1 18 [.aload_n 0, .aload_n 1] = true := by decide +kernel
theorem d_165_20 : decode ov_m165.2.1 20 = .ok (.putfield 30, 3) := by decide +kernel
theorem b_165_23_2 : ov_ds ov_m165.2.1 23 [.aload_n 0, .aload_n 2] = true := by decide +kernel
theorem d_165_25 : decode ov_m165.2.1 25 = .ok (.putfield 34, 3) := by decide +kernel
theorem b_165_28_2 : ov_ds ov_m165.2.1 28 [.aload_n 0, .aload_n 0] = true := by decide +kernel
theorem d_165_30 : decode ov_m165.2.1 30 = .ok (.getfield 30, 3) := by decide +kernel
theorem d_165_33 : decode ov_m165.2.1 33 = .ok (.getfield 38, 3) := by decide +kernel
theorem d_165_36 : decode ov_m165.2.1 36 = .ok (.ifCond .eq 7, 3) := by decide +kernel
theorem b_165_43_1 : ov_ds ov_m165.2.1 43 [.aload_n 0] = true := by decide +kernel
theorem d_165_44 : decode ov_m165.2.1 44 = .ok (.getfield 30, 3) := by decide +kernel
theorem d_165_47 : decode ov_m165.2.1 47 = .ok (.getfield 43, 3) := by decide +kernel
theorem b_165_50_1 : ov_ds ov_m165.2.1 50 [.iconst 3] = true := by decide +kernel
theorem d_165_51 : decode ov_m165.2.1 51 = .ok (.iaload, 1) := by decide +kernel
theorem d_165_52 : decode ov_m165.2.1 52 = .ok (.putfield 46, 3) := by decide +kernel
theorem b_165_55_1 : ov_ds ov_m165.2.1 55 [.aload_n 0] = true := by decide +kernel
theorem d_165_56 : decode ov_m165.2.1 56 = .ok (.getfield 18, 3) := by decide +kernel
theorem b_165_59_1 : ov_ds ov_m165.2.1 59 [.aload_n 0] = true := by decide +kernel
theorem d_165_60 : decode ov_m165.2.1 60 = .ok (.getfield 34, 3) := by decide +kernel
theorem d_165_63 : decode ov_m165.2.1 63 = .ok (.getfield 49, 3) := by decide +kernel
theorem b_165_66_1 : ov_ds ov_m165.2.1 66 [.aload_n 0] = true := by decide +kernel
theorem d_165_67 : decode ov_m165.2.1 67 = .ok (.getfield 46, 3) := by decide +kernel
theorem b_165_70_2 : ov_ds ov_m165.2.1 70 [.iconst 1, .iadd] = true := by decide +kernel
theorem b_165_72_2 : ov_ds ov_m165.2.1 72 [.imul, .aload_n 0] = true := by decide +kernel
theorem d_165_74 : decode ov_m165.2.1 74 = .ok (.getfield 30, 3) := by decide +kernel
theorem d_165_77 : decode ov_m165.2.1 77 = .ok (.getfield 54, 3) := by decide +kernel
theorem b_165_80_1 : ov_ds ov_m165.2.1 80 [.imul] = true := by decide +kernel
theorem d_165_81 : decode ov_m165.2.1 81 = .ok (.invokevirtual 57, 3) := by decide +kernel
theorem b_165_84_5 : ov_ds ov_m165.2.1 84 [.aload_n 0, .iconst 0, .iconst 0, .iload_n 3, .aload_n 0] = true := by decide +kernel
theorem d_165_89 : decode ov_m165.2.1 89 = .ok (.getfield 30, 3) := by decide +kernel
theorem d_165_92 : decode ov_m165.2.1 92 = .ok (.getfield 54, 3) := by decide +kernel
theorem d_165_95 : decode ov_m165.2.1 95 = .ok (.invokestatic 61, 3) := by decide +kernel
theorem d_165_98 : decode ov_m165.2.1 98 = .ok (.invokevirtual 65, 3) := by decide +kernel
theorem b_165_101_4 : ov_ds ov_m165.2.1 101 [.istore 4, .aload_n 0, .iload 4, .iconst (-1)] = true := by decide +kernel
theorem d_165_107 : decode ov_m165.2.1 107 = .ok (.if_icmp .eq 7, 3) := by decide +kernel
theorem b_165_114_1 : ov_ds ov_m165.2.1 114 [.iconst 0] = true := by decide +kernel
theorem d_165_115 : decode ov_m165.2.1 115 = .ok (.putfield 26, 3) := by decide +kernel
theorem b_165_118_1 : ov_ds ov_m165.2.1 118 [.aload_n 0] = true := by decide +kernel
theorem d_165_119 : decode ov_m165.2.1 119 = .ok (.getfield 26, 3) := by decide +kernel
theorem d_165_122 : decode ov_m165.2.1 122 = .ok (.ifCond .eq 40, 3) := by decide +kernel
theorem b_165_162_1 : ov_ds ov_m165.2.1 162 [.aload_n 0] = true := by decide +kernel
theorem d_165_163 : decode ov_m165.2.1 163 = .ok (.getfield 26, 3) := by decide +kernel
theorem d_165_166 : decode ov_m165.2.1 166 = .ok (.ireturn, 1) := by decide +kernel
theorem b_165_110_1 : ov_ds ov_m165.2.1 110 [.iconst 1] = true := by decide +kernel
theorem d_165_111 : decode ov_m165.2.1 111 = .ok (.goto 4, 3) := by decide +kernel
theorem b_165_125_3 : ov_ds ov_m165.2.1 125 [.aload_n 0, .iload 4, .sipush 10000] = true := by decide +kernel
theorem d_165_131 : decode ov_m165.2.1 131 = .ok (.idiv, 1) := by decide +kernel
theorem d_165_132 : decode ov_m165.2.1 132 = .ok (.putfield 69, 3) := by decide +kernel
theorem b_165_135_4 : ov_ds ov_m165.2.1 135 [.aload_n 0, .iload_n 3, .iload 4, .sipush 10000] = true := by decide +kernel
theorem d_165_142 : decode ov_m165.2.1 142 = .ok (.irem, 1) := by decide +kernel
theorem b_165_143_1 : ov_ds ov_m165.2.1 143 [.iadd] = true := by decide +kernel
theorem d_165_144 : decode ov_m165.2.1 144 = .ok (.putfield 72, 3) := by decide +kernel
theorem b_165_147_3 : ov_ds ov_m165.2.1 147 [.aload_n 0, .iload_n 3, .aload_n 0] = true := by decide +kernel
theorem d_165_150 : decode ov_m165.2.1 150 = .ok (.getfield 30, 3) := by decide +kernel
theorem d_165_153 : decode ov_m165.2.1 153 = .ok (.getfield 54, 3) := by decide +kernel
theorem d_165_156 : decode ov_m165.2.1 156 = .ok (.invokestatic 61, 3) := by decide +kernel
theorem d_165_159 : decode ov_m165.2.1 159 = .ok (.invokevirtual 75, 3) := by decide +kernel
theorem b_165_39_1 : ov_ds ov_m165.2.1 39 [.iconst 0] = true := by decide +kernel
theorem d_165_40 : decode ov_m165.2.1 40 = .ok (.goto 12, 3) := by decide +kernel
theorem b_165_8_1 : ov_ds ov_m165.2.1 8 [.aload_n 0] = true := by decide +kernel
theorem d_165_9 : decode ov_m165.2.1 9 = .ok (.getfield 26, 3) := by decide +kernel
theorem d_165_12 : decode ov_m165.2.1 12 = .ok (.ireturn, 1) := by decide +kernel

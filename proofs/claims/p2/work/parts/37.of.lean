theorem b_122_0_1 : ov_ds ov_m122.2.1 0 [.iload_n 1] = true := by decide +kernel
theorem d_122_1 : decode ov_m122.2.1 1 = .ok (.ifCond .lt 20, 3) := by decide +kernel
theorem b_122_21_1 : ov_ds ov_m122.2.1 21 [.iconst 0] = true := by decide +kernel
theorem d_122_22 : decode ov_m122.2.1 22 = .ok (.ireturn, 1) := by decide +kernel
theorem b_122_4_3 : ov_ds ov_m122.2.1 4 [.iload_n 1, .iconst 4, .aload_n 0] = true := by decide +kernel
theorem d_122_7 : decode ov_m122.2.1 7 = .ok (.getfield 78, 3) := by decide +kernel
theorem d_122_10 : decode ov_m122.2.1 10 = .ok (.getfield 292, 3) := by decide +kernel
theorem b_122_13_1 : ov_ds ov_m122.2.1 13 [.iadd] = true := by decide +kernel
theorem d_122_14 : decode ov_m122.2.1 14 = .ok (.if_icmp .ge 7, 3) := by decide +kernel
theorem b_122_17_1 : ov_ds ov_m122.2.1 17 [.iconst 1] = true := by decide +kernel
theorem d_122_18 : decode ov_m122.2.1 18 = .ok (.goto 4, 3) := by decide +kernel
theorem b_103_0_1 : ov_ds ov_m103.2.1 0 [.aload_n 0] = true := by decide +kernel
theorem d_103_1 : decode ov_m103.2.1 1 = .ok (.getfield 78, 3) := by decide +kernel
theorem d_103_4 : decode ov_m103.2.1 4 = .ok (.getfield 188, 3) := by decide +kernel
theorem d_103_7 : decode ov_m103.2.1 7 = .ok (.ifCond .eq 7, 3) := by decide +kernel
theorem b_103_14_1 : ov_ds ov_m103.2.1 14 [.aload_n 0] = true := by decide +kernel
theorem d_103_15 : decode ov_m103.2.1 15 = .ok (.getfield 78, 3) := by decide +kernel
theorem d_103_18 : decode ov_m103.2.1 18 = .ok (.getfield 176, 3) := by decide +kernel
theorem b_103_21_1 : ov_ds ov_m103.2.1 21 [.iconst 3] = true := by decide +kernel
theorem d_103_22 : decode ov_m103.2.1 22 = .ok (.iaload, 1) := by decide +kernel
theorem b_103_23_1 : ov_ds ov_m103.2.1 23 [.aload_n 0] = true := by decide +kernel
theorem d_103_24 : decode ov_m103.2.1 24 = .ok (.getfield 28, 3) := by decide +kernel
theorem d_103_27 : decode ov_m103.2.1 27 = .ok (.getfield 185, 3) := by decide +kernel
theorem b_103_30_1 : ov_ds ov_m103.2.1 30 [.isub] = true := by decide +kernel
theorem d_103_31 : decode ov_m103.2.1 31 = .ok (.ireturn, 1) := by decide +kernel
theorem b_103_10_1 : ov_ds ov_m103.2.1 10 [.iconst 0] = true := by decide +kernel
theorem d_103_11 : decode ov_m103.2.1 11 = .ok (.goto 20, 3) := by decide +kernel
theorem b_199_0_4 : ov_ds ov_m199.2.1 0 [.iconst 0, .istore_n 1, .iconst 0, .istore_n 2] = true := by decide +kernel
theorem b_199_4_2 : ov_ds ov_m199.2.1 4 [.iload_n 2, .bipush 54] = true := by decide +kernel
theorem d_199_7 : decode ov_m199.2.1 7 = .ok (.if_icmp .ge 36, 3) := by decide +kernel
theorem b_199_43_1 : ov_ds ov_m199.2.1 43 [.iload_n 1] = true := by decide +kernel
theorem d_199_44 : decode ov_m199.2.1 44 = .ok (.ireturn, 1) := by decide +kernel
theorem b_199_10_1 : ov_ds ov_m199.2.1 10 [.aload_n 0] = true := by decide +kernel
theorem d_199_11 : decode ov_m199.2.1 11 = .ok (.getfield 78, 3) := by decide +kernel
theorem d_199_14 : decode ov_m199.2.1 14 = .ok (.getfield 139, 3) := by decide +kernel
theorem b_199_17_1 : ov_ds ov_m199.2.1 17 [.iload_n 2] = true := by decide +kernel
theorem d_199_18 : decode ov_m199.2.1 18 = .ok (.iaload, 1) := by decide +kernel
theorem b_199_19_1 : ov_ds ov_m199.2.1 19 [.iconst 1] = true := by decide +kernel
theorem d_199_20 : decode ov_m199.2.1 20 = .ok (.if_icmp .ne 17, 3) := by decide +kernel
theorem b_199_37_1 : ov_ds ov_m199.2.1 37 [.iinc 2 1] = true := by decide +kernel
theorem d_199_40 : decode ov_m199.2.1 40 = .ok (.goto (-36), 3) := by decide +kernel
theorem b_199_23_1 : ov_ds ov_m199.2.1 23 [.aload_n 0] = true := by decide +kernel
theorem d_199_24 : decode ov_m199.2.1 24 = .ok (.getfield 28, 3) := by decide +kernel
theorem b_199_27_1 : ov_ds ov_m199.2.1 27 [.iload_n 2] = true := by decide +kernel
theorem d_199_28 : decode ov_m199.2.1 28 = .ok (.invokevirtual 151, 3) := by decide +kernel
theorem d_199_31 : decode ov_m199.2.1 31 = .ok (.ifCond .ne 6, 3) := by decide +kernel
theorem b_199_34_2 : ov_ds ov_m199.2.1 34 [.iinc 1 1, .iinc 2 1] = true := by decide +kernel
theorem b_83_0_2 : ov_ds ov_m83.2.1 0 [.iconst 0, .istore_n 1] = true := by decide +kernel
theorem b_83_2_2 : ov_ds ov_m83.2.1 2 [.iload_n 1, .aload_n 0] = true := by decide +kernel
theorem d_83_4 : decode ov_m83.2.1 4 = .ok (.getfield 43, 3) := by decide +kernel
theorem d_83_7 : decode ov_m83.2.1 7 = .ok (.arraylength, 1) := by decide +kernel
theorem d_83_8 : decode ov_m83.2.1 8 = .ok (.if_icmp .ge 16, 3) := by decide +kernel
theorem d_83_24 : decode ov_m83.2.1 24 = .ok (.return_, 1) := by decide +kernel
theorem b_83_11_1 : ov_ds ov_m83.2.1 11 [.aload_n 0] = true := by decide +kernel
theorem d_83_12 : decode ov_m83.2.1 12 = .ok (.getfield 43, 3) := by decide +kernel
theorem b_83_15_2 : ov_ds ov_m83.2.1 15 [.iload_n 1, .iconst 0] = true := by decide +kernel
theorem d_83_17 : decode ov_m83.2.1 17 = .ok (.bastore, 1) := by decide +kernel
theorem b_83_18_1 : ov_ds ov_m83.2.1 18 [.iinc 1 1] = true := by decide +kernel
theorem d_83_21 : decode ov_m83.2.1 21 = .ok (.goto (-19), 3) := by decide +kernel
theorem b_84_0_1 : ov_ds ov_m84.2.1 0 [.aload_n 0] = true := by decide +kernel
theorem d_84_1 : decode ov_m84.2.1 1 = .ok (.getfield 50, 3) := by decide +kernel
theorem d_84_4 : decode ov_m84.2.1 4 = .ok (.invokevirtual 129, 3) := by decide +kernel
theorem b_84_7_1 : ov_ds ov_m84.2.1 7 [.aload_n 0] = true := by decide +kernel
theorem d_84_8 : decode ov_m84.2.1 8 = .ok (.getfield 64, 3) := by decide +kernel
theorem d_84_11 : decode ov_m84.2.1 11 = .ok (.invokevirtual 126, 3) := by decide +kernel
theorem b_84_14_1 : ov_ds ov_m84.2.1 14 [.aload_n 0] = true := by decide +kernel
theorem d_84_15 : decode ov_m84.2.1 15 = .ok (.getfield 71, 3) := by decide +kernel
theorem d_84_18 : decode ov_m84.2.1 18 = .ok (.invokevirtual 130, 3) := by decide +kernel
theorem d_84_21 : decode ov_m84.2.1 21 = .ok (.return_, 1) := by decide +kernel
theorem b_21_0_1 : ov_ds ov_m21.2.1 0 [.aload_n 0] = true := by decide +kernel
theorem d_21_1 : decode ov_m21.2.1 1 = .ok (.getfield 12, 3) := by decide +kernel
theorem b_21_4_1 : ov_ds ov_m21.2.1 4 [.lload_n 1] = true := by decide +kernel
theorem d_21_5 : decode ov_m21.2.1 5 = .ok (.invokevirtual 101, 3) := by decide +kernel
theorem b_21_8_1 : ov_ds ov_m21.2.1 8 [.aload_n 0] = true := by decide +kernel
theorem d_21_9 : decode ov_m21.2.1 9 = .ok (.getfield 12, 3) := by decide +kernel
theorem b_21_12_1 : ov_ds ov_m21.2.1 12 [.lload_n 3] = true := by decide +kernel
theorem d_21_13 : decode ov_m21.2.1 13 = .ok (.invokevirtual 101, 3) := by decide +kernel
theorem b_21_16_1 : ov_ds ov_m21.2.1 16 [.aload_n 0] = true := by decide +kernel
theorem d_21_17 : decode ov_m21.2.1 17 = .ok (.getfield 12, 3) := by decide +kernel
theorem b_21_20_1 : ov_ds ov_m21.2.1 20 [.lload 5] = true := by decide +kernel
theorem d_21_22 : decode ov_m21.2.1 22 = .ok (.invokevirtual 101, 3) := by decide +kernel
theorem b_21_25_1 : ov_ds ov_m21.2.1 25 [.aload_n 0] = true := by decide +kernel
theorem d_21_26 : decode ov_m21.2.1 26 = .ok (.getfield 12, 3) := by decide +kernel
theorem d_21_29 : decode ov_m21.2.1 29 = .ok (.getfield 105, 3) := by decide +kernel
theorem d_21_32 : decode ov_m21.2.1 32 = .ok (.ireturn, 1) := by decide +kernel
theorem b_23_0_1 : ov_ds ov_m23.2.1 0 [.aload_n 0] = true := by decide +kernel
theorem d_23_1 : decode ov_m23.2.1 1 = .ok (.getfield 21, 3) := by decide +kernel
theorem b_23_4_1 : ov_ds ov_m23.2.1 4 [.aload_n 0] = true := by decide +kernel
theorem d_23_5 : decode ov_m23.2.1 5 = .ok (.getfield 82, 3) := by decide +kernel
theorem d_23_8 : decode ov_m23.2.1 8 = .ok (.invokevirtual 109, 3) := by decide +kernel
theorem b_23_11_2 : ov_ds ov_m23.2.1 11 [.istore_n 1, .iload_n 1] = true := by decide +kernel
theorem d_23_13 : decode ov_m23.2.1 13 = .ok (.ifCond .ne 50, 3) := by decide +kernel
theorem b_23_63_1 : ov_ds ov_m23.2.1 63 [.iload_n 1] = true := by decide +kernel
theorem d_23_64 : decode ov_m23.2.1 64 = .ok (.ireturn, 1) := by decide +kernel
theorem b_23_16_1 : ov_ds ov_m23.2.1 16 [.aload_n 0] = true := by decide +kernel
theorem d_23_17 : decode ov_m23.2.1 17 = .ok (.getfield 78, 3) := by decide +kernel
theorem b_23_20_3 : ov_ds ov_m23.2.1 20 [.astore_n 2, .aload_n 0, .aload_n 0] = true := by decide +kernel
theorem d_23_23 : decode ov_m23.2.1 23 = .ok (.getfield 82, 3) := by decide +kernel
theorem d_23_26 : decode ov_m23.2.1 26 = .ok (.putfield 78, 3) := by decide +kernel
theorem b_23_29_2 : ov_ds ov_m23.2.1 29 [.aload_n 0, .aload_n 2] = true := by decide +kernel
theorem d_23_31 : decode ov_m23.2.1 31 = .ok (.putfield 82, 3) := by decide +kernel
theorem b_23_34_1 : ov_ds ov_m23.2.1 34 [.aload_n 0] = true := by decide +kernel
theorem d_23_35 : decode ov_m23.2.1 35 = .ok (.getfield 88, 3) := by decide +kernel
theorem d_23_38 : decode ov_m23.2.1 38 = .ok (.invokevirtual 113, 3) := by decide +kernel
theorem b_23_41_1 : ov_ds ov_m23.2.1 41 [.aload_n 0] = true := by decide +kernel
theorem d_23_42 : decode ov_m23.2.1 42 = .ok (.getfield 28, 3) := by decide +kernel
theorem d_23_45 : decode ov_m23.2.1 45 = .ok (.invokevirtual 114, 3) := by decide +kernel
theorem b_23_48_1 : ov_ds ov_m23.2.1 48 [.aload_n 0] = true := by decide +kernel
theorem d_23_49 : decode ov_m23.2.1 49 = .ok (.getfield 35, 3) := by decide +kernel
theorem d_23_52 : decode ov_m23.2.1 52 = .ok (.invokevirtual 115, 3) := by decide +kernel
theorem b_23_55_1 : ov_ds ov_m23.2.1 55 [.aload_n 0] = true := by decide +kernel
theorem d_23_56 : decode ov_m23.2.1 56 = .ok (.invokevirtual 116, 3) := by decide +kernel
theorem b_23_59_1 : ov_ds ov_m23.2.1 59 [.aload_n 0] = true := by decide +kernel
theorem d_23_60 : decode ov_m23.2.1 60 = .ok (.invokevirtual 119, 3) := by decide +kernel
theorem b_88_0_1 : ov_ds ov_m88.2.1 0 [.aload_n 0] = true := by decide +kernel
theorem d_88_1 : decode ov_m88.2.1 1 = .ok (.getfield 21, 3) := by decide +kernel
theorem b_88_4_1 : ov_ds ov_m88.2.1 4 [.aload_n 0] = true := by decide +kernel
theorem d_88_5 : decode ov_m88.2.1 5 = .ok (.getfield 78, 3) := by decide +kernel
theorem b_88_8_1 : ov_ds ov_m88.2.1 8 [.aload_n 0] = true := by decide +kernel
theorem d_88_9 : decode ov_m88.2.1 9 = .ok (.getfield 92, 3) := by decide +kernel
theorem d_88_12 : decode ov_m88.2.1 12 = .ok (.invokevirtual 122, 3) := by decide +kernel
theorem b_88_15_2 : ov_ds ov_m88.2.1 15 [.istore_n 1, .iload_n 1] = true := by decide +kernel
theorem d_88_17 : decode ov_m88.2.1 17 = .ok (.ifCond .ne 28, 3) := by decide +kernel
theorem b_88_45_1 : ov_ds ov_m88.2.1 45 [.iload_n 1] = true := by decide +kernel
theorem d_88_46 : decode ov_m88.2.1 46 = .ok (.ireturn, 1) := by decide +kernel
theorem b_88_20_1 : ov_ds ov_m88.2.1 20 [.aload_n 0] = true := by decide +kernel
theorem d_88_21 : decode ov_m88.2.1 21 = .ok (.getfield 88, 3) := by decide +kernel
theorem b_88_24_3 : ov_ds ov_m88.2.1 24 [.astore_n 2, .aload_n 0, .aload_n 0] = true := by decide +kernel
theorem d_88_27 : decode ov_m88.2.1 27 = .ok (.getfield 92, 3) := by decide +kernel
theorem d_88_30 : decode ov_m88.2.1 30 = .ok (.putfield 88, 3) := by decide +kernel
theorem b_88_33_2 : ov_ds ov_m88.2.1 33 [.aload_n 0, .aload_n 2] = true := by decide +kernel
theorem d_88_35 : decode ov_m88.2.1 35 = .ok (.putfield 92, 3) := by decide +kernel
theorem b_88_38_1 : ov_ds ov_m88.2.1 38 [.aload_n 0] = true := by decide +kernel
theorem d_88_39 : decode ov_m88.2.1 39 = .ok (.getfield 64, 3) := by decide +kernel
theorem d_88_42 : decode ov_m88.2.1 42 = .ok (.invokevirtual 126, 3) := by decide +kernel
theorem b_93_0_1 : ov_ds ov_m93.2.1 0 [.aload_n 0] = true := by decide +kernel
theorem d_93_1 : decode ov_m93.2.1 1 = .ok (.getfield 78, 3) := by decide +kernel
theorem b_93_4_2 : ov_ds ov_m93.2.1 4 [.iload_n 1, .iload_n 2] = true := by decide +kernel
theorem d_93_6 : decode ov_m93.2.1 6 = .ok (.invokevirtual 131, 3) := by decide +kernel
theorem b_93_9_3 : ov_ds ov_m93.2.1 9 [.istore 4, .iload 4, .iconst (-1)] = true := by decide +kernel
theorem d_93_14 : decode ov_m93.2.1 14 = .ok (.if_icmp .ne 5, 3) := by decide +kernel
theorem b_93_19_2 : ov_ds ov_m93.2.1 19 [.iload_n 3, .iconst 5] = true := by decide +kernel
theorem d_93_21 : decode ov_m93.2.1 21 = .ok (.if_icmp .ne 14, 3) := by decide +kernel
theorem b_93_35_1 : ov_ds ov_m93.2.1 35 [.aload_n 0] = true := by decide +kernel
theorem d_93_36 : decode ov_m93.2.1 36 = .ok (.getfield 78, 3) := by decide +kernel
theorem d_93_39 : decode ov_m93.2.1 39 = .ok (.getfield 139, 3) := by decide +kernel
theorem b_93_42_1 : ov_ds ov_m93.2.1 42 [.iload 4] = true := by decide +kernel
theorem d_93_44 : decode ov_m93.2.1 44 = .ok (.iaload, 1) := by decide +kernel
theorem b_93_45_1 : ov_ds ov_m93.2.1 45 [.iconst (-1)] = true := by decide +kernel
theorem d_93_46 : decode ov_m93.2.1 46 = .ok (.if_icmp .ne 5, 3) := by decide +kernel
theorem b_93_51_1 : ov_ds ov_m93.2.1 51 [.iload_n 3] = true := by decide +kernel
theorem d_93_52 : decode ov_m93.2.1 52 = .ok (.tableswitch 112 0 4 #[36, 47, 58, 69, 80], 36) := by decide +kernel
theorem b_93_88_1 : ov_ds ov_m93.2.1 88 [.aload_n 0] = true := by decide +kernel
theorem d_93_89 : decode ov_m93.2.1 89 = .ok (.getfield 78, 3) := by decide +kernel
theorem d_93_92 : decode ov_m93.2.1 92 = .ok (.getfield 139, 3) := by decide +kernel
theorem b_93_95_1 : ov_ds ov_m93.2.1 95 [.iload 4] = true := by decide +kernel
theorem d_93_97 : decode ov_m93.2.1 97 = .ok (.iaload, 1) := by decide +kernel
theorem d_93_98 : decode ov_m93.2.1 98 = .ok (.ireturn, 1) := by decide +kernel
theorem b_93_99_1 : ov_ds ov_m93.2.1 99 [.aload_n 0] = true := by decide +kernel
theorem d_93_100 : decode ov_m93.2.1 100 = .ok (.getfield 78, 3) := by decide +kernel
theorem d_93_103 : decode ov_m93.2.1 103 = .ok (.getfield 142, 3) := by decide +kernel
theorem b_93_106_1 : ov_ds ov_m93.2.1 106 [.iload 4] = true := by decide +kernel
theorem d_93_108 : decode ov_m93.2.1 108 = .ok (.iaload, 1) := by decide +kernel
theorem d_93_109 : decode ov_m93.2.1 109 = .ok (.ireturn, 1) := by decide +kernel
theorem b_93_110_1 : ov_ds ov_m93.2.1 110 [.aload_n 0] = true := by decide +kernel
theorem d_93_111 : decode ov_m93.2.1 111 = .ok (.getfield 78, 3) := by decide +kernel
theorem d_93_114 : decode ov_m93.2.1 114 = .ok (.getfield 145, 3) := by decide +kernel
theorem b_93_117_1 : ov_ds ov_m93.2.1 117 [.iload 4] = true := by decide +kernel
theorem d_93_119 : decode ov_m93.2.1 119 = .ok (.iaload, 1) := by decide +kernel
theorem d_93_120 : decode ov_m93.2.1 120 = .ok (.ireturn, 1) := by decide +kernel
theorem b_93_121_1 : ov_ds ov_m93.2.1 121 [.aload_n 0] = true := by decide +kernel
theorem d_93_122 : decode ov_m93.2.1 122 = .ok (.getfield 78, 3) := by decide +kernel
theorem d_93_125 : decode ov_m93.2.1 125 = .ok (.getfield 148, 3) := by decide +kernel
theorem b_93_128_1 : ov_ds ov_m93.2.1 128 [.iload 4] = true := by decide +kernel
theorem d_93_130 : decode ov_m93.2.1 130 = .ok (.iaload, 1) := by decide +kernel
theorem d_93_131 : decode ov_m93.2.1 131 = .ok (.ireturn, 1) := by decide +kernel
theorem b_93_132_1 : ov_ds ov_m93.2.1 132 [.aload_n 0] = true := by decide +kernel
theorem d_93_133 : decode ov_m93.2.1 133 = .ok (.getfield 78, 3) := by decide +kernel
theorem d_93_136 : decode ov_m93.2.1 136 = .ok (.getfield 139, 3) := by decide +kernel
theorem b_93_139_1 : ov_ds ov_m93.2.1 139 [.iload 4] = true := by decide +kernel
theorem d_93_141 : decode ov_m93.2.1 141 = .ok (.iaload, 1) := by decide +kernel
theorem b_93_142_1 : ov_ds ov_m93.2.1 142 [.iconst 1] = true := by decide +kernel
theorem d_93_143 : decode ov_m93.2.1 143 = .ok (.if_icmp .ne 19, 3) := by decide +kernel
theorem b_93_162_1 : ov_ds ov_m93.2.1 162 [.iconst 0] = true := by decide +kernel
theorem d_93_163 : decode ov_m93.2.1 163 = .ok (.ireturn, 1) := by decide +kernel
theorem b_93_146_1 : ov_ds ov_m93.2.1 146 [.aload_n 0] = true := by decide +kernel
theorem d_93_147 : decode ov_m93.2.1 147 = .ok (.getfield 28, 3) := by decide +kernel
theorem b_93_150_1 : ov_ds ov_m93.2.1 150 [.iload 4] = true := by decide +kernel
theorem d_93_152 : decode ov_m93.2.1 152 = .ok (.invokevirtual 151, 3) := by decide +kernel
theorem d_93_155 : decode ov_m93.2.1 155 = .ok (.ifCond .eq 7, 3) := by decide +kernel
theorem b_93_158_1 : ov_ds ov_m93.2.1 158 [.iconst 1] = true := by decide +kernel
theorem d_93_159 : decode ov_m93.2.1 159 = .ok (.goto 4, 3) := by decide +kernel
theorem b_93_164_1 : ov_ds ov_m93.2.1 164 [.iconst (-1)] = true := by decide +kernel
theorem d_93_165 : decode ov_m93.2.1 165 = .ok (.ireturn, 1) := by decide +kernel
theorem b_93_49_1 : ov_ds ov_m93.2.1 49 [.iconst (-1)] = true := by decide +kernel
theorem d_93_50 : decode ov_m93.2.1 50 = .ok (.ireturn, 1) := by decide +kernel
theorem b_93_24_1 : ov_ds ov_m93.2.1 24 [.aload_n 0] = true := by decide +kernel
theorem d_93_25 : decode ov_m93.2.1 25 = .ok (.getfield 78, 3) := by decide +kernel
theorem d_93_28 : decode ov_m93.2.1 28 = .ok (.getfield 135, 3) := by decide +kernel
theorem b_93_31_1 : ov_ds ov_m93.2.1 31 [.iload 4] = true := by decide +kernel
theorem d_93_33 : decode ov_m93.2.1 33 = .ok (.iaload, 1) := by decide +kernel
theorem d_93_34 : decode ov_m93.2.1 34 = .ok (.ireturn, 1) := by decide +kernel
theorem b_93_17_1 : ov_ds ov_m93.2.1 17 [.iconst (-1)] = true := by decide +kernel
theorem d_93_18 : decode ov_m93.2.1 18 = .ok (.ireturn, 1) := by decide +kernel
theorem b_96_0_1 : ov_ds ov_m96.2.1 0 [.aload_n 0] = true := by decide +kernel
theorem d_96_1 : decode ov_m96.2.1 1 = .ok (.getfield 78, 3) := by decide +kernel
theorem b_96_4_2 : ov_ds ov_m96.2.1 4 [.iload_n 1, .iload_n 2] = true := by decide +kernel
theorem d_96_6 : decode ov_m96.2.1 6 = .ok (.invokevirtual 131, 3) := by decide +kernel
theorem b_96_9_3 : ov_ds ov_m96.2.1 9 [.istore 5, .iload 5, .iconst (-1)] = true := by decide +kernel
theorem d_96_14 : decode ov_m96.2.1 14 = .ok (.if_icmp .eq 24, 3) := by decide +kernel
theorem b_96_38_1 : ov_ds ov_m96.2.1 38 [.iconst (-1)] = true := by decide +kernel
theorem d_96_39 : decode ov_m96.2.1 39 = .ok (.ireturn, 1) := by decide +kernel
theorem b_96_17_1 : ov_ds ov_m96.2.1 17 [.iload 4] = true := by decide +kernel
theorem d_96_19 : decode ov_m96.2.1 19 = .ok (.invokestatic 155, 3) := by decide +kernel
theorem d_96_22 : decode ov_m96.2.1 22 = .ok (.ifCond .eq 16, 3) := by decide +kernel
theorem b_96_25_1 : ov_ds ov_m96.2.1 25 [.aload_n 0] = true := by decide +kernel
theorem d_96_26 : decode ov_m96.2.1 26 = .ok (.getfield 78, 3) := by decide +kernel
theorem b_96_29_2 : ov_ds ov_m96.2.1 29 [.iload 5, .iload_n 3] = true := by decide +kernel
theorem d_96_32 : decode ov_m96.2.1 32 = .ok (.invokevirtual 158, 3) := by decide +kernel
theorem d_96_35 : decode ov_m96.2.1 35 = .ok (.ifCond .ne 5, 3) := by decide +kernel
theorem b_96_40_1 : ov_ds ov_m96.2.1 40 [.aload_n 0] = true := by decide +kernel
theorem d_96_41 : decode ov_m96.2.1 41 = .ok (.getfield 78, 3) := by decide +kernel
theorem d_96_44 : decode ov_m96.2.1 44 = .ok (.getfield 139, 3) := by decide +kernel
theorem b_96_47_1 : ov_ds ov_m96.2.1 47 [.iload 5] = true := by decide +kernel
theorem d_96_49 : decode ov_m96.2.1 49 = .ok (.iaload, 1) := by decide +kernel
theorem b_96_50_1 : ov_ds ov_m96.2.1 50 [.iconst 2] = true := by decide +kernel
theorem d_96_51 : decode ov_m96.2.1 51 = .ok (.if_icmp .ne 14, 3) := by decide +kernel
theorem b_96_65_1 : ov_ds ov_m96.2.1 65 [.aload_n 0] = true := by decide +kernel
theorem d_96_66 : decode ov_m96.2.1 66 = .ok (.getfield 78, 3) := by decide +kernel
theorem b_96_69_3 : ov_ds ov_m96.2.1 69 [.iload 5, .iload_n 3, .iload 4] = true := by decide +kernel
theorem d_96_74 : decode ov_m96.2.1 74 = .ok (.invokevirtual 162, 3) := by decide +kernel
theorem d_96_77 : decode ov_m96.2.1 77 = .ok (.ifCond .ne 7, 3) := by decide +kernel
theorem b_96_84_1 : ov_ds ov_m96.2.1 84 [.iconst 0] = true := by decide +kernel
theorem d_96_85 : decode ov_m96.2.1 85 = .ok (.ireturn, 1) := by decide +kernel
theorem b_96_80_1 : ov_ds ov_m96.2.1 80 [.iconst 1] = true := by decide +kernel
theorem d_96_81 : decode ov_m96.2.1 81 = .ok (.goto 4, 3) := by decide +kernel
theorem b_96_54_2 : ov_ds ov_m96.2.1 54 [.iload_n 3, .iconst 1] = true := by decide +kernel
theorem d_96_56 : decode ov_m96.2.1 56 = .ok (.if_icmp .ne 7, 3) := by decide +kernel
theorem b_96_63_1 : ov_ds ov_m96.2.1 63 [.iconst 0] = true := by decide +kernel
theorem d_96_64 : decode ov_m96.2.1 64 = .ok (.ireturn, 1) := by decide +kernel
theorem b_96_59_1 : ov_ds ov_m96.2.1 59 [.iconst 1] = true := by decide +kernel
theorem d_96_60 : decode ov_m96.2.1 60 = .ok (.goto 4, 3) := by decide +kernel
theorem b_101_0_1 : ov_ds ov_m101.2.1 0 [.aload_n 0] = true := by decide +kernel
theorem d_101_1 : decode ov_m101.2.1 1 = .ok (.getfield 78, 3) := by decide +kernel
theorem b_101_4_2 : ov_ds ov_m101.2.1 4 [.iload_n 1, .iload_n 2] = true := by decide +kernel
theorem d_101_6 : decode ov_m101.2.1 6 = .ok (.invokevirtual 131, 3) := by decide +kernel
theorem b_101_9_3 : ov_ds ov_m101.2.1 9 [.istore 5, .iload 5, .iconst (-1)] = true := by decide +kernel
theorem d_101_14 : decode ov_m101.2.1 14 = .ok (.if_icmp .eq 24, 3) := by decide +kernel
theorem b_101_38_1 : ov_ds ov_m101.2.1 38 [.iconst (-1)] = true := by decide +kernel
theorem d_101_39 : decode ov_m101.2.1 39 = .ok (.ireturn, 1) := by decide +kernel
theorem b_101_17_1 : ov_ds ov_m101.2.1 17 [.iload 4] = true := by decide +kernel
theorem d_101_19 : decode ov_m101.2.1 19 = .ok (.invokestatic 155, 3) := by decide +kernel
theorem d_101_22 : decode ov_m101.2.1 22 = .ok (.ifCond .eq 16, 3) := by decide +kernel
theorem b_101_25_1 : ov_ds ov_m101.2.1 25 [.aload_n 0] = true := by decide +kernel
theorem d_101_26 : decode ov_m101.2.1 26 = .ok (.getfield 78, 3) := by decide +kernel
theorem b_101_29_2 : ov_ds ov_m101.2.1 29 [.iload 5, .iload_n 3] = true := by decide +kernel
theorem d_101_32 : decode ov_m101.2.1 32 = .ok (.invokevirtual 158, 3) := by decide +kernel
theorem d_101_35 : decode ov_m101.2.1 35 = .ok (.ifCond .ne 5, 3) := by decide +kernel
theorem b_101_40_1 : ov_ds ov_m101.2.1 40 [.aload_n 0] = true := by decide +kernel
theorem d_101_41 : decode ov_m101.2.1 41 = .ok (.getfield 78, 3) := by decide +kernel
theorem b_101_44_3 : ov_ds ov_m101.2.1 44 [.iload 5, .iload_n 3, .iload 4] = true := by decide +kernel
theorem d_101_49 : decode ov_m101.2.1 49 = .ok (.invokevirtual 162, 3) := by decide +kernel
theorem d_101_52 : decode ov_m101.2.1 52 = .ok (.ireturn, 1) := by decide +kernel
theorem b_102_0_1 : ov_ds ov_m102.2.1 0 [.aload_n 0] = true := by decide +kernel
theorem d_102_1 : decode ov_m102.2.1 1 = .ok (.getfield 78, 3) := by decide +kernel
theorem b_102_4_1 : ov_ds ov_m102.2.1 4 [.aload_n 0] = true := by decide +kernel
theorem d_102_5 : decode ov_m102.2.1 5 = .ok (.getfield 28, 3) := by decide +kernel
theorem d_102_8 : decode ov_m102.2.1 8 = .ok (.getfield 166, 3) := by decide +kernel
theorem b_102_11_1 : ov_ds ov_m102.2.1 11 [.iload_n 1] = true := by decide +kernel
theorem d_102_12 : decode ov_m102.2.1 12 = .ok (.invokevirtual 158, 3) := by decide +kernel
theorem d_102_15 : decode ov_m102.2.1 15 = .ok (.ifCond .eq 14, 3) := by decide +kernel
theorem b_102_29_1 : ov_ds ov_m102.2.1 29 [.iconst (-1)] = true := by decide +kernel
theorem d_102_30 : decode ov_m102.2.1 30 = .ok (.ireturn, 1) := by decide +kernel
theorem b_102_18_1 : ov_ds ov_m102.2.1 18 [.iload_n 2] = true := by decide +kernel
theorem d_102_19 : decode ov_m102.2.1 19 = .ok (.ifCond .eq 12, 3) := by decide +kernel
theorem b_102_31_1 : ov_ds ov_m102.2.1 31 [.aload_n 0] = true := by decide +kernel
theorem d_102_32 : decode ov_m102.2.1 32 = .ok (.getfield 35, 3) := by decide +kernel
theorem b_102_35_1 : ov_ds ov_m102.2.1 35 [.aload_n 0] = true := by decide +kernel
theorem d_102_36 : decode ov_m102.2.1 36 = .ok (.getfield 28, 3) := by decide +kernel
theorem d_102_39 : decode ov_m102.2.1 39 = .ok (.invokevirtual 172, 3) := by decide +kernel
theorem b_102_42_1 : ov_ds ov_m102.2.1 42 [.aload_n 0] = true := by decide +kernel
theorem d_102_43 : decode ov_m102.2.1 43 = .ok (.getfield 78, 3) := by decide +kernel
theorem d_102_46 : decode ov_m102.2.1 46 = .ok (.getfield 176, 3) := by decide +kernel
theorem b_102_49_1 : ov_ds ov_m102.2.1 49 [.iload_n 2] = true := by decide +kernel
theorem d_102_50 : decode ov_m102.2.1 50 = .ok (.ifCond .eq 7, 3) := by decide +kernel
theorem b_102_57_1 : ov_ds ov_m102.2.1 57 [.iconst 0] = true := by decide +kernel
theorem d_102_58 : decode ov_m102.2.1 58 = .ok (.iaload, 1) := by decide +kernel
theorem b_102_59_2 : ov_ds ov_m102.2.1 59 [.istore_n 3, .aload_n 0] = true := by decide +kernel
theorem d_102_61 : decode ov_m102.2.1 61 = .ok (.getfield 28, 3) := by decide +kernel
theorem b_102_64_1 : ov_ds ov_m102.2.1 64 [.dup] = true := by decide +kernel
theorem d_102_65 : decode ov_m102.2.1 65 = .ok (.getfield 179, 3) := by decide +kernel
theorem b_102_68_1 : ov_ds ov_m102.2.1 68 [.aload_n 0] = true := by decide +kernel
theorem d_102_69 : decode ov_m102.2.1 69 = .ok (.getfield 78, 3) := by decide +kernel
theorem b_102_72_1 : ov_ds ov_m102.2.1 72 [.aload_n 0] = true := by decide +kernel
theorem d_102_73 : decode ov_m102.2.1 73 = .ok (.getfield 28, 3) := by decide +kernel
theorem d_102_76 : decode ov_m102.2.1 76 = .ok (.getfield 166, 3) := by decide +kernel
theorem b_102_79_2 : ov_ds ov_m102.2.1 79 [.iload_n 1, .aload_n 0] = true := by decide +kernel
theorem d_102_81 : decode ov_m102.2.1 81 = .ok (.getfield 28, 3) := by decide +kernel
theorem d_102_84 : decode ov_m102.2.1 84 = .ok (.getfield 179, 3) := by decide +kernel
theorem d_102_87 : decode ov_m102.2.1 87 = .ok (.invokevirtual 162, 3) := by decide +kernel
theorem b_102_90_2 : ov_ds ov_m102.2.1 90 [.iload_n 3, .iadd] = true := by decide +kernel
theorem b_102_92_1 : ov_ds ov_m102.2.1 92 [.iadd] = true := by decide +kernel
theorem d_102_93 : decode ov_m102.2.1 93 = .ok (.putfield 179, 3) := by decide +kernel
theorem b_102_96_1 : ov_ds ov_m102.2.1 96 [.aload_n 0] = true := by decide +kernel
theorem d_102_97 : decode ov_m102.2.1 97 = .ok (.getfield 28, 3) := by decide +kernel
theorem b_102_100_1 : ov_ds ov_m102.2.1 100 [.aload_n 0] = true := by decide +kernel
theorem d_102_101 : decode ov_m102.2.1 101 = .ok (.getfield 78, 3) := by decide +kernel
theorem b_102_104_1 : ov_ds ov_m102.2.1 104 [.aload_n 0] = true := by decide +kernel
theorem d_102_105 : decode ov_m102.2.1 105 = .ok (.getfield 28, 3) := by decide +kernel
theorem d_102_108 : decode ov_m102.2.1 108 = .ok (.getfield 166, 3) := by decide +kernel
theorem b_102_111_1 : ov_ds ov_m102.2.1 111 [.iload_n 1] = true := by decide +kernel
theorem d_102_112 : decode ov_m102.2.1 112 = .ok (.invokevirtual 182, 3) := by decide +kernel
theorem d_102_115 : decode ov_m102.2.1 115 = .ok (.putfield 166, 3) := by decide +kernel
theorem b_102_118_1 : ov_ds ov_m102.2.1 118 [.aload_n 0] = true := by decide +kernel
theorem d_102_119 : decode ov_m102.2.1 119 = .ok (.getfield 28, 3) := by decide +kernel
theorem b_102_122_1 : ov_ds ov_m102.2.1 122 [.dup] = true := by decide +kernel
theorem d_102_123 : decode ov_m102.2.1 123 = .ok (.getfield 185, 3) := by decide +kernel
theorem b_102_126_1 : ov_ds ov_m102.2.1 126 [.iload_n 2] = true := by decide +kernel
theorem d_102_127 : decode ov_m102.2.1 127 = .ok (.ifCond .eq 7, 3) := by decide +kernel
theorem b_102_134_2 : ov_ds ov_m102.2.1 134 [.iconst 0, .iadd] = true := by decide +kernel
theorem d_102_136 : decode ov_m102.2.1 136 = .ok (.putfield 185, 3) := by decide +kernel
theorem b_102_139_1 : ov_ds ov_m102.2.1 139 [.aload_n 0] = true := by decide +kernel
theorem d_102_140 : decode ov_m102.2.1 140 = .ok (.getfield 28, 3) := by decide +kernel
theorem d_102_143 : decode ov_m102.2.1 143 = .ok (.getfield 179, 3) := by decide +kernel
theorem d_102_146 : decode ov_m102.2.1 146 = .ok (.ireturn, 1) := by decide +kernel
theorem b_102_130_1 : ov_ds ov_m102.2.1 130 [.iconst 1] = true := by decide +kernel
theorem d_102_131 : decode ov_m102.2.1 131 = .ok (.goto 4, 3) := by decide +kernel
theorem b_102_135_1 : ov_ds ov_m102.2.1 135 [.iadd] = true := by decide +kernel
theorem b_102_53_1 : ov_ds ov_m102.2.1 53 [.iconst 1] = true := by decide +kernel
theorem d_102_54 : decode ov_m102.2.1 54 = .ok (.goto 4, 3) := by decide +kernel
theorem b_102_22_1 : ov_ds ov_m102.2.1 22 [.aload_n 0] = true := by decide +kernel
theorem d_102_23 : decode ov_m102.2.1 23 = .ok (.invokevirtual 168, 3) := by decide +kernel
theorem d_102_26 : decode ov_m102.2.1 26 = .ok (.ifCond .gt 5, 3) := by decide +kernel
theorem b_105_0_2 : ov_ds ov_m105.2.1 0 [.iload_n 1, .iconst 1] = true := by decide +kernel
theorem d_105_2 : decode ov_m105.2.1 2 = .ok (.if_icmp .lt 10, 3) := by decide +kernel
theorem b_105_12_1 : ov_ds ov_m105.2.1 12 [.iconst (-1)] = true := by decide +kernel
theorem d_105_13 : decode ov_m105.2.1 13 = .ok (.ireturn, 1) := by decide +kernel
theorem b_105_5_2 : ov_ds ov_m105.2.1 5 [.iload_n 1, .sipush 1000] = true := by decide +kernel
theorem d_105_9 : decode ov_m105.2.1 9 = .ok (.if_icmp .le 5, 3) := by decide +kernel
theorem b_105_14_1 : ov_ds ov_m105.2.1 14 [.aload_n 0] = true := by decide +kernel
theorem d_105_15 : decode ov_m105.2.1 15 = .ok (.getfield 35, 3) := by decide +kernel
theorem b_105_18_1 : ov_ds ov_m105.2.1 18 [.aload_n 0] = true := by decide +kernel
theorem d_105_19 : decode ov_m105.2.1 19 = .ok (.getfield 28, 3) := by decide +kernel
theorem d_105_22 : decode ov_m105.2.1 22 = .ok (.invokevirtual 172, 3) := by decide +kernel
theorem b_105_25_1 : ov_ds ov_m105.2.1 25 [.aload_n 0] = true := by decide +kernel
theorem d_105_26 : decode ov_m105.2.1 26 = .ok (.getfield 28, 3) := by decide +kernel
theorem b_105_29_1 : ov_ds ov_m105.2.1 29 [.dup] = true := by decide +kernel
theorem d_105_30 : decode ov_m105.2.1 30 = .ok (.getfield 179, 3) := by decide +kernel
theorem b_105_33_2 : ov_ds ov_m105.2.1 33 [.iload_n 1, .iadd] = true := by decide +kernel
theorem d_105_35 : decode ov_m105.2.1 35 = .ok (.putfield 179, 3) := by decide +kernel
theorem b_105_38_1 : ov_ds ov_m105.2.1 38 [.aload_n 0] = true := by decide +kernel
theorem d_105_39 : decode ov_m105.2.1 39 = .ok (.getfield 28, 3) := by decide +kernel
theorem d_105_42 : decode ov_m105.2.1 42 = .ok (.getfield 179, 3) := by decide +kernel
theorem d_105_45 : decode ov_m105.2.1 45 = .ok (.ireturn, 1) := by decide +kernel
theorem b_106_0_1 : ov_ds ov_m106.2.1 0 [.aload_n 0] = true := by decide +kernel
theorem d_106_1 : decode ov_m106.2.1 1 = .ok (.getfield 78, 3) := by decide +kernel
theorem d_106_4 : decode ov_m106.2.1 4 = .ok (.getfield 139, 3) := by decide +kernel
theorem b_106_7_1 : ov_ds ov_m106.2.1 7 [.aload_n 0] = true := by decide +kernel
theorem d_106_8 : decode ov_m106.2.1 8 = .ok (.getfield 28, 3) := by decide +kernel
theorem d_106_11 : decode ov_m106.2.1 11 = .ok (.getfield 166, 3) := by decide +kernel
theorem d_106_14 : decode ov_m106.2.1 14 = .ok (.iaload, 1) := by decide +kernel
theorem b_106_15_1 : ov_ds ov_m106.2.1 15 [.iconst 1] = true := by decide +kernel
theorem d_106_16 : decode ov_m106.2.1 16 = .ok (.if_icmp .ne 20, 3) := by decide +kernel
theorem b_106_36_1 : ov_ds ov_m106.2.1 36 [.iconst 0] = true := by decide +kernel
theorem d_106_37 : decode ov_m106.2.1 37 = .ok (.ireturn, 1) := by decide +kernel
theorem b_106_19_1 : ov_ds ov_m106.2.1 19 [.aload_n 0] = true := by decide +kernel
theorem d_106_20 : decode ov_m106.2.1 20 = .ok (.getfield 28, 3) := by decide +kernel
theorem b_106_23_1 : ov_ds ov_m106.2.1 23 [.aload_n 0] = true := by decide +kernel
theorem d_106_24 : decode ov_m106.2.1 24 = .ok (.getfield 28, 3) := by decide +kernel
theorem d_106_27 : decode ov_m106.2.1 27 = .ok (.getfield 166, 3) := by decide +kernel
theorem d_106_30 : decode ov_m106.2.1 30 = .ok (.invokevirtual 151, 3) := by decide +kernel
theorem d_106_33 : decode ov_m106.2.1 33 = .ok (.ifCond .eq 5, 3) := by decide +kernel
theorem b_106_38_1 : ov_ds ov_m106.2.1 38 [.aload_n 0] = true := by decide +kernel
theorem d_106_39 : decode ov_m106.2.1 39 = .ok (.getfield 35, 3) := by decide +kernel
theorem b_106_42_1 : ov_ds ov_m106.2.1 42 [.aload_n 0] = true := by decide +kernel
theorem d_106_43 : decode ov_m106.2.1 43 = .ok (.getfield 28, 3) := by decide +kernel
theorem d_106_46 : decode ov_m106.2.1 46 = .ok (.invokevirtual 172, 3) := by decide +kernel
theorem b_106_49_1 : ov_ds ov_m106.2.1 49 [.aload_n 0] = true := by decide +kernel
theorem d_106_50 : decode ov_m106.2.1 50 = .ok (.getfield 28, 3) := by decide +kernel
theorem b_106_53_1 : ov_ds ov_m106.2.1 53 [.dup] = true := by decide +kernel
theorem d_106_54 : decode ov_m106.2.1 54 = .ok (.getfield 192, 3) := by decide +kernel
theorem b_106_57_2 : ov_ds ov_m106.2.1 57 [.lconst 1, .aload_n 0] = true := by decide +kernel
theorem d_106_59 : decode ov_m106.2.1 59 = .ok (.getfield 28, 3) := by decide +kernel
theorem d_106_62 : decode ov_m106.2.1 62 = .ok (.getfield 166, 3) := by decide +kernel
theorem b_106_65_2 : ov_ds ov_m106.2.1 65 [.lshl, .lor] = true := by decide +kernel
theorem d_106_67 : decode ov_m106.2.1 67 = .ok (.putfield 192, 3) := by decide +kernel
theorem b_106_70_1 : ov_ds ov_m106.2.1 70 [.iconst 1] = true := by decide +kernel
theorem d_106_71 : decode ov_m106.2.1 71 = .ok (.ireturn, 1) := by decide +kernel
theorem b_107_0_1 : ov_ds ov_m107.2.1 0 [.aload_n 0] = true := by decide +kernel
theorem d_107_1 : decode ov_m107.2.1 1 = .ok (.getfield 35, 3) := by decide +kernel
theorem b_107_4_1 : ov_ds ov_m107.2.1 4 [.aload_n 0] = true := by decide +kernel
theorem d_107_5 : decode ov_m107.2.1 5 = .ok (.getfield 28, 3) := by decide +kernel
theorem d_107_8 : decode ov_m107.2.1 8 = .ok (.invokevirtual 196, 3) := by decide +kernel
theorem d_107_11 : decode ov_m107.2.1 11 = .ok (.ireturn, 1) := by decide +kernel
theorem b_109_0_1 : ov_ds ov_m109.2.1 0 [.aload_n 0] = true := by decide +kernel
theorem d_109_1 : decode ov_m109.2.1 1 = .ok (.getfield 88, 3) := by decide +kernel
theorem b_109_4_1 : ov_ds ov_m109.2.1 4 [.aload_n 0] = true := by decide +kernel
theorem d_109_5 : decode ov_m109.2.1 5 = .ok (.getfield 78, 3) := by decide +kernel
theorem d_109_8 : decode ov_m109.2.1 8 = .ok (.invokevirtual 200, 3) := by decide +kernel
theorem d_109_11 : decode ov_m109.2.1 11 = .ok (.ireturn, 1) := by decide +kernel
theorem b_112_0_1 : ov_ds ov_m112.2.1 0 [.aload_n 0] = true := by decide +kernel
theorem d_112_1 : decode ov_m112.2.1 1 = .ok (.getfield 78, 3) := by decide +kernel
theorem b_112_4_2 : ov_ds ov_m112.2.1 4 [.iload_n 1, .iload_n 2] = true := by decide +kernel
theorem d_112_6 : decode ov_m112.2.1 6 = .ok (.invokevirtual 131, 3) := by decide +kernel
theorem b_112_9_3 : ov_ds ov_m112.2.1 9 [.istore 5, .iload 5, .iconst (-1)] = true := by decide +kernel
theorem d_112_14 : decode ov_m112.2.1 14 = .ok (.if_icmp .eq 23, 3) := by decide +kernel
theorem b_112_37_1 : ov_ds ov_m112.2.1 37 [.bipush (-2)] = true := by decide +kernel
theorem d_112_39 : decode ov_m112.2.1 39 = .ok (.ireturn, 1) := by decide +kernel
theorem b_112_17_1 : ov_ds ov_m112.2.1 17 [.iload_n 3] = true := by decide +kernel
theorem d_112_18 : decode ov_m112.2.1 18 = .ok (.invokestatic 155, 3) := by decide +kernel
theorem d_112_21 : decode ov_m112.2.1 21 = .ok (.ifCond .eq 16, 3) := by decide +kernel
theorem b_112_24_2 : ov_ds ov_m112.2.1 24 [.iload 4, .iconst (-1)] = true := by decide +kernel
theorem d_112_27 : decode ov_m112.2.1 27 = .ok (.if_icmp .lt 10, 3) := by decide +kernel
theorem b_112_30_2 : ov_ds ov_m112.2.1 30 [.iload 4, .bipush 13] = true := by decide +kernel
theorem d_112_34 : decode ov_m112.2.1 34 = .ok (.if_icmp .lt 6, 3) := by decide +kernel
theorem b_112_40_2 : ov_ds ov_m112.2.1 40 [.iload 4, .iconst (-1)] = true := by decide +kernel
theorem d_112_43 : decode ov_m112.2.1 43 = .ok (.if_icmp .eq 20, 3) := by decide +kernel
theorem b_112_63_1 : ov_ds ov_m112.2.1 63 [.aload_n 0] = true := by decide +kernel
theorem d_112_64 : decode ov_m112.2.1 64 = .ok (.getfield 57, 3) := by decide +kernel
theorem b_112_67_1 : ov_ds ov_m112.2.1 67 [.aload_n 0] = true := by decide +kernel
theorem d_112_68 : decode ov_m112.2.1 68 = .ok (.getfield 78, 3) := by decide +kernel
theorem b_112_71_2 : ov_ds ov_m112.2.1 71 [.iload 5, .iload_n 3] = true := by decide +kernel
theorem d_112_74 : decode ov_m112.2.1 74 = .ok (.invokevirtual 207, 3) := by decide +kernel
theorem b_112_77_3 : ov_ds ov_m112.2.1 77 [.istore 6, .iload 6, .iconst (-1)] = true := by decide +kernel
theorem d_112_82 : decode ov_m112.2.1 82 = .ok (.if_icmp .ne 8, 3) := by decide +kernel
theorem b_112_90_1 : ov_ds ov_m112.2.1 90 [.iload 6] = true := by decide +kernel
theorem d_112_92 : decode ov_m112.2.1 92 = .ok (.ireturn, 1) := by decide +kernel
theorem b_112_85_1 : ov_ds ov_m112.2.1 85 [.bipush (-2)] = true := by decide +kernel
theorem d_112_87 : decode ov_m112.2.1 87 = .ok (.goto 5, 3) := by decide +kernel
theorem b_112_46_1 : ov_ds ov_m112.2.1 46 [.aload_n 0] = true := by decide +kernel
theorem d_112_47 : decode ov_m112.2.1 47 = .ok (.getfield 57, 3) := by decide +kernel
theorem b_112_50_1 : ov_ds ov_m112.2.1 50 [.aload_n 0] = true := by decide +kernel
theorem d_112_51 : decode ov_m112.2.1 51 = .ok (.getfield 78, 3) := by decide +kernel
theorem b_112_54_3 : ov_ds ov_m112.2.1 54 [.iload 5, .iload_n 3, .iload 4] = true := by decide +kernel
theorem d_112_59 : decode ov_m112.2.1 59 = .ok (.invokevirtual 203, 3) := by decide +kernel
theorem d_112_62 : decode ov_m112.2.1 62 = .ok (.ireturn, 1) := by decide +kernel
theorem b_121_0_2 : ov_ds ov_m121.2.1 0 [.iload_n 2, .iconst (-1)] = true := by decide +kernel
theorem d_121_2 : decode ov_m121.2.1 2 = .ok (.if_icmp .eq 18, 3) := by decide +kernel
theorem b_121_20_1 : ov_ds ov_m121.2.1 20 [.iconst (-1)] = true := by decide +kernel
theorem d_121_21 : decode ov_m121.2.1 21 = .ok (.ireturn, 1) := by decide +kernel
theorem b_121_5_2 : ov_ds ov_m121.2.1 5 [.aload_n 0, .iload_n 1] = true := by decide +kernel
theorem d_121_7 : decode ov_m121.2.1 7 = .ok (.invokevirtual 215, 3) := by decide +kernel
theorem d_121_10 : decode ov_m121.2.1 10 = .ok (.ifCond .eq 10, 3) := by decide +kernel
theorem b_121_13_1 : ov_ds ov_m121.2.1 13 [.iload_n 3] = true := by decide +kernel
theorem d_121_14 : decode ov_m121.2.1 14 = .ok (.invokestatic 155, 3) := by decide +kernel
theorem d_121_17 : decode ov_m121.2.1 17 = .ok (.ifCond .ne 5, 3) := by decide +kernel
theorem b_121_22_1 : ov_ds ov_m121.2.1 22 [.aload_n 0] = true := by decide +kernel
theorem d_121_23 : decode ov_m121.2.1 23 = .ok (.getfield 50, 3) := by decide +kernel
theorem b_121_26_1 : ov_ds ov_m121.2.1 26 [.aload_n 0] = true := by decide +kernel
theorem d_121_27 : decode ov_m121.2.1 27 = .ok (.getfield 78, 3) := by decide +kernel
theorem b_121_30_1 : ov_ds ov_m121.2.1 30 [.aload_n 0] = true := by decide +kernel
theorem d_121_31 : decode ov_m121.2.1 31 = .ok (.getfield 28, 3) := by decide +kernel
theorem d_121_34 : decode ov_m121.2.1 34 = .ok (.getfield 192, 3) := by decide +kernel
theorem b_121_37_2 : ov_ds ov_m121.2.1 37 [.iload_n 1, .iload 4] = true := by decide +kernel
theorem d_121_40 : decode ov_m121.2.1 40 = .ok (.invokevirtual 218, 3) := by decide +kernel
theorem b_121_43_1 : ov_ds ov_m121.2.1 43 [.aload_n 0] = true := by decide +kernel
theorem d_121_44 : decode ov_m121.2.1 44 = .ok (.getfield 50, 3) := by decide +kernel
theorem b_121_47_2 : ov_ds ov_m121.2.1 47 [.iload_n 2, .iload_n 3] = true := by decide +kernel
theorem d_121_49 : decode ov_m121.2.1 49 = .ok (.invokevirtual 222, 3) := by decide +kernel
theorem d_121_52 : decode ov_m121.2.1 52 = .ok (.ireturn, 1) := by decide +kernel
theorem b_120_0_3 : ov_ds ov_m120.2.1 0 [.aload_n 0, .iload_n 1, .aload_n 0] = true := by decide +kernel
theorem d_120_3 : decode ov_m120.2.1 3 = .ok (.getfield 78, 3) := by decide +kernel
theorem b_120_6_2 : ov_ds ov_m120.2.1 6 [.iload_n 2, .iload_n 3] = true := by decide +kernel
theorem d_120_8 : decode ov_m120.2.1 8 = .ok (.invokevirtual 131, 3) := by decide +kernel
theorem b_120_11_2 : ov_ds ov_m120.2.1 11 [.iload 4, .iconst 0] = true := by decide +kernel
theorem d_120_14 : decode ov_m120.2.1 14 = .ok (.invokevirtual 211, 3) := by decide +kernel
theorem d_120_17 : decode ov_m120.2.1 17 = .ok (.ireturn, 1) := by decide +kernel
theorem b_142_0_3 : ov_ds ov_m142.2.1 0 [.aload_n 0, .iload_n 1, .aload_n 0] = true := by decide +kernel
theorem d_142_3 : decode ov_m142.2.1 3 = .ok (.getfield 78, 3) := by decide +kernel
theorem b_142_6_2 : ov_ds ov_m142.2.1 6 [.iload_n 2, .iload_n 3] = true := by decide +kernel
theorem d_142_8 : decode ov_m142.2.1 8 = .ok (.invokevirtual 131, 3) := by decide +kernel
theorem b_142_11_2 : ov_ds ov_m142.2.1 11 [.iload 4, .iconst 1] = true := by decide +kernel
theorem d_142_14 : decode ov_m142.2.1 14 = .ok (.invokevirtual 211, 3) := by decide +kernel
theorem d_142_17 : decode ov_m142.2.1 17 = .ok (.ireturn, 1) := by decide +kernel
theorem b_143_0_1 : ov_ds ov_m143.2.1 0 [.aload_n 0] = true := by decide +kernel
theorem d_143_1 : decode ov_m143.2.1 1 = .ok (.getfield 78, 3) := by decide +kernel
theorem b_143_4_2 : ov_ds ov_m143.2.1 4 [.iload_n 1, .iload_n 2] = true := by decide +kernel
theorem d_143_6 : decode ov_m143.2.1 6 = .ok (.invokevirtual 131, 3) := by decide +kernel
theorem b_143_9_3 : ov_ds ov_m143.2.1 9 [.istore 5, .iload 5, .iconst (-1)] = true := by decide +kernel
theorem d_143_14 : decode ov_m143.2.1 14 = .ok (.if_icmp .eq 22, 3) := by decide +kernel
theorem b_143_36_1 : ov_ds ov_m143.2.1 36 [.iconst (-1)] = true := by decide +kernel
theorem d_143_37 : decode ov_m143.2.1 37 = .ok (.ireturn, 1) := by decide +kernel
theorem b_143_17_2 : ov_ds ov_m143.2.1 17 [.iload 5, .aload_n 0] = true := by decide +kernel
theorem d_143_20 : decode ov_m143.2.1 20 = .ok (.getfield 78, 3) := by decide +kernel
theorem d_143_23 : decode ov_m143.2.1 23 = .ok (.invokevirtual 225, 3) := by decide +kernel
theorem d_143_26 : decode ov_m143.2.1 26 = .ok (.if_icmp .eq 10, 3) := by decide +kernel
theorem b_143_29_1 : ov_ds ov_m143.2.1 29 [.iload_n 3] = true := by decide +kernel
theorem d_143_30 : decode ov_m143.2.1 30 = .ok (.invokestatic 155, 3) := by decide +kernel
theorem d_143_33 : decode ov_m143.2.1 33 = .ok (.ifCond .ne 5, 3) := by decide +kernel
theorem b_143_38_1 : ov_ds ov_m143.2.1 38 [.aload_n 0] = true := by decide +kernel
theorem d_143_39 : decode ov_m143.2.1 39 = .ok (.getfield 50, 3) := by decide +kernel
theorem b_143_42_1 : ov_ds ov_m143.2.1 42 [.aload_n 0] = true := by decide +kernel
theorem d_143_43 : decode ov_m143.2.1 43 = .ok (.getfield 78, 3) := by decide +kernel
theorem b_143_46_1 : ov_ds ov_m143.2.1 46 [.aload_n 0] = true := by decide +kernel
theorem d_143_47 : decode ov_m143.2.1 47 = .ok (.getfield 28, 3) := by decide +kernel
theorem d_143_50 : decode ov_m143.2.1 50 = .ok (.getfield 192, 3) := by decide +kernel
theorem b_143_53_2 : ov_ds ov_m143.2.1 53 [.iconst 3, .iconst 0] = true := by decide +kernel
theorem d_143_55 : decode ov_m143.2.1 55 = .ok (.invokevirtual 218, 3) := by decide +kernel
theorem b_143_58_3 : ov_ds ov_m143.2.1 58 [.iload_n 3, .istore 6, .aload_n 0] = true := by decide +kernel
theorem d_143_62 : decode ov_m143.2.1 62 = .ok (.getfield 50, 3) := by decide +kernel
theorem b_143_65_1 : ov_ds ov_m143.2.1 65 [.iload 5] = true := by decide +kernel
theorem d_143_67 : decode ov_m143.2.1 67 = .ok (.invokevirtual 228, 3) := by decide +kernel
theorem d_143_70 : decode ov_m143.2.1 70 = .ok (.ifCond .eq 29, 3) := by decide +kernel
theorem b_143_99_1 : ov_ds ov_m143.2.1 99 [.aload_n 0] = true := by decide +kernel
theorem d_143_100 : decode ov_m143.2.1 100 = .ok (.getfield 50, 3) := by decide +kernel
theorem b_143_103_3 : ov_ds ov_m143.2.1 103 [.iload 5, .iload_n 3, .iload 6] = true := by decide +kernel
theorem d_143_108 : decode ov_m143.2.1 108 = .ok (.invokevirtual 231, 3) := by decide +kernel
theorem d_143_111 : decode ov_m143.2.1 111 = .ok (.ireturn, 1) := by decide +kernel
theorem b_143_73_1 : ov_ds ov_m143.2.1 73 [.iload 4] = true := by decide +kernel
theorem d_143_75 : decode ov_m143.2.1 75 = .ok (.ifCond .lt 18, 3) := by decide +kernel
theorem b_143_93_1 : ov_ds ov_m143.2.1 93 [.iconst (-1)] = true := by decide +kernel
theorem d_143_94 : decode ov_m143.2.1 94 = .ok (.ireturn, 1) := by decide +kernel
theorem b_143_78_2 : ov_ds ov_m143.2.1 78 [.iload 4, .aload_n 0] = true := by decide +kernel
theorem d_143_81 : decode ov_m143.2.1 81 = .ok (.getfield 78, 3) := by decide +kernel
theorem d_143_84 : decode ov_m143.2.1 84 = .ok (.getfield 142, 3) := by decide +kernel
theorem b_143_87_1 : ov_ds ov_m143.2.1 87 [.iload 5] = true := by decide +kernel
theorem d_143_89 : decode ov_m143.2.1 89 = .ok (.iaload, 1) := by decide +kernel
theorem d_143_90 : decode ov_m143.2.1 90 = .ok (.if_icmp .lt 5, 3) := by decide +kernel
theorem b_143_95_3 : ov_ds ov_m143.2.1 95 [.iload 4, .istore 6, .aload_n 0] = true := by decide +kernel
theorem b_145_0_5 : ov_ds ov_m145.2.1 0 [.aload_n 0, .iconst 2, .iload_n 1, .iload_n 2, .iload_n 3] = true := by decide +kernel
theorem d_145_5 : decode ov_m145.2.1 5 = .ok (.invokevirtual 234, 3) := by decide +kernel
theorem b_145_8_6 : ov_ds ov_m145.2.1 8 [.istore 4, .aload_n 0, .iconst 3, .iload_n 1, .iload_n 2, .iload_n 3] = true := by decide +kernel
theorem d_145_15 : decode ov_m145.2.1 15 = .ok (.invokevirtual 234, 3) := by decide +kernel
theorem b_145_18_3 : ov_ds ov_m145.2.1 18 [.istore 5, .iload 4, .iconst (-1)] = true := by decide +kernel
theorem d_145_23 : decode ov_m145.2.1 23 = .ok (.if_icmp .eq 9, 3) := by decide +kernel
theorem b_145_32_1 : ov_ds ov_m145.2.1 32 [.iconst (-1)] = true := by decide +kernel
theorem d_145_33 : decode ov_m145.2.1 33 = .ok (.goto 8, 3) := by decide +kernel
theorem d_145_41 : decode ov_m145.2.1 41 = .ok (.ireturn, 1) := by decide +kernel
theorem b_145_26_2 : ov_ds ov_m145.2.1 26 [.iload 5, .iconst (-1)] = true := by decide +kernel
theorem d_145_29 : decode ov_m145.2.1 29 = .ok (.if_icmp .ne 7, 3) := by decide +kernel
theorem b_145_36_3 : ov_ds ov_m145.2.1 36 [.iload 4, .iload 5, .isub] = true := by decide +kernel
theorem b_146_0_1 : ov_ds ov_m146.2.1 0 [.aload_n 0] = true := by decide +kernel
theorem d_146_1 : decode ov_m146.2.1 1 = .ok (.getfield 78, 3) := by decide +kernel
theorem b_146_4_2 : ov_ds ov_m146.2.1 4 [.iload_n 1, .iload_n 2] = true := by decide +kernel
theorem d_146_6 : decode ov_m146.2.1 6 = .ok (.invokevirtual 131, 3) := by decide +kernel
theorem b_146_9_3 : ov_ds ov_m146.2.1 9 [.istore 4, .iload 4, .iconst (-1)] = true := by decide +kernel
theorem d_146_14 : decode ov_m146.2.1 14 = .ok (.if_icmp .eq 27, 3) := by decide +kernel
theorem b_146_41_1 : ov_ds ov_m146.2.1 41 [.iconst (-1)] = true := by decide +kernel
theorem d_146_42 : decode ov_m146.2.1 42 = .ok (.ireturn, 1) := by decide +kernel
theorem b_146_17_5 : ov_ds ov_m146.2.1 17 [.aload_n 0, .iconst 3, .iconst 0, .iload_n 3, .iconst 0] = true := by decide +kernel
theorem d_146_22 : decode ov_m146.2.1 22 = .ok (.invokevirtual 211, 3) := by decide +kernel
theorem b_146_25_1 : ov_ds ov_m146.2.1 25 [.iconst (-1)] = true := by decide +kernel
theorem d_146_26 : decode ov_m146.2.1 26 = .ok (.if_icmp .eq 15, 3) := by decide +kernel
theorem b_146_29_1 : ov_ds ov_m146.2.1 29 [.aload_n 0] = true := by decide +kernel
theorem d_146_30 : decode ov_m146.2.1 30 = .ok (.getfield 50, 3) := by decide +kernel
theorem b_146_33_1 : ov_ds ov_m146.2.1 33 [.iload 4] = true := by decide +kernel
theorem d_146_35 : decode ov_m146.2.1 35 = .ok (.invokevirtual 228, 3) := by decide +kernel
theorem d_146_38 : decode ov_m146.2.1 38 = .ok (.ifCond .ne 5, 3) := by decide +kernel
theorem b_146_43_1 : ov_ds ov_m146.2.1 43 [.aload_n 0] = true := by decide +kernel
theorem d_146_44 : decode ov_m146.2.1 44 = .ok (.getfield 50, 3) := by decide +kernel
theorem b_146_47_2 : ov_ds ov_m146.2.1 47 [.iload 4, .iload_n 3] = true := by decide +kernel
theorem d_146_50 : decode ov_m146.2.1 50 = .ok (.invokevirtual 238, 3) := by decide +kernel
theorem d_146_53 : decode ov_m146.2.1 53 = .ok (.ireturn, 1) := by decide +kernel
theorem b_149_0_1 : ov_ds ov_m149.2.1 0 [.aload_n 0] = true := by decide +kernel
theorem d_149_1 : decode ov_m149.2.1 1 = .ok (.getfield 78, 3) := by decide +kernel
theorem b_149_4_2 : ov_ds ov_m149.2.1 4 [.iload_n 1, .iload_n 2] = true := by decide +kernel
theorem d_149_6 : decode ov_m149.2.1 6 = .ok (.invokevirtual 131, 3) := by decide +kernel
theorem b_149_9_3 : ov_ds ov_m149.2.1 9 [.istore 4, .iload 4, .iconst (-1)] = true := by decide +kernel
theorem d_149_14 : decode ov_m149.2.1 14 = .ok (.if_icmp .eq 10, 3) := by decide +kernel
theorem b_149_24_1 : ov_ds ov_m149.2.1 24 [.iconst (-1)] = true := by decide +kernel
theorem d_149_25 : decode ov_m149.2.1 25 = .ok (.ireturn, 1) := by decide +kernel
theorem b_149_17_1 : ov_ds ov_m149.2.1 17 [.iload_n 3] = true := by decide +kernel
theorem d_149_18 : decode ov_m149.2.1 18 = .ok (.invokestatic 155, 3) := by decide +kernel
theorem d_149_21 : decode ov_m149.2.1 21 = .ok (.ifCond .ne 5, 3) := by decide +kernel
theorem b_149_26_1 : ov_ds ov_m149.2.1 26 [.aload_n 0] = true := by decide +kernel
theorem d_149_27 : decode ov_m149.2.1 27 = .ok (.getfield 57, 3) := by decide +kernel
theorem b_149_30_1 : ov_ds ov_m149.2.1 30 [.aload_n 0] = true := by decide +kernel
theorem d_149_31 : decode ov_m149.2.1 31 = .ok (.getfield 78, 3) := by decide +kernel
theorem b_149_34_2 : ov_ds ov_m149.2.1 34 [.iload 4, .iload_n 3] = true := by decide +kernel
theorem d_149_37 : decode ov_m149.2.1 37 = .ok (.invokevirtual 241, 3) := by decide +kernel
theorem d_149_40 : decode ov_m149.2.1 40 = .ok (.ireturn, 1) := by decide +kernel
theorem b_151_0_1 : ov_ds ov_m151.2.1 0 [.iload_n 1] = true := by decide +kernel
theorem d_151_1 : decode ov_m151.2.1 1 = .ok (.invokestatic 155, 3) := by decide +kernel
theorem d_151_4 : decode ov_m151.2.1 4 = .ok (.ifCond .eq 13, 3) := by decide +kernel
theorem b_151_17_1 : ov_ds ov_m151.2.1 17 [.iconst (-1)] = true := by decide +kernel
theorem d_151_18 : decode ov_m151.2.1 18 = .ok (.ireturn, 1) := by decide +kernel
theorem b_151_7_1 : ov_ds ov_m151.2.1 7 [.iload_n 2] = true := by decide +kernel
theorem d_151_8 : decode ov_m151.2.1 8 = .ok (.ifCond .lt 9, 3) := by decide +kernel
theorem b_151_11_2 : ov_ds ov_m151.2.1 11 [.iload_n 2, .bipush 12] = true := by decide +kernel
theorem d_151_14 : decode ov_m151.2.1 14 = .ok (.if_icmp .le 5, 3) := by decide +kernel
theorem b_151_19_1 : ov_ds ov_m151.2.1 19 [.aload_n 0] = true := by decide +kernel
theorem d_151_20 : decode ov_m151.2.1 20 = .ok (.getfield 57, 3) := by decide +kernel
theorem b_151_23_1 : ov_ds ov_m151.2.1 23 [.aload_n 0] = true := by decide +kernel
theorem d_151_24 : decode ov_m151.2.1 24 = .ok (.getfield 78, 3) := by decide +kernel
theorem b_151_27_2 : ov_ds ov_m151.2.1 27 [.iload_n 1, .iload_n 2] = true := by decide +kernel
theorem d_151_29 : decode ov_m151.2.1 29 = .ok (.invokevirtual 244, 3) := by decide +kernel
theorem d_151_32 : decode ov_m151.2.1 32 = .ok (.ireturn, 1) := by decide +kernel
theorem b_156_0_5 : ov_ds ov_m156.2.1 0 [.aload_n 0, .iconst 3, .iconst 0, .iload_n 1, .iconst 0] = true := by decide +kernel
theorem d_156_5 : decode ov_m156.2.1 5 = .ok (.invokevirtual 211, 3) := by decide +kernel
theorem b_156_8_1 : ov_ds ov_m156.2.1 8 [.iconst (-1)] = true := by decide +kernel
theorem d_156_9 : decode ov_m156.2.1 9 = .ok (.if_icmp .ne 5, 3) := by decide +kernel
theorem b_156_14_1 : ov_ds ov_m156.2.1 14 [.aload_n 0] = true := by decide +kernel
theorem d_156_15 : decode ov_m156.2.1 15 = .ok (.getfield 50, 3) := by decide +kernel
theorem b_156_18_1 : ov_ds ov_m156.2.1 18 [.iload_n 1] = true := by decide +kernel
theorem d_156_19 : decode ov_m156.2.1 19 = .ok (.invokevirtual 247, 3) := by decide +kernel
theorem b_156_22_3 : ov_ds ov_m156.2.1 22 [.istore_n 2, .iload_n 2, .iconst (-1)] = true := by decide +kernel
theorem d_156_25 : decode ov_m156.2.1 25 = .ok (.if_icmp .ne 7, 3) := by decide +kernel
theorem b_156_32_3 : ov_ds ov_m156.2.1 32 [.bipush 8, .iload_n 2, .bipush 6] = true := by decide +kernel
theorem d_156_37 : decode ov_m156.2.1 37 = .ok (.idiv, 1) := by decide +kernel
theorem b_156_38_3 : ov_ds ov_m156.2.1 38 [.imul, .iload_n 2, .bipush 6] = true := by decide +kernel
theorem d_156_42 : decode ov_m156.2.1 42 = .ok (.irem, 1) := by decide +kernel
theorem b_156_43_1 : ov_ds ov_m156.2.1 43 [.iadd] = true := by decide +kernel
theorem d_156_44 : decode ov_m156.2.1 44 = .ok (.ireturn, 1) := by decide +kernel
theorem b_156_28_1 : ov_ds ov_m156.2.1 28 [.iconst (-1)] = true := by decide +kernel
theorem d_156_29 : decode ov_m156.2.1 29 = .ok (.goto 15, 3) := by decide +kernel
theorem b_156_12_1 : ov_ds ov_m156.2.1 12 [.iconst (-1)] = true := by decide +kernel
theorem d_156_13 : decode ov_m156.2.1 13 = .ok (.ireturn, 1) := by decide +kernel
theorem b_158_0_1 : ov_ds ov_m158.2.1 0 [.iload_n 3] = true := by decide +kernel
theorem d_158_1 : decode ov_m158.2.1 1 = .ok (.invokestatic 155, 3) := by decide +kernel
theorem d_158_4 : decode ov_m158.2.1 4 = .ok (.ifCond .eq 15, 3) := by decide +kernel
theorem b_158_19_1 : ov_ds ov_m158.2.1 19 [.iconst (-1)] = true := by decide +kernel
theorem d_158_20 : decode ov_m158.2.1 20 = .ok (.ireturn, 1) := by decide +kernel
theorem b_158_7_5 : ov_ds ov_m158.2.1 7 [.aload_n 0, .iload_n 1, .iconst 0, .iload_n 2, .iconst 0] = true := by decide +kernel
theorem d_158_12 : decode ov_m158.2.1 12 = .ok (.invokevirtual 211, 3) := by decide +kernel
theorem b_158_15_1 : ov_ds ov_m158.2.1 15 [.iconst (-1)] = true := by decide +kernel
theorem d_158_16 : decode ov_m158.2.1 16 = .ok (.if_icmp .ne 5, 3) := by decide +kernel
theorem b_158_21_1 : ov_ds ov_m158.2.1 21 [.aload_n 0] = true := by decide +kernel
theorem d_158_22 : decode ov_m158.2.1 22 = .ok (.getfield 50, 3) := by decide +kernel
theorem b_158_25_2 : ov_ds ov_m158.2.1 25 [.iload_n 2, .iload_n 3] = true := by decide +kernel
theorem d_158_27 : decode ov_m158.2.1 27 = .ok (.invokevirtual 251, 3) := by decide +kernel
theorem d_158_30 : decode ov_m158.2.1 30 = .ok (.ireturn, 1) := by decide +kernel
theorem b_164_0_1 : ov_ds ov_m164.2.1 0 [.iload_n 1] = true := by decide +kernel
theorem d_164_1 : decode ov_m164.2.1 1 = .ok (.invokestatic 155, 3) := by decide +kernel
theorem d_164_4 : decode ov_m164.2.1 4 = .ok (.ifCond .eq 30, 3) := by decide +kernel
theorem b_164_34_1 : ov_ds ov_m164.2.1 34 [.iconst (-1)] = true := by decide +kernel
theorem d_164_35 : decode ov_m164.2.1 35 = .ok (.ireturn, 1) := by decide +kernel
theorem b_164_7_1 : ov_ds ov_m164.2.1 7 [.iload_n 2] = true := by decide +kernel
theorem d_164_8 : decode ov_m164.2.1 8 = .ok (.ifCond .lt 26, 3) := by decide +kernel
theorem b_164_11_3 : ov_ds ov_m164.2.1 11 [.iload_n 2, .iconst 2, .aload_n 0] = true := by decide +kernel
theorem d_164_14 : decode ov_m164.2.1 14 = .ok (.getfield 88, 3) := by decide +kernel
theorem d_164_17 : decode ov_m164.2.1 17 = .ok (.getfield 254, 3) := by decide +kernel
theorem b_164_20_1 : ov_ds ov_m164.2.1 20 [.iadd] = true := by decide +kernel
theorem d_164_21 : decode ov_m164.2.1 21 = .ok (.if_icmp .ge 13, 3) := by decide +kernel
theorem b_164_24_1 : ov_ds ov_m164.2.1 24 [.aload_n 0] = true := by decide +kernel
theorem d_164_25 : decode ov_m164.2.1 25 = .ok (.getfield 88, 3) := by decide +kernel
theorem d_164_28 : decode ov_m164.2.1 28 = .ok (.getfield 254, 3) := by decide +kernel
theorem d_164_31 : decode ov_m164.2.1 31 = .ok (.ifCond .ne 5, 3) := by decide +kernel
theorem b_164_36_1 : ov_ds ov_m164.2.1 36 [.aload_n 0] = true := by decide +kernel
theorem d_164_37 : decode ov_m164.2.1 37 = .ok (.getfield 64, 3) := by decide +kernel
theorem b_164_40_1 : ov_ds ov_m164.2.1 40 [.aload_n 0] = true := by decide +kernel
theorem d_164_41 : decode ov_m164.2.1 41 = .ok (.getfield 78, 3) := by decide +kernel
theorem b_164_44_1 : ov_ds ov_m164.2.1 44 [.aload_n 0] = true := by decide +kernel
theorem d_164_45 : decode ov_m164.2.1 45 = .ok (.getfield 88, 3) := by decide +kernel
theorem b_164_48_1 : ov_ds ov_m164.2.1 48 [.iload_n 1] = true := by decide +kernel
theorem d_164_49 : decode ov_m164.2.1 49 = .ok (.invokevirtual 257, 3) := by decide +kernel
theorem d_164_52 : decode ov_m164.2.1 52 = .ok (.ifCond .ne 5, 3) := by decide +kernel
theorem b_164_57_1 : ov_ds ov_m164.2.1 57 [.iload_n 2] = true := by decide +kernel
theorem d_164_58 : decode ov_m164.2.1 58 = .ok (.ifCond .ne 11, 3) := by decide +kernel
theorem b_164_69_2 : ov_ds ov_m164.2.1 69 [.iload_n 2, .iconst 1] = true := by decide +kernel
theorem d_164_71 : decode ov_m164.2.1 71 = .ok (.if_icmp .ne 13, 3) := by decide +kernel
theorem b_164_84_1 : ov_ds ov_m164.2.1 84 [.aload_n 0] = true := by decide +kernel
theorem d_164_85 : decode ov_m164.2.1 85 = .ok (.getfield 64, 3) := by decide +kernel
theorem d_164_88 : decode ov_m164.2.1 88 = .ok (.getfield 267, 3) := by decide +kernel
theorem b_164_91_3 : ov_ds ov_m164.2.1 91 [.iload_n 2, .iconst 2, .isub] = true := by decide +kernel
theorem d_164_94 : decode ov_m164.2.1 94 = .ok (.iaload, 1) := by decide +kernel
theorem d_164_95 : decode ov_m164.2.1 95 = .ok (.ireturn, 1) := by decide +kernel
theorem b_164_74_1 : ov_ds ov_m164.2.1 74 [.aload_n 0] = true := by decide +kernel
theorem d_164_75 : decode ov_m164.2.1 75 = .ok (.getfield 64, 3) := by decide +kernel
theorem d_164_78 : decode ov_m164.2.1 78 = .ok (.getfield 264, 3) := by decide +kernel
theorem d_164_81 : decode ov_m164.2.1 81 = .ok (.goto 14, 3) := by decide +kernel
theorem b_164_61_1 : ov_ds ov_m164.2.1 61 [.aload_n 0] = true := by decide +kernel
theorem d_164_62 : decode ov_m164.2.1 62 = .ok (.getfield 64, 3) := by decide +kernel
theorem d_164_65 : decode ov_m164.2.1 65 = .ok (.getfield 261, 3) := by decide +kernel
theorem d_164_68 : decode ov_m164.2.1 68 = .ok (.ireturn, 1) := by decide +kernel
theorem b_164_55_1 : ov_ds ov_m164.2.1 55 [.iconst (-1)] = true := by decide +kernel
theorem d_164_56 : decode ov_m164.2.1 56 = .ok (.ireturn, 1) := by decide +kernel
theorem b_172_0_1 : ov_ds ov_m172.2.1 0 [.aload_n 0] = true := by decide +kernel
theorem d_172_1 : decode ov_m172.2.1 1 = .ok (.getfield 78, 3) := by decide +kernel
theorem b_172_4_2 : ov_ds ov_m172.2.1 4 [.iload_n 1, .iload_n 2] = true := by decide +kernel
theorem d_172_6 : decode ov_m172.2.1 6 = .ok (.invokevirtual 131, 3) := by decide +kernel
theorem b_172_9_3 : ov_ds ov_m172.2.1 9 [.istore 5, .iload 5, .iconst (-1)] = true := by decide +kernel
theorem d_172_14 : decode ov_m172.2.1 14 = .ok (.if_icmp .eq 29, 3) := by decide +kernel
theorem b_172_43_1 : ov_ds ov_m172.2.1 43 [.iconst 0] = true := by decide +kernel
theorem d_172_44 : decode ov_m172.2.1 44 = .ok (.ireturn, 1) := by decide +kernel
theorem b_172_17_1 : ov_ds ov_m172.2.1 17 [.aload_n 0] = true := by decide +kernel
theorem d_172_18 : decode ov_m172.2.1 18 = .ok (.getfield 78, 3) := by decide +kernel
theorem d_172_21 : decode ov_m172.2.1 21 = .ok (.getfield 139, 3) := by decide +kernel
theorem b_172_24_1 : ov_ds ov_m172.2.1 24 [.iload 5] = true := by decide +kernel
theorem d_172_26 : decode ov_m172.2.1 26 = .ok (.iaload, 1) := by decide +kernel
theorem b_172_27_1 : ov_ds ov_m172.2.1 27 [.iconst 2] = true := by decide +kernel
theorem d_172_28 : decode ov_m172.2.1 28 = .ok (.if_icmp .ne 15, 3) := by decide +kernel
theorem b_172_31_1 : ov_ds ov_m172.2.1 31 [.iload 4] = true := by decide +kernel
theorem d_172_33 : decode ov_m172.2.1 33 = .ok (.ifCond .lt 10, 3) := by decide +kernel
theorem b_172_36_2 : ov_ds ov_m172.2.1 36 [.iload 4, .bipush 59] = true := by decide +kernel
theorem d_172_40 : decode ov_m172.2.1 40 = .ok (.if_icmp .le 5, 3) := by decide +kernel
theorem b_172_45_1 : ov_ds ov_m172.2.1 45 [.aload_n 0] = true := by decide +kernel
theorem d_172_46 : decode ov_m172.2.1 46 = .ok (.getfield 28, 3) := by decide +kernel
theorem b_172_49_3 : ov_ds ov_m172.2.1 49 [.iload 5, .iload_n 3, .iload 4] = true := by decide +kernel
theorem d_172_54 : decode ov_m172.2.1 54 = .ok (.invokevirtual 270, 3) := by decide +kernel
theorem d_172_57 : decode ov_m172.2.1 57 = .ok (.ireturn, 1) := by decide +kernel
theorem b_174_0_1 : ov_ds ov_m174.2.1 0 [.aload_n 0] = true := by decide +kernel
theorem d_174_1 : decode ov_m174.2.1 1 = .ok (.getfield 78, 3) := by decide +kernel
theorem b_174_4_2 : ov_ds ov_m174.2.1 4 [.iload_n 1, .iload_n 2] = true := by decide +kernel
theorem d_174_6 : decode ov_m174.2.1 6 = .ok (.invokevirtual 131, 3) := by decide +kernel
theorem b_174_9_3 : ov_ds ov_m174.2.1 9 [.istore 4, .iload 4, .iconst (-1)] = true := by decide +kernel
theorem d_174_14 : decode ov_m174.2.1 14 = .ok (.if_icmp .eq 26, 3) := by decide +kernel
theorem d_174_40 : decode ov_m174.2.1 40 = .ok (.ldc2_w 274, 3) := by decide +kernel
theorem d_174_43 : decode ov_m174.2.1 43 = .ok (.lreturn, 1) := by decide +kernel
theorem b_174_17_1 : ov_ds ov_m174.2.1 17 [.aload_n 0] = true := by decide +kernel
theorem d_174_18 : decode ov_m174.2.1 18 = .ok (.getfield 78, 3) := by decide +kernel
theorem d_174_21 : decode ov_m174.2.1 21 = .ok (.getfield 139, 3) := by decide +kernel
theorem b_174_24_1 : ov_ds ov_m174.2.1 24 [.iload 4] = true := by decide +kernel
theorem d_174_26 : decode ov_m174.2.1 26 = .ok (.iaload, 1) := by decide +kernel
theorem b_174_27_1 : ov_ds ov_m174.2.1 27 [.iconst 2] = true := by decide +kernel
theorem d_174_28 : decode ov_m174.2.1 28 = .ok (.if_icmp .ne 12, 3) := by decide +kernel
theorem b_174_31_1 : ov_ds ov_m174.2.1 31 [.iload_n 3] = true := by decide +kernel
theorem d_174_32 : decode ov_m174.2.1 32 = .ok (.ifCond .lt 8, 3) := by decide +kernel
theorem b_174_35_2 : ov_ds ov_m174.2.1 35 [.iload_n 3, .iconst 1] = true := by decide +kernel
theorem d_174_37 : decode ov_m174.2.1 37 = .ok (.if_icmp .le 7, 3) := by decide +kernel
theorem b_174_44_1 : ov_ds ov_m174.2.1 44 [.aload_n 0] = true := by decide +kernel
theorem d_174_45 : decode ov_m174.2.1 45 = .ok (.getfield 28, 3) := by decide +kernel
theorem b_174_48_2 : ov_ds ov_m174.2.1 48 [.iload 4, .aload_n 0] = true := by decide +kernel
theorem d_174_51 : decode ov_m174.2.1 51 = .ok (.getfield 78, 3) := by decide +kernel
theorem d_174_54 : decode ov_m174.2.1 54 = .ok (.getfield 142, 3) := by decide +kernel
theorem b_174_57_1 : ov_ds ov_m174.2.1 57 [.iload 4] = true := by decide +kernel
theorem d_174_59 : decode ov_m174.2.1 59 = .ok (.iaload, 1) := by decide +kernel
theorem b_174_60_1 : ov_ds ov_m174.2.1 60 [.aload_n 0] = true := by decide +kernel
theorem d_174_61 : decode ov_m174.2.1 61 = .ok (.getfield 78, 3) := by decide +kernel
theorem d_174_64 : decode ov_m174.2.1 64 = .ok (.getfield 145, 3) := by decide +kernel
theorem b_174_67_1 : ov_ds ov_m174.2.1 67 [.iload 4] = true := by decide +kernel
theorem d_174_69 : decode ov_m174.2.1 69 = .ok (.iaload, 1) := by decide +kernel
theorem b_174_70_3 : ov_ds ov_m174.2.1 70 [.iconst 1, .iadd, .iload_n 3] = true := by decide +kernel
theorem d_174_73 : decode ov_m174.2.1 73 = .ok (.invokevirtual 276, 3) := by decide +kernel
theorem d_174_76 : decode ov_m174.2.1 76 = .ok (.lreturn, 1) := by decide +kernel
theorem b_176_0_1 : ov_ds ov_m176.2.1 0 [.aload_n 0] = true := by decide +kernel
theorem d_176_1 : decode ov_m176.2.1 1 = .ok (.getfield 78, 3) := by decide +kernel
theorem b_176_4_2 : ov_ds ov_m176.2.1 4 [.iload_n 1, .iload_n 2] = true := by decide +kernel
theorem d_176_6 : decode ov_m176.2.1 6 = .ok (.invokevirtual 131, 3) := by decide +kernel
theorem b_176_9_3 : ov_ds ov_m176.2.1 9 [.istore 6, .iload 6, .iconst (-1)] = true := by decide +kernel
theorem d_176_14 : decode ov_m176.2.1 14 = .ok (.if_icmp .eq 24, 3) := by decide +kernel
theorem b_176_38_1 : ov_ds ov_m176.2.1 38 [.iconst (-1)] = true := by decide +kernel
theorem d_176_39 : decode ov_m176.2.1 39 = .ok (.ireturn, 1) := by decide +kernel
theorem b_176_17_2 : ov_ds ov_m176.2.1 17 [.iload_n 3, .iconst 2] = true := by decide +kernel
theorem d_176_19 : decode ov_m176.2.1 19 = .ok (.if_icmp .lt 19, 3) := by decide +kernel
theorem b_176_22_2 : ov_ds ov_m176.2.1 22 [.iload_n 3, .iconst 4] = true := by decide +kernel
theorem d_176_24 : decode ov_m176.2.1 24 = .ok (.if_icmp .gt 14, 3) := by decide +kernel
theorem b_176_27_1 : ov_ds ov_m176.2.1 27 [.iload 5] = true := by decide +kernel
theorem d_176_29 : decode ov_m176.2.1 29 = .ok (.ifCond .lt 9, 3) := by decide +kernel
theorem b_176_32_2 : ov_ds ov_m176.2.1 32 [.iload 5, .iload_n 3] = true := by decide +kernel
theorem d_176_35 : decode ov_m176.2.1 35 = .ok (.if_icmp .lt 5, 3) := by decide +kernel
theorem b_176_40_1 : ov_ds ov_m176.2.1 40 [.aload_n 0] = true := by decide +kernel
theorem d_176_41 : decode ov_m176.2.1 41 = .ok (.getfield 78, 3) := by decide +kernel
theorem b_176_44_6 : ov_ds ov_m176.2.1 44 [.iload_n 1, .iload_n 2, .iload_n 3, .iadd, .iconst 1, .isub] = true := by decide +kernel
theorem d_176_50 : decode ov_m176.2.1 50 = .ok (.invokevirtual 131, 3) := by decide +kernel
theorem b_176_53_1 : ov_ds ov_m176.2.1 53 [.iconst (-1)] = true := by decide +kernel
theorem d_176_54 : decode ov_m176.2.1 54 = .ok (.if_icmp .eq 16, 3) := by decide +kernel
theorem b_176_70_1 : ov_ds ov_m176.2.1 70 [.iconst (-1)] = true := by decide +kernel
theorem d_176_71 : decode ov_m176.2.1 71 = .ok (.ireturn, 1) := by decide +kernel
theorem b_176_57_1 : ov_ds ov_m176.2.1 57 [.aload_n 0] = true := by decide +kernel
theorem d_176_58 : decode ov_m176.2.1 58 = .ok (.getfield 78, 3) := by decide +kernel
theorem b_176_61_2 : ov_ds ov_m176.2.1 61 [.iload 6, .iload_n 3] = true := by decide +kernel
theorem d_176_64 : decode ov_m176.2.1 64 = .ok (.invokevirtual 280, 3) := by decide +kernel
theorem d_176_67 : decode ov_m176.2.1 67 = .ok (.ifCond .ne 5, 3) := by decide +kernel
theorem b_176_72_1 : ov_ds ov_m176.2.1 72 [.aload_n 0] = true := by decide +kernel
theorem d_176_73 : decode ov_m176.2.1 73 = .ok (.getfield 71, 3) := by decide +kernel
theorem b_176_76_1 : ov_ds ov_m176.2.1 76 [.aload_n 0] = true := by decide +kernel
theorem d_176_77 : decode ov_m176.2.1 77 = .ok (.getfield 78, 3) := by decide +kernel
theorem b_176_80_3 : ov_ds ov_m176.2.1 80 [.iload 6, .iload_n 3, .iload 4] = true := by decide +kernel
theorem d_176_85 : decode ov_m176.2.1 85 = .ok (.invokevirtual 283, 3) := by decide +kernel
theorem b_176_88_1 : ov_ds ov_m176.2.1 88 [.iload 5] = true := by decide +kernel
theorem d_176_90 : decode ov_m176.2.1 90 = .ok (.ifCond .ne 13, 3) := by decide +kernel
theorem b_176_103_1 : ov_ds ov_m176.2.1 103 [.aload_n 0] = true := by decide +kernel
theorem d_176_104 : decode ov_m176.2.1 104 = .ok (.getfield 71, 3) := by decide +kernel
theorem d_176_107 : decode ov_m176.2.1 107 = .ok (.getfield 289, 3) := by decide +kernel
theorem b_176_110_1 : ov_ds ov_m176.2.1 110 [.iload 5] = true := by decide +kernel
theorem d_176_112 : decode ov_m176.2.1 112 = .ok (.iaload, 1) := by decide +kernel
theorem d_176_113 : decode ov_m176.2.1 113 = .ok (.ireturn, 1) := by decide +kernel
theorem b_176_93_1 : ov_ds ov_m176.2.1 93 [.aload_n 0] = true := by decide +kernel
theorem d_176_94 : decode ov_m176.2.1 94 = .ok (.getfield 71, 3) := by decide +kernel
theorem d_176_97 : decode ov_m176.2.1 97 = .ok (.getfield 286, 3) := by decide +kernel
theorem d_176_100 : decode ov_m176.2.1 100 = .ok (.goto 13, 3) := by decide +kernel
theorem b_184_0_6 : ov_ds ov_m184.2.1 0 [.iconst (-1), .istore_n 1, .iconst (-1), .istore_n 2, .iconst 0, .istore_n 3] = true := by decide +kernel
theorem b_184_6_2 : ov_ds ov_m184.2.1 6 [.iload_n 3, .aload_n 0] = true := by decide +kernel
theorem d_184_8 : decode ov_m184.2.1 8 = .ok (.getfield 78, 3) := by decide +kernel
theorem d_184_11 : decode ov_m184.2.1 11 = .ok (.getfield 292, 3) := by decide +kernel
theorem d_184_14 : decode ov_m184.2.1 14 = .ok (.if_icmp .ge 43, 3) := by decide +kernel
theorem b_184_57_1 : ov_ds ov_m184.2.1 57 [.iload_n 2] = true := by decide +kernel
theorem d_184_58 : decode ov_m184.2.1 58 = .ok (.ireturn, 1) := by decide +kernel
theorem b_184_17_7 : ov_ds ov_m184.2.1 17 [.aload_n 0, .iconst 4, .iload_n 3, .iadd, .iconst 0, .iconst 0, .iconst 0] = true := by decide +kernel
theorem d_184_24 : decode ov_m184.2.1 24 = .ok (.invokevirtual 211, 3) := by decide +kernel
theorem b_184_27_3 : ov_ds ov_m184.2.1 27 [.istore 4, .iload 4, .iconst (-1)] = true := by decide +kernel
theorem d_184_32 : decode ov_m184.2.1 32 = .ok (.if_icmp .eq 19, 3) := by decide +kernel
theorem b_184_51_1 : ov_ds ov_m184.2.1 51 [.iinc 3 1] = true := by decide +kernel
theorem d_184_54 : decode ov_m184.2.1 54 = .ok (.goto (-48), 3) := by decide +kernel
theorem b_184_35_2 : ov_ds ov_m184.2.1 35 [.iload_n 1, .iconst (-1)] = true := by decide +kernel
theorem d_184_37 : decode ov_m184.2.1 37 = .ok (.if_icmp .eq 9, 3) := by decide +kernel
theorem b_184_46_5 : ov_ds ov_m184.2.1 46 [.iload 4, .istore_n 1, .iload_n 3, .istore_n 2, .iinc 3 1] = true := by decide +kernel
theorem b_184_40_2 : ov_ds ov_m184.2.1 40 [.iload 4, .iload_n 1] = true := by decide +kernel
theorem d_184_43 : decode ov_m184.2.1 43 = .ok (.if_icmp .ge 8, 3) := by decide +kernel
theorem b_185_0_1 : ov_ds ov_m185.2.1 0 [.aload_n 0] = true := by decide +kernel
theorem d_185_1 : decode ov_m185.2.1 1 = .ok (.getfield 78, 3) := by decide +kernel
theorem b_185_4_2 : ov_ds ov_m185.2.1 4 [.iload_n 1, .iload_n 2] = true := by decide +kernel
theorem d_185_6 : decode ov_m185.2.1 6 = .ok (.invokevirtual 131, 3) := by decide +kernel
theorem b_185_9_3 : ov_ds ov_m185.2.1 9 [.istore 4, .iload 4, .iconst (-1)] = true := by decide +kernel
theorem d_185_14 : decode ov_m185.2.1 14 = .ok (.if_icmp .eq 14, 3) := by decide +kernel
theorem b_185_28_1 : ov_ds ov_m185.2.1 28 [.iconst 0] = true := by decide +kernel
theorem d_185_29 : decode ov_m185.2.1 29 = .ok (.ireturn, 1) := by decide +kernel
theorem b_185_17_1 : ov_ds ov_m185.2.1 17 [.iload_n 3] = true := by decide +kernel
theorem d_185_18 : decode ov_m185.2.1 18 = .ok (.ifCond .lt 10, 3) := by decide +kernel
theorem b_185_21_2 : ov_ds ov_m185.2.1 21 [.iload_n 3, .sipush 9999] = true := by decide +kernel
theorem d_185_25 : decode ov_m185.2.1 25 = .ok (.if_icmp .le 5, 3) := by decide +kernel
theorem b_185_30_1 : ov_ds ov_m185.2.1 30 [.aload_n 0] = true := by decide +kernel
theorem d_185_31 : decode ov_m185.2.1 31 = .ok (.getfield 28, 3) := by decide +kernel
theorem b_185_34_2 : ov_ds ov_m185.2.1 34 [.iload 4, .iload_n 3] = true := by decide +kernel
theorem d_185_37 : decode ov_m185.2.1 37 = .ok (.invokevirtual 295, 3) := by decide +kernel
theorem d_185_40 : decode ov_m185.2.1 40 = .ok (.ireturn, 1) := by decide +kernel
theorem b_187_0_1 : ov_ds ov_m187.2.1 0 [.iload_n 1] = true := by decide +kernel
theorem d_187_1 : decode ov_m187.2.1 1 = .ok (.ifCond .lt 8, 3) := by decide +kernel
theorem d_187_9 : decode ov_m187.2.1 9 = .ok (.ldc2_w 274, 3) := by decide +kernel
theorem d_187_12 : decode ov_m187.2.1 12 = .ok (.lreturn, 1) := by decide +kernel
theorem b_187_4_2 : ov_ds ov_m187.2.1 4 [.iload_n 1, .iconst 3] = true := by decide +kernel
theorem d_187_6 : decode ov_m187.2.1 6 = .ok (.if_icmp .le 7, 3) := by decide +kernel
theorem b_187_13_1 : ov_ds ov_m187.2.1 13 [.aload_n 0] = true := by decide +kernel
theorem d_187_14 : decode ov_m187.2.1 14 = .ok (.getfield 57, 3) := by decide +kernel
theorem b_187_17_1 : ov_ds ov_m187.2.1 17 [.aload_n 0] = true := by decide +kernel
theorem d_187_18 : decode ov_m187.2.1 18 = .ok (.getfield 78, 3) := by decide +kernel
theorem b_187_21_1 : ov_ds ov_m187.2.1 21 [.aload_n 0] = true := by decide +kernel
theorem d_187_22 : decode ov_m187.2.1 22 = .ok (.getfield 28, 3) := by decide +kernel
theorem d_187_25 : decode ov_m187.2.1 25 = .ok (.invokevirtual 298, 3) := by decide +kernel
theorem b_187_28_1 : ov_ds ov_m187.2.1 28 [.iload_n 1] = true := by decide +kernel
theorem d_187_29 : decode ov_m187.2.1 29 = .ok (.ifCond .ne 12, 3) := by decide +kernel
theorem b_187_41_1 : ov_ds ov_m187.2.1 41 [.aload_n 0] = true := by decide +kernel
theorem d_187_42 : decode ov_m187.2.1 42 = .ok (.getfield 57, 3) := by decide +kernel
theorem d_187_45 : decode ov_m187.2.1 45 = .ok (.getfield 302, 3) := by decide +kernel
theorem d_187_48 : decode ov_m187.2.1 48 = .ok (.ifCond .ne 7, 3) := by decide +kernel
theorem b_187_55_2 : ov_ds ov_m187.2.1 55 [.iload_n 1, .iconst 1] = true := by decide +kernel
theorem d_187_57 : decode ov_m187.2.1 57 = .ok (.if_icmp .ne 11, 3) := by decide +kernel
theorem b_187_68_2 : ov_ds ov_m187.2.1 68 [.iload_n 1, .iconst 2] = true := by decide +kernel
theorem d_187_70 : decode ov_m187.2.1 70 = .ok (.if_icmp .ne 16, 3) := by decide +kernel
theorem b_187_86_1 : ov_ds ov_m187.2.1 86 [.aload_n 0] = true := by decide +kernel
theorem d_187_87 : decode ov_m187.2.1 87 = .ok (.getfield 57, 3) := by decide +kernel
theorem b_187_90_2 : ov_ds ov_m187.2.1 90 [.bipush 8, .bipush 9] = true := by decide +kernel
theorem d_187_94 : decode ov_m187.2.1 94 = .ok (.invokevirtual 308, 3) := by decide +kernel
theorem d_187_97 : decode ov_m187.2.1 97 = .ok (.lreturn, 1) := by decide +kernel
theorem b_187_73_1 : ov_ds ov_m187.2.1 73 [.aload_n 0] = true := by decide +kernel
theorem d_187_74 : decode ov_m187.2.1 74 = .ok (.getfield 57, 3) := by decide +kernel
theorem b_187_77_2 : ov_ds ov_m187.2.1 77 [.iconst 0, .bipush 8] = true := by decide +kernel
theorem d_187_80 : decode ov_m187.2.1 80 = .ok (.invokevirtual 308, 3) := by decide +kernel
theorem d_187_83 : decode ov_m187.2.1 83 = .ok (.goto 14, 3) := by decide +kernel
theorem b_187_60_1 : ov_ds ov_m187.2.1 60 [.aload_n 0] = true := by decide +kernel
theorem d_187_61 : decode ov_m187.2.1 61 = .ok (.getfield 57, 3) := by decide +kernel
theorem d_187_64 : decode ov_m187.2.1 64 = .ok (.getfield 305, 3) := by decide +kernel
theorem d_187_67 : decode ov_m187.2.1 67 = .ok (.lreturn, 1) := by decide +kernel
theorem d_187_51 : decode ov_m187.2.1 51 = .ok (.ldc2_w 274, 3) := by decide +kernel
theorem d_187_54 : decode ov_m187.2.1 54 = .ok (.lreturn, 1) := by decide +kernel
theorem b_187_32_1 : ov_ds ov_m187.2.1 32 [.aload_n 0] = true := by decide +kernel
theorem d_187_33 : decode ov_m187.2.1 33 = .ok (.getfield 57, 3) := by decide +kernel
theorem d_187_36 : decode ov_m187.2.1 36 = .ok (.getfield 302, 3) := by decide +kernel
theorem b_187_39_1 : ov_ds ov_m187.2.1 39 [.i2l] = true := by decide +kernel
theorem d_187_40 : decode ov_m187.2.1 40 = .ok (.lreturn, 1) := by decide +kernel
theorem b_192_0_2 : ov_ds ov_m192.2.1 0 [.iload_n 2, .iconst 1] = true := by decide +kernel
theorem d_192_2 : decode ov_m192.2.1 2 = .ok (.if_icmp .lt 20, 3) := by decide +kernel
theorem b_192_22_1 : ov_ds ov_m192.2.1 22 [.iconst (-1)] = true := by decide +kernel
theorem d_192_23 : decode ov_m192.2.1 23 = .ok (.ireturn, 1) := by decide +kernel
theorem b_192_5_2 : ov_ds ov_m192.2.1 5 [.iload_n 2, .bipush 30] = true := by decide +kernel
theorem d_192_8 : decode ov_m192.2.1 8 = .ok (.if_icmp .gt 14, 3) := by decide +kernel
theorem b_192_11_1 : ov_ds ov_m192.2.1 11 [.iload 4] = true := by decide +kernel
theorem d_192_13 : decode ov_m192.2.1 13 = .ok (.ifCond .lt 9, 3) := by decide +kernel
theorem b_192_16_2 : ov_ds ov_m192.2.1 16 [.iload 4, .iconst 1] = true := by decide +kernel
theorem d_192_19 : decode ov_m192.2.1 19 = .ok (.if_icmp .le 5, 3) := by decide +kernel
theorem b_192_24_5 : ov_ds ov_m192.2.1 24 [.aload_n 0, .iload_n 3, .iconst 0, .iconst 0, .iconst 0] = true := by decide +kernel
theorem d_192_29 : decode ov_m192.2.1 29 = .ok (.invokevirtual 211, 3) := by decide +kernel
theorem b_192_32_1 : ov_ds ov_m192.2.1 32 [.iconst (-1)] = true := by decide +kernel
theorem d_192_33 : decode ov_m192.2.1 33 = .ok (.if_icmp .ne 5, 3) := by decide +kernel
theorem b_192_38_1 : ov_ds ov_m192.2.1 38 [.aload_n 0] = true := by decide +kernel
theorem d_192_39 : decode ov_m192.2.1 39 = .ok (.getfield 50, 3) := by decide +kernel
theorem b_192_42_2 : ov_ds ov_m192.2.1 42 [.iload_n 1, .iload_n 2] = true := by decide +kernel
theorem d_192_44 : decode ov_m192.2.1 44 = .ok (.invokevirtual 312, 3) := by decide +kernel
theorem b_192_47_1 : ov_ds ov_m192.2.1 47 [.iload 4] = true := by decide +kernel
theorem d_192_49 : decode ov_m192.2.1 49 = .ok (.ifCond .ne 13, 3) := by decide +kernel
theorem b_192_62_1 : ov_ds ov_m192.2.1 62 [.aload_n 0] = true := by decide +kernel
theorem d_192_63 : decode ov_m192.2.1 63 = .ok (.getfield 50, 3) := by decide +kernel
theorem d_192_66 : decode ov_m192.2.1 66 = .ok (.getfield 319, 3) := by decide +kernel
theorem d_192_69 : decode ov_m192.2.1 69 = .ok (.ireturn, 1) := by decide +kernel
theorem b_192_52_1 : ov_ds ov_m192.2.1 52 [.aload_n 0] = true := by decide +kernel
theorem d_192_53 : decode ov_m192.2.1 53 = .ok (.getfield 50, 3) := by decide +kernel
theorem d_192_56 : decode ov_m192.2.1 56 = .ok (.getfield 316, 3) := by decide +kernel
theorem d_192_59 : decode ov_m192.2.1 59 = .ok (.goto 10, 3) := by decide +kernel
theorem b_192_36_1 : ov_ds ov_m192.2.1 36 [.iconst (-1)] = true := by decide +kernel
theorem d_192_37 : decode ov_m192.2.1 37 = .ok (.ireturn, 1) := by decide +kernel
theorem b_196_0_1 : ov_ds ov_m196.2.1 0 [.iload_n 1] = true := by decide +kernel
theorem d_196_1 : decode ov_m196.2.1 1 = .ok (.ifCond .lt 25, 3) := by decide +kernel
theorem b_196_26_1 : ov_ds ov_m196.2.1 26 [.iconst 0] = true := by decide +kernel
theorem d_196_27 : decode ov_m196.2.1 27 = .ok (.ireturn, 1) := by decide +kernel
theorem b_196_4_2 : ov_ds ov_m196.2.1 4 [.iload_n 1, .aload_n 0] = true := by decide +kernel
theorem d_196_6 : decode ov_m196.2.1 6 = .ok (.getfield 39, 3) := by decide +kernel
theorem d_196_9 : decode ov_m196.2.1 9 = .ok (.arraylength, 1) := by decide +kernel
theorem d_196_10 : decode ov_m196.2.1 10 = .ok (.if_icmp .ge 16, 3) := by decide +kernel
theorem b_196_13_1 : ov_ds ov_m196.2.1 13 [.iload_n 2] = true := by decide +kernel
theorem d_196_14 : decode ov_m196.2.1 14 = .ok (.ifCond .eq 14, 3) := by decide +kernel
theorem b_196_28_1 : ov_ds ov_m196.2.1 28 [.iload_n 2] = true := by decide +kernel
theorem d_196_29 : decode ov_m196.2.1 29 = .ok (.ifCond .eq 26, 3) := by decide +kernel
theorem b_196_55_1 : ov_ds ov_m196.2.1 55 [.aload_n 0] = true := by decide +kernel
theorem d_196_56 : decode ov_m196.2.1 56 = .ok (.getfield 39, 3) := by decide +kernel
theorem b_196_59_1 : ov_ds ov_m196.2.1 59 [.iload_n 1] = true := by decide +kernel
theorem d_196_60 : decode ov_m196.2.1 60 = .ok (.aaload, 1) := by decide +kernel
theorem b_196_61_1 : ov_ds ov_m196.2.1 61 [.aload_n 0] = true := by decide +kernel
theorem d_196_62 : decode ov_m196.2.1 62 = .ok (.getfield 28, 3) := by decide +kernel
theorem d_196_65 : decode ov_m196.2.1 65 = .ok (.invokevirtual 322, 3) := by decide +kernel
theorem b_196_68_1 : ov_ds ov_m196.2.1 68 [.aload_n 0] = true := by decide +kernel
theorem d_196_69 : decode ov_m196.2.1 69 = .ok (.getfield 43, 3) := by decide +kernel
theorem b_196_72_2 : ov_ds ov_m196.2.1 72 [.iload_n 1, .iconst 1] = true := by decide +kernel
theorem d_196_74 : decode ov_m196.2.1 74 = .ok (.bastore, 1) := by decide +kernel
theorem b_196_75_1 : ov_ds ov_m196.2.1 75 [.iconst 1] = true := by decide +kernel
theorem d_196_76 : decode ov_m196.2.1 76 = .ok (.ireturn, 1) := by decide +kernel
theorem b_196_32_1 : ov_ds ov_m196.2.1 32 [.aload_n 0] = true := by decide +kernel
theorem d_196_33 : decode ov_m196.2.1 33 = .ok (.getfield 28, 3) := by decide +kernel
theorem b_196_36_1 : ov_ds ov_m196.2.1 36 [.aload_n 0] = true := by decide +kernel
theorem d_196_37 : decode ov_m196.2.1 37 = .ok (.getfield 39, 3) := by decide +kernel
theorem b_196_40_1 : ov_ds ov_m196.2.1 40 [.iload_n 1] = true := by decide +kernel
theorem d_196_41 : decode ov_m196.2.1 41 = .ok (.aaload, 1) := by decide +kernel
theorem d_196_42 : decode ov_m196.2.1 42 = .ok (.invokevirtual 322, 3) := by decide +kernel
theorem b_196_45_1 : ov_ds ov_m196.2.1 45 [.aload_n 0] = true := by decide +kernel
theorem d_196_46 : decode ov_m196.2.1 46 = .ok (.getfield 35, 3) := by decide +kernel
theorem d_196_49 : decode ov_m196.2.1 49 = .ok (.invokevirtual 115, 3) := by decide +kernel
theorem d_196_52 : decode ov_m196.2.1 52 = .ok (.goto 23, 3) := by decide +kernel
theorem b_196_17_1 : ov_ds ov_m196.2.1 17 [.aload_n 0] = true := by decide +kernel
theorem d_196_18 : decode ov_m196.2.1 18 = .ok (.getfield 43, 3) := by decide +kernel
theorem b_196_21_1 : ov_ds ov_m196.2.1 21 [.iload_n 1] = true := by decide +kernel
theorem d_196_22 : decode ov_m196.2.1 22 = .ok (.baload, 1) := by decide +kernel
theorem d_196_23 : decode ov_m196.2.1 23 = .ok (.ifCond .ne 5, 3) := by decide +kernel
theorem b_198_0_1 : ov_ds ov_m198.2.1 0 [.iload_n 1] = true := by decide +kernel
theorem d_198_1 : decode ov_m198.2.1 1 = .ok (.tableswitch 195 0 14 #[75, 83, 91, 99, 107, 115, 126, 137, 145, 150, 155, 163, 171, 179, 187], 75) := by decide +kernel
theorem b_198_76_1 : ov_ds ov_m198.2.1 76 [.aload_n 0] = true := by decide +kernel
theorem d_198_77 : decode ov_m198.2.1 77 = .ok (.getfield 78, 3) := by decide +kernel
theorem d_198_80 : decode ov_m198.2.1 80 = .ok (.getfield 325, 3) := by decide +kernel
theorem d_198_83 : decode ov_m198.2.1 83 = .ok (.ireturn, 1) := by decide +kernel
theorem b_198_84_1 : ov_ds ov_m198.2.1 84 [.aload_n 0] = true := by decide +kernel
theorem d_198_85 : decode ov_m198.2.1 85 = .ok (.getfield 78, 3) := by decide +kernel
theorem d_198_88 : decode ov_m198.2.1 88 = .ok (.getfield 328, 3) := by decide +kernel
theorem d_198_91 : decode ov_m198.2.1 91 = .ok (.ireturn, 1) := by decide +kernel
theorem b_198_92_1 : ov_ds ov_m198.2.1 92 [.aload_n 0] = true := by decide +kernel
theorem d_198_93 : decode ov_m198.2.1 93 = .ok (.getfield 78, 3) := by decide +kernel
theorem d_198_96 : decode ov_m198.2.1 96 = .ok (.getfield 331, 3) := by decide +kernel
theorem d_198_99 : decode ov_m198.2.1 99 = .ok (.ireturn, 1) := by decide +kernel
theorem b_198_100_1 : ov_ds ov_m198.2.1 100 [.aload_n 0] = true := by decide +kernel
theorem d_198_101 : decode ov_m198.2.1 101 = .ok (.getfield 78, 3) := by decide +kernel
theorem d_198_104 : decode ov_m198.2.1 104 = .ok (.getfield 292, 3) := by decide +kernel
theorem d_198_107 : decode ov_m198.2.1 107 = .ok (.ireturn, 1) := by decide +kernel
theorem b_198_108_1 : ov_ds ov_m198.2.1 108 [.aload_n 0] = true := by decide +kernel
theorem d_198_109 : decode ov_m198.2.1 109 = .ok (.getfield 88, 3) := by decide +kernel
theorem d_198_112 : decode ov_m198.2.1 112 = .ok (.getfield 254, 3) := by decide +kernel
theorem d_198_115 : decode ov_m198.2.1 115 = .ok (.ireturn, 1) := by decide +kernel
theorem b_198_116_1 : ov_ds ov_m198.2.1 116 [.aload_n 0] = true := by decide +kernel
theorem d_198_117 : decode ov_m198.2.1 117 = .ok (.getfield 28, 3) := by decide +kernel
theorem d_198_120 : decode ov_m198.2.1 120 = .ok (.getfield 166, 3) := by decide +kernel
theorem b_198_123_1 : ov_ds ov_m198.2.1 123 [.bipush 6] = true := by decide +kernel
theorem d_198_125 : decode ov_m198.2.1 125 = .ok (.irem, 1) := by decide +kernel
theorem d_198_126 : decode ov_m198.2.1 126 = .ok (.ireturn, 1) := by decide +kernel
theorem b_198_127_1 : ov_ds ov_m198.2.1 127 [.aload_n 0] = true := by decide +kernel
theorem d_198_128 : decode ov_m198.2.1 128 = .ok (.getfield 28, 3) := by decide +kernel
theorem d_198_131 : decode ov_m198.2.1 131 = .ok (.getfield 166, 3) := by decide +kernel
theorem b_198_134_1 : ov_ds ov_m198.2.1 134 [.bipush 6] = true := by decide +kernel
theorem d_198_136 : decode ov_m198.2.1 136 = .ok (.idiv, 1) := by decide +kernel
theorem d_198_137 : decode ov_m198.2.1 137 = .ok (.ireturn, 1) := by decide +kernel
theorem b_198_138_1 : ov_ds ov_m198.2.1 138 [.aload_n 0] = true := by decide +kernel
theorem d_198_139 : decode ov_m198.2.1 139 = .ok (.getfield 28, 3) := by decide +kernel
theorem d_198_142 : decode ov_m198.2.1 142 = .ok (.getfield 179, 3) := by decide +kernel
theorem d_198_145 : decode ov_m198.2.1 145 = .ok (.ireturn, 1) := by decide +kernel
theorem b_198_146_1 : ov_ds ov_m198.2.1 146 [.aload_n 0] = true := by decide +kernel
theorem d_198_147 : decode ov_m198.2.1 147 = .ok (.invokevirtual 168, 3) := by decide +kernel
theorem d_198_150 : decode ov_m198.2.1 150 = .ok (.ireturn, 1) := by decide +kernel
theorem b_198_151_1 : ov_ds ov_m198.2.1 151 [.aload_n 0] = true := by decide +kernel
theorem d_198_152 : decode ov_m198.2.1 152 = .ok (.invokevirtual 334, 3) := by decide +kernel
theorem d_198_155 : decode ov_m198.2.1 155 = .ok (.ireturn, 1) := by decide +kernel
theorem b_198_156_1 : ov_ds ov_m198.2.1 156 [.aload_n 0] = true := by decide +kernel
theorem d_198_157 : decode ov_m198.2.1 157 = .ok (.getfield 28, 3) := by decide +kernel
theorem d_198_160 : decode ov_m198.2.1 160 = .ok (.getfield 337, 3) := by decide +kernel
theorem d_198_163 : decode ov_m198.2.1 163 = .ok (.ireturn, 1) := by decide +kernel
theorem b_198_164_1 : ov_ds ov_m198.2.1 164 [.aload_n 0] = true := by decide +kernel
theorem d_198_165 : decode ov_m198.2.1 165 = .ok (.getfield 28, 3) := by decide +kernel
theorem d_198_168 : decode ov_m198.2.1 168 = .ok (.getfield 340, 3) := by decide +kernel
theorem d_198_171 : decode ov_m198.2.1 171 = .ok (.ireturn, 1) := by decide +kernel
theorem b_198_172_1 : ov_ds ov_m198.2.1 172 [.aload_n 0] = true := by decide +kernel
theorem d_198_173 : decode ov_m198.2.1 173 = .ok (.getfield 78, 3) := by decide +kernel
theorem d_198_176 : decode ov_m198.2.1 176 = .ok (.getfield 343, 3) := by decide +kernel
theorem d_198_179 : decode ov_m198.2.1 179 = .ok (.ireturn, 1) := by decide +kernel
theorem b_198_180_1 : ov_ds ov_m198.2.1 180 [.aload_n 0] = true := by decide +kernel
theorem d_198_181 : decode ov_m198.2.1 181 = .ok (.getfield 35, 3) := by decide +kernel
theorem d_198_184 : decode ov_m198.2.1 184 = .ok (.getfield 346, 3) := by decide +kernel
theorem d_198_187 : decode ov_m198.2.1 187 = .ok (.ireturn, 1) := by decide +kernel
theorem b_198_188_1 : ov_ds ov_m198.2.1 188 [.aload_n 0] = true := by decide +kernel
theorem d_198_189 : decode ov_m198.2.1 189 = .ok (.getfield 12, 3) := by decide +kernel
theorem d_198_192 : decode ov_m198.2.1 192 = .ok (.getfield 105, 3) := by decide +kernel
theorem d_198_195 : decode ov_m198.2.1 195 = .ok (.ireturn, 1) := by decide +kernel
theorem b_198_196_1 : ov_ds ov_m198.2.1 196 [.iconst (-1)] = true := by decide +kernel
theorem d_198_197 : decode ov_m198.2.1 197 = .ok (.ireturn, 1) := by decide +kernel
abbrev P_OF_isGoer_0 (z : ov_Z) (h : ov_H) (g : Int) : Option ov_V → ov_Z → ov_H → Prop := fun r0 z' h' => ∃ r : Int, r0 = some (ov_i r) ∧ z = z' ∧ h = h' ∧ ((r = 0 ∨ r = 1) ∧ (r = 1 → 0 ≤ g ∧ g ≤ 7))
set_option maxHeartbeats 4000000 in
theorem c_OF_isGoer_0 {u : ov_U} {z : ov_Z} {h : ov_H} (d : Nat) (hd : 0 ≤ d) (U : ov_cap u) (I : ov_I z h) (g : Int) (g_g : ov_g g) : ov_T u d ov_m122 [ov_r 0, ov_i g] z h (P_OF_isGoer_0 z h g) := by
  refine ov_en rfl (Nat.le_of_ble_eq_true rfl) ?_
  show ov_R u d ov_m122 0 [(0, ov_r 0), (1, ov_i g)] [] z h (P_OF_isGoer_0 z h g)
  refine ov_blk (ls2 := [(0, ov_r 0), (1, ov_i g)]) (st2 := [ov_i g]) (pc2 := 1) b_122_0_1 rfl rfl ?_
  refine ov_iflt (tgt := 21) d_122_1 (by decide) (by omega) (fun c1 => ?_) (fun c1 => ?_)
  · skip
    refine ov_blk (ls2 := [(0, ov_r 0), (1, ov_i g)]) (st2 := [ov_i 0]) (pc2 := 22) b_122_21_1 rfl rfl ?_
    exact ov_retz (st := []) d_122_22 rfl (by omega) ⟨_, rfl, rfl, rfl, (by show (0 = 0 ∨ 0 = 1) ∧ (0 = 1 → 0 ≤ g ∧ g ≤ 7); omega)⟩
  · skip
    refine ov_blk (ls2 := [(0, ov_r 0), (1, ov_i g)]) (st2 := [ov_r 0, ov_i 4, ov_i g]) (pc2 := 7) b_122_4_3 rfl rfl ?_
    rcases rg_0_10 I with e2 | e2
    · skip
      refine ov_getf (v := ov_r 58) d_122_7 fl_OF_78 (zb_0 I) (zs_0 I) (congrArg ov_r e2) ?_
      refine ov_getf (v := ov_i (h 58 11)) d_122_10 fl_OF_292 (zb_58 I) (zs_58 I) rfl ?_
      have g3 := rg_58_11 I
      refine ov_blk (ls2 := [(0, ov_r 0), (1, ov_i g)]) (st2 := [ov_i (4 + (h 58 11)), ov_i g]) (pc2 := 14) b_122_13_1 rfl rfl ?_
      refine ov_icge (tgt := 21) d_122_14 (by decide) (by omega) (by omega) (fun c4 => ?_) (fun c4 => ?_)
      · skip
        refine ov_blk (ls2 := [(0, ov_r 0), (1, ov_i g)]) (st2 := [ov_i 0]) (pc2 := 22) b_122_21_1 rfl rfl ?_
        exact ov_retz (st := []) d_122_22 rfl (by omega) ⟨_, rfl, rfl, rfl, (by show (0 = 0 ∨ 0 = 1) ∧ (0 = 1 → 0 ≤ g ∧ g ≤ 7); omega)⟩
      · skip
        refine ov_blk (ls2 := [(0, ov_r 0), (1, ov_i g)]) (st2 := [ov_i 1]) (pc2 := 18) b_122_17_1 rfl rfl ?_
        refine ov_goto (tgt := 22) d_122_18 (by decide) ?_
        exact ov_retz (st := []) d_122_22 rfl (by omega) ⟨_, rfl, rfl, rfl, (by show (1 = 0 ∨ 1 = 1) ∧ (1 = 1 → 0 ≤ g ∧ g ≤ 7); omega)⟩
    · skip
      refine ov_getf (v := ov_r 70) d_122_7 fl_OF_78 (zb_0 I) (zs_0 I) (congrArg ov_r e2) ?_
      refine ov_getf (v := ov_i (h 70 11)) d_122_10 fl_OF_292 (zb_70 I) (zs_70 I) rfl ?_
      have g5 := rg_70_11 I
      refine ov_blk (ls2 := [(0, ov_r 0), (1, ov_i g)]) (st2 := [ov_i (4 + (h 70 11)), ov_i g]) (pc2 := 14) b_122_13_1 rfl rfl ?_
      refine ov_icge (tgt := 21) d_122_14 (by decide) (by omega) (by omega) (fun c6 => ?_) (fun c6 => ?_)
      · skip
        refine ov_blk (ls2 := [(0, ov_r 0), (1, ov_i g)]) (st2 := [ov_i 0]) (pc2 := 22) b_122_21_1 rfl rfl ?_
        exact ov_retz (st := []) d_122_22 rfl (by omega) ⟨_, rfl, rfl, rfl, (by show (0 = 0 ∨ 0 = 1) ∧ (0 = 1 → 0 ≤ g ∧ g ≤ 7); omega)⟩
      · skip
        refine ov_blk (ls2 := [(0, ov_r 0), (1, ov_i g)]) (st2 := [ov_i 1]) (pc2 := 18) b_122_17_1 rfl rfl ?_
        refine ov_goto (tgt := 22) d_122_18 (by decide) ?_
        exact ov_retz (st := []) d_122_22 rfl (by omega) ⟨_, rfl, rfl, rfl, (by show (1 = 0 ∨ 1 = 1) ∧ (1 = 1 → 0 ≤ g ∧ g ≤ 7); omega)⟩
abbrev P_OF_runsLeft_0 (z : ov_Z) (h : ov_H)  : Option ov_V → ov_Z → ov_H → Prop := fun r0 z' h' => ∃ r : Int, r0 = some (ov_i r) ∧ z = z' ∧ h = h' ∧ (-2147483648 ≤ r ∧ r ≤ 2147483647)
set_option maxHeartbeats 4000000 in
theorem c_OF_runsLeft_0 {u : ov_U} {z : ov_Z} {h : ov_H} (d : Nat) (hd : 0 ≤ d) (U : ov_cap u) (I : ov_I z h) : ov_T u d ov_m103 [ov_r 0] z h (P_OF_runsLeft_0 z h) := by
  refine ov_en rfl (Nat.le_of_ble_eq_true rfl) ?_
  show ov_R u d ov_m103 0 [(0, ov_r 0)] [] z h (P_OF_runsLeft_0 z h)
  refine ov_blk (ls2 := [(0, ov_r 0)]) (st2 := [ov_r 0]) (pc2 := 1) b_103_0_1 rfl rfl ?_
  rcases rg_0_10 I with e1 | e1
  · skip
    refine ov_getf (v := ov_r 58) d_103_1 fl_OF_78 (zb_0 I) (zs_0 I) (congrArg ov_r e1) ?_
    refine ov_getf (v := ov_i (h 58 8)) d_103_4 fl_OF_188 (zb_58 I) (zs_58 I) rfl ?_
    have g2 := rg_58_8 I
    refine ov_ifeq (tgt := 14) d_103_7 (by decide) (by omega) (fun c3 => ?_) (fun c3 => ?_)
    · skip
      refine ov_blk (ls2 := [(0, ov_r 0)]) (st2 := [ov_r 0]) (pc2 := 15) b_103_14_1 rfl rfl ?_
      refine ov_getf (v := ov_r 58) d_103_15 fl_OF_78 (zb_0 I) (zs_0 I) (congrArg ov_r e1) ?_
      refine ov_getf (v := ov_r 64) d_103_18 fl_OF_176 (zb_58 I) (zs_58 I) (congrArg ov_r (rg_58_7 I)) ?_
      refine ov_blk (ls2 := [(0, ov_r 0)]) (st2 := [ov_i 3, ov_r 64]) (pc2 := 22) b_103_21_1 rfl rfl ?_
      refine ov_iald d_103_22 (zb_64 I) (zs_64 I) (by omega) ?_
      have g4 := ra_64 I 3
      refine ov_blk (ls2 := [(0, ov_r 0)]) (st2 := [ov_r 0, ov_i (h 64 3)]) (pc2 := 24) b_103_23_1 rfl rfl ?_
      refine ov_getf (v := ov_r 4) d_103_24 fl_OF_28 (zb_0 I) (zs_0 I) (congrArg ov_r (rg_0_2 I)) ?_
      refine ov_getf (v := ov_i (h 4 2)) d_103_27 fl_OF_185 (zb_4 I) (zs_4 I) rfl ?_
      have g5 := rg_4_2 I
      refine ov_blk (ls2 := [(0, ov_r 0)]) (st2 := [ov_i ((h 64 3) - (h 4 2))]) (pc2 := 31) b_103_30_1 rfl rfl ?_
      refine ov_havw (fun w6 gw6 qw6 => ?_)
      exact ov_reti (st := []) d_103_31 rfl ⟨_, rfl, rfl, rfl, (by show -2147483648 ≤ w6 ∧ w6 ≤ 2147483647; omega)⟩
    · skip
      refine ov_blk (ls2 := [(0, ov_r 0)]) (st2 := [ov_i 0]) (pc2 := 11) b_103_10_1 rfl rfl ?_
      refine ov_goto (tgt := 31) d_103_11 (by decide) ?_
      exact ov_reti (st := []) d_103_31 rfl ⟨_, rfl, rfl, rfl, (by show -2147483648 ≤ 0 ∧ 0 ≤ 2147483647; omega)⟩
  · skip
    refine ov_getf (v := ov_r 70) d_103_1 fl_OF_78 (zb_0 I) (zs_0 I) (congrArg ov_r e1) ?_
    refine ov_getf (v := ov_i (h 70 8)) d_103_4 fl_OF_188 (zb_70 I) (zs_70 I) rfl ?_
    have g7 := rg_70_8 I
    refine ov_ifeq (tgt := 14) d_103_7 (by decide) (by omega) (fun c8 => ?_) (fun c8 => ?_)
    · skip
      refine ov_blk (ls2 := [(0, ov_r 0)]) (st2 := [ov_r 0]) (pc2 := 15) b_103_14_1 rfl rfl ?_
      refine ov_getf (v := ov_r 70) d_103_15 fl_OF_78 (zb_0 I) (zs_0 I) (congrArg ov_r e1) ?_
      refine ov_getf (v := ov_r 76) d_103_18 fl_OF_176 (zb_70 I) (zs_70 I) (congrArg ov_r (rg_70_7 I)) ?_
      refine ov_blk (ls2 := [(0, ov_r 0)]) (st2 := [ov_i 3, ov_r 76]) (pc2 := 22) b_103_21_1 rfl rfl ?_
      refine ov_iald d_103_22 (zb_76 I) (zs_76 I) (by omega) ?_
      have g9 := ra_76 I 3
      refine ov_blk (ls2 := [(0, ov_r 0)]) (st2 := [ov_r 0, ov_i (h 76 3)]) (pc2 := 24) b_103_23_1 rfl rfl ?_
      refine ov_getf (v := ov_r 4) d_103_24 fl_OF_28 (zb_0 I) (zs_0 I) (congrArg ov_r (rg_0_2 I)) ?_
      refine ov_getf (v := ov_i (h 4 2)) d_103_27 fl_OF_185 (zb_4 I) (zs_4 I) rfl ?_
      have g10 := rg_4_2 I
      refine ov_blk (ls2 := [(0, ov_r 0)]) (st2 := [ov_i ((h 76 3) - (h 4 2))]) (pc2 := 31) b_103_30_1 rfl rfl ?_
      refine ov_havw (fun w11 gw11 qw11 => ?_)
      exact ov_reti (st := []) d_103_31 rfl ⟨_, rfl, rfl, rfl, (by show -2147483648 ≤ w11 ∧ w11 ≤ 2147483647; omega)⟩
    · skip
      refine ov_blk (ls2 := [(0, ov_r 0)]) (st2 := [ov_i 0]) (pc2 := 11) b_103_10_1 rfl rfl ?_
      refine ov_goto (tgt := 31) d_103_11 (by decide) ?_
      exact ov_reti (st := []) d_103_31 rfl ⟨_, rfl, rfl, rfl, (by show -2147483648 ≤ 0 ∧ 0 ≤ 2147483647; omega)⟩
abbrev P_OF_hiddenLeft_0 (z : ov_Z) (h : ov_H)  : Option ov_V → ov_Z → ov_H → Prop := fun r0 z' h' => ∃ r : Int, r0 = some (ov_i r) ∧ z = z' ∧ h = h' ∧ (-2147483648 ≤ r ∧ r ≤ 2147483647)
set_option maxHeartbeats 4000000 in
theorem c_OF_hiddenLeft_0 {u : ov_U} {z : ov_Z} {h : ov_H} (d : Nat) (hd : 1 ≤ d) (U : ov_cap u) (I : ov_I z h) : ov_T u d ov_m199 [ov_r 0] z h (P_OF_hiddenLeft_0 z h) := by
  refine ov_en rfl (Nat.le_of_ble_eq_true rfl) ?_
  show ov_R u d ov_m199 0 [(0, ov_r 0)] [] z h (P_OF_hiddenLeft_0 z h)
  refine ov_blk (ls2 := [(0, ov_r 0), (1, ov_i 0), (2, ov_i 0)]) (st2 := []) (pc2 := 4) b_199_0_4 rfl rfl ?_
  have L4 : ∀ (n1 : Nat) (x1 : Int) (x2 : Int) (q3 : 0 ≤ x1 ∧ x1 ≤ x2 ∧ 0 ≤ x2 ∧ x2 ≤ 54), 54 - x2 < (n1 : Int) → ov_R u d ov_m199 4 [(0, ov_r 0), (1, ov_i x1), (2, ov_i x2)] [] z h (P_OF_hiddenLeft_0 z h) := by
    intro n1
    induction n1 with
    | zero =>
      intro x1 x2 q3 hn5
      exact absurd hn5 (by omega)
    | succ n1 ih2 =>
      intro x1 x2 q3 hn5
      refine ov_blk (ls2 := [(0, ov_r 0), (1, ov_i x1), (2, ov_i x2)]) (st2 := [ov_i 54, ov_i x2]) (pc2 := 7) b_199_4_2 rfl rfl ?_
      refine ov_icge (tgt := 43) d_199_7 (by decide) (by omega) (by omega) (fun c6 => ?_) (fun c6 => ?_)
      · skip
        refine ov_blk (ls2 := [(0, ov_r 0), (1, ov_i x1), (2, ov_i x2)]) (st2 := [ov_i x1]) (pc2 := 44) b_199_43_1 rfl rfl ?_
        exact ov_reti (st := []) d_199_44 rfl ⟨_, rfl, rfl, rfl, (by show -2147483648 ≤ x1 ∧ x1 ≤ 2147483647; omega)⟩
      · skip
        refine ov_blk (ls2 := [(0, ov_r 0), (1, ov_i x1), (2, ov_i x2)]) (st2 := [ov_r 0]) (pc2 := 11) b_199_10_1 rfl rfl ?_
        rcases rg_0_10 I with e7 | e7
        · skip
          refine ov_getf (v := ov_r 58) d_199_11 fl_OF_78 (zb_0 I) (zs_0 I) (congrArg ov_r e7) ?_
          refine ov_getf (v := ov_r 59) d_199_14 fl_OF_139 (zb_58 I) (zs_58 I) (congrArg ov_r (rg_58_2 I)) ?_
          refine ov_blk (ls2 := [(0, ov_r 0), (1, ov_i x1), (2, ov_i x2)]) (st2 := [ov_i x2, ov_r 59]) (pc2 := 18) b_199_17_1 rfl rfl ?_
          refine ov_iald d_199_18 (zb_59 I) (zs_59 I) (by omega) ?_
          have g8 := ra_59 I x2
          refine ov_blk (ls2 := [(0, ov_r 0), (1, ov_i x1), (2, ov_i x2)]) (st2 := [ov_i 1, ov_i (h 59 x2)]) (pc2 := 20) b_199_19_1 rfl rfl ?_
          refine ov_icne (tgt := 37) d_199_20 (by decide) (by omega) (by omega) (fun c9 => ?_) (fun c9 => ?_)
          · skip
            refine ov_blk (ls2 := [(0, ov_r 0), (1, ov_i x1), (2, ov_i (x2 + 1))]) (st2 := []) (pc2 := 40) b_199_37_1 rfl rfl ?_
            refine ov_goto (tgt := 4) d_199_40 (by decide) ?_
            exact ih2 x1 (x2 + 1) (by show 0 ≤ x1 ∧ x1 ≤ (x2 + 1) ∧ 0 ≤ (x2 + 1) ∧ (x2 + 1) ≤ 54; omega) (by omega)
          · skip
            refine ov_blk (ls2 := [(0, ov_r 0), (1, ov_i x1), (2, ov_i x2)]) (st2 := [ov_r 0]) (pc2 := 24) b_199_23_1 rfl rfl ?_
            refine ov_getf (v := ov_r 4) d_199_24 fl_OF_28 (zb_0 I) (zs_0 I) (congrArg ov_r (rg_0_2 I)) ?_
            refine ov_blk (ls2 := [(0, ov_r 0), (1, ov_i x1), (2, ov_i x2)]) (st2 := [ov_i x2, ov_r 4]) (pc2 := 28) b_199_27_1 rfl rfl ?_
            refine ov_cV (as := [ov_i x2]) (st := []) (d2 := d - 1) d_199_28 lk_OF_151 rfl (Nat.le_of_ble_eq_true rfl) (c := 7) (zb_4 I) (zs_4 I) ⟨by decide, rfl⟩ (by omega) (c_State_knows_4 (d - 1) (by omega) U I x2 (by omega)) ?_
            rintro _ _ _ ⟨v11, rfl, rfl, rfl, f10⟩
            show ov_R u d ov_m199 31 [(0, ov_r 0), (1, ov_i x1), (2, ov_i x2)] [ov_i v11] z h (P_OF_hiddenLeft_0 z h)
            have f12 : (v11 = 0 ∨ v11 = 1) := f10
            clear f10
            refine ov_ifne (tgt := 37) d_199_31 (by decide) (by omega) (fun c13 => ?_) (fun c13 => ?_)
            · skip
              refine ov_blk (ls2 := [(0, ov_r 0), (1, ov_i x1), (2, ov_i (x2 + 1))]) (st2 := []) (pc2 := 40) b_199_37_1 rfl rfl ?_
              refine ov_goto (tgt := 4) d_199_40 (by decide) ?_
              exact ih2 x1 (x2 + 1) (by show 0 ≤ x1 ∧ x1 ≤ (x2 + 1) ∧ 0 ≤ (x2 + 1) ∧ (x2 + 1) ≤ 54; omega) (by omega)
            · skip
              refine ov_blk (ls2 := [(0, ov_r 0), (1, ov_i (x1 + 1)), (2, ov_i (x2 + 1))]) (st2 := []) (pc2 := 40) b_199_34_2 rfl rfl ?_
              refine ov_goto (tgt := 4) d_199_40 (by decide) ?_
              exact ih2 (x1 + 1) (x2 + 1) (by show 0 ≤ (x1 + 1) ∧ (x1 + 1) ≤ (x2 + 1) ∧ 0 ≤ (x2 + 1) ∧ (x2 + 1) ≤ 54; omega) (by omega)
        · skip
          refine ov_getf (v := ov_r 70) d_199_11 fl_OF_78 (zb_0 I) (zs_0 I) (congrArg ov_r e7) ?_
          refine ov_getf (v := ov_r 71) d_199_14 fl_OF_139 (zb_70 I) (zs_70 I) (congrArg ov_r (rg_70_2 I)) ?_
          refine ov_blk (ls2 := [(0, ov_r 0), (1, ov_i x1), (2, ov_i x2)]) (st2 := [ov_i x2, ov_r 71]) (pc2 := 18) b_199_17_1 rfl rfl ?_
          refine ov_iald d_199_18 (zb_71 I) (zs_71 I) (by omega) ?_
          have g14 := ra_71 I x2
          refine ov_blk (ls2 := [(0, ov_r 0), (1, ov_i x1), (2, ov_i x2)]) (st2 := [ov_i 1, ov_i (h 71 x2)]) (pc2 := 20) b_199_19_1 rfl rfl ?_
          refine ov_icne (tgt := 37) d_199_20 (by decide) (by omega) (by omega) (fun c15 => ?_) (fun c15 => ?_)
          · skip
            refine ov_blk (ls2 := [(0, ov_r 0), (1, ov_i x1), (2, ov_i (x2 + 1))]) (st2 := []) (pc2 := 40) b_199_37_1 rfl rfl ?_
            refine ov_goto (tgt := 4) d_199_40 (by decide) ?_
            exact ih2 x1 (x2 + 1) (by show 0 ≤ x1 ∧ x1 ≤ (x2 + 1) ∧ 0 ≤ (x2 + 1) ∧ (x2 + 1) ≤ 54; omega) (by omega)
          · skip
            refine ov_blk (ls2 := [(0, ov_r 0), (1, ov_i x1), (2, ov_i x2)]) (st2 := [ov_r 0]) (pc2 := 24) b_199_23_1 rfl rfl ?_
            refine ov_getf (v := ov_r 4) d_199_24 fl_OF_28 (zb_0 I) (zs_0 I) (congrArg ov_r (rg_0_2 I)) ?_
            refine ov_blk (ls2 := [(0, ov_r 0), (1, ov_i x1), (2, ov_i x2)]) (st2 := [ov_i x2, ov_r 4]) (pc2 := 28) b_199_27_1 rfl rfl ?_
            refine ov_cV (as := [ov_i x2]) (st := []) (d2 := d - 1) d_199_28 lk_OF_151 rfl (Nat.le_of_ble_eq_true rfl) (c := 7) (zb_4 I) (zs_4 I) ⟨by decide, rfl⟩ (by omega) (c_State_knows_4 (d - 1) (by omega) U I x2 (by omega)) ?_
            rintro _ _ _ ⟨v17, rfl, rfl, rfl, f16⟩
            show ov_R u d ov_m199 31 [(0, ov_r 0), (1, ov_i x1), (2, ov_i x2)] [ov_i v17] z h (P_OF_hiddenLeft_0 z h)
            have f18 : (v17 = 0 ∨ v17 = 1) := f16
            clear f16
            refine ov_ifne (tgt := 37) d_199_31 (by decide) (by omega) (fun c19 => ?_) (fun c19 => ?_)
            · skip
              refine ov_blk (ls2 := [(0, ov_r 0), (1, ov_i x1), (2, ov_i (x2 + 1))]) (st2 := []) (pc2 := 40) b_199_37_1 rfl rfl ?_
              refine ov_goto (tgt := 4) d_199_40 (by decide) ?_
              exact ih2 x1 (x2 + 1) (by show 0 ≤ x1 ∧ x1 ≤ (x2 + 1) ∧ 0 ≤ (x2 + 1) ∧ (x2 + 1) ≤ 54; omega) (by omega)
            · skip
              refine ov_blk (ls2 := [(0, ov_r 0), (1, ov_i (x1 + 1)), (2, ov_i (x2 + 1))]) (st2 := []) (pc2 := 40) b_199_34_2 rfl rfl ?_
              refine ov_goto (tgt := 4) d_199_40 (by decide) ?_
              exact ih2 (x1 + 1) (x2 + 1) (by show 0 ≤ (x1 + 1) ∧ (x1 + 1) ≤ (x2 + 1) ∧ 0 ≤ (x2 + 1) ∧ (x2 + 1) ≤ 54; omega) (by omega)
  exact L4 55 0 0 (by show 0 ≤ 0 ∧ 0 ≤ 0 ∧ 0 ≤ 0 ∧ 0 ≤ 54; omega) (by omega)
abbrev P_OF_forgetMarks_0 (z : ov_Z) (h : ov_H)  : Option ov_V → ov_Z → ov_H → Prop := fun r0 z' h' => r0 = none ∧ ov_I z' h' ∧ (h' 36 7 = h 36 7 ∧ h' 1 1 = h 1 1 ∧ h' 90 2 = h 90 2 ∧ h' 0 10 = h 0 10 ∧ h' 0 11 = h 0 11 ∧ h' 0 12 = h 0 12 ∧ h' 0 13 = h 0 13 ∧ h' 3 1 = h 3 1 ∧ h' 36 8 = h 36 8 ∧ h' 46 3 = h 46 3 ∧ h' 46 4 = h 46 4 ∧ h' 49 4 = h 49 4 ∧ h' 49 5 = h 49 5)
set_option maxHeartbeats 4000000 in
theorem c_OF_forgetMarks_0 {u : ov_U} {z : ov_Z} {h : ov_H} (d : Nat) (hd : 0 ≤ d) (U : ov_cap u) (I : ov_I z h) : ov_T u d ov_m83 [ov_r 0] z h (P_OF_forgetMarks_0 z h) := by
  refine ov_en rfl (Nat.le_of_ble_eq_true rfl) ?_
  show ov_R u d ov_m83 0 [(0, ov_r 0)] [] z h (P_OF_forgetMarks_0 z h)
  refine ov_blk (ls2 := [(0, ov_r 0), (1, ov_i 0)]) (st2 := []) (pc2 := 2) b_83_0_2 rfl rfl ?_
  have L4 : ∀ (n1 : Nat) (x1 : Int) (z5 : ov_Z) (h6 : ov_H) (I7 : ov_I z5 h6) (q3 : 0 ≤ x1 ∧ x1 ≤ 4 ∧ (h6 36 7) = (h 36 7) ∧ (h6 1 1) = (h 1 1) ∧ (h6 90 2) = (h 90 2) ∧ (h6 0 10) = (h 0 10) ∧ (h6 0 11) = (h 0 11) ∧ (h6 0 12) = (h 0 12) ∧ (h6 0 13) = (h 0 13) ∧ (h6 3 1) = (h 3 1) ∧ (h6 36 8) = (h 36 8) ∧ (h6 46 3) = (h 46 3) ∧ (h6 46 4) = (h 46 4) ∧ (h6 49 4) = (h 49 4) ∧ (h6 49 5) = (h 49 5)), 4 - x1 < (n1 : Int) → ov_R u d ov_m83 2 [(0, ov_r 0), (1, ov_i x1)] [] z5 h6 (P_OF_forgetMarks_0 z h) := by
    intro n1
    induction n1 with
    | zero =>
      intro x1 z5 h6 I7 q3 hn8
      exact absurd hn8 (by omega)
    | succ n1 ih2 =>
      intro x1 z5 h6 I7 q3 hn8
      refine ov_blk (ls2 := [(0, ov_r 0), (1, ov_i x1)]) (st2 := [ov_r 0, ov_i x1]) (pc2 := 4) b_83_2_2 rfl rfl ?_
      refine ov_getf (v := ov_r 35) d_83_4 fl_OF_43 (zb_0 I7) (zs_0 I7) (congrArg ov_r (rg_0_5 I7)) ?_
      refine ov_alen d_83_7 (zb_35 I7) (zs_35 I7) (by decide) ?_
      show ov_R u d ov_m83 8 [(0, ov_r 0), (1, ov_i x1)] [ov_i 4, ov_i x1] z5 h6 (P_OF_forgetMarks_0 z h)
      refine ov_icge (tgt := 24) d_83_8 (by decide) (by omega) (by omega) (fun c9 => ?_) (fun c9 => ?_)
      · skip
        exact ov_retv (st := []) d_83_24 rfl ⟨rfl, I7, (by show (h6 36 7) = (h 36 7) ∧ (h6 1 1) = (h 1 1) ∧ (h6 90 2) = (h 90 2) ∧ (h6 0 10) = (h 0 10) ∧ (h6 0 11) = (h 0 11) ∧ (h6 0 12) = (h 0 12) ∧ (h6 0 13) = (h 0 13) ∧ (h6 3 1) = (h 3 1) ∧ (h6 36 8) = (h 36 8) ∧ (h6 46 3) = (h 46 3) ∧ (h6 46 4) = (h 46 4) ∧ (h6 49 4) = (h 49 4) ∧ (h6 49 5) = (h 49 5); omega)⟩
      · skip
        refine ov_blk (ls2 := [(0, ov_r 0), (1, ov_i x1)]) (st2 := [ov_r 0]) (pc2 := 12) b_83_11_1 rfl rfl ?_
        refine ov_getf (v := ov_r 35) d_83_12 fl_OF_43 (zb_0 I7) (zs_0 I7) (congrArg ov_r (rg_0_5 I7)) ?_
        refine ov_blk (ls2 := [(0, ov_r 0), (1, ov_i x1)]) (st2 := [ov_i 0, ov_i x1, ov_r 35]) (pc2 := 17) b_83_15_2 rfl rfl ?_
        refine ov_zast d_83_17 (zb_35 I7) (zs_35 I7) (by omega) (by omega) ?_
        have I10 := ua_35 (k := x1) (x := 0) I7 (by omega)
        refine ov_blk (ls2 := [(0, ov_r 0), (1, ov_i (x1 + 1))]) (st2 := []) (pc2 := 21) b_83_18_1 rfl rfl ?_
        refine ov_goto (tgt := 2) d_83_21 (by decide) ?_
        exact ih2 (x1 + 1) _ _ I10 (by show 0 ≤ (x1 + 1) ∧ (x1 + 1) ≤ 4 ∧ (h6 36 7) = (h 36 7) ∧ (h6 1 1) = (h 1 1) ∧ (h6 90 2) = (h 90 2) ∧ (h6 0 10) = (h 0 10) ∧ (h6 0 11) = (h 0 11) ∧ (h6 0 12) = (h 0 12) ∧ (h6 0 13) = (h 0 13) ∧ (h6 3 1) = (h 3 1) ∧ (h6 36 8) = (h 36 8) ∧ (h6 46 3) = (h 46 3) ∧ (h6 46 4) = (h 46 4) ∧ (h6 49 4) = (h 49 4) ∧ (h6 49 5) = (h 49 5); omega) (by omega)
  exact L4 5 0 _ _ I (by show 0 ≤ 0 ∧ 0 ≤ 4 ∧ (h 36 7) = (h 36 7) ∧ (h 1 1) = (h 1 1) ∧ (h 90 2) = (h 90 2) ∧ (h 0 10) = (h 0 10) ∧ (h 0 11) = (h 0 11) ∧ (h 0 12) = (h 0 12) ∧ (h 0 13) = (h 0 13) ∧ (h 3 1) = (h 3 1) ∧ (h 36 8) = (h 36 8) ∧ (h 46 3) = (h 46 3) ∧ (h 46 4) = (h 46 4) ∧ (h 49 4) = (h 49 4) ∧ (h 49 5) = (h 49 5); omega) (by omega)
abbrev P_OF_forgetReckonings_0 (z : ov_Z) (h : ov_H)  : Option ov_V → ov_Z → ov_H → Prop := fun r0 z' h' => r0 = none ∧ ov_I z' h' ∧ (h' 36 7 = 0 ∧ h' 1 1 = h 1 1 ∧ h' 90 2 = h 90 2 ∧ h' 0 10 = h 0 10 ∧ h' 0 11 = h 0 11 ∧ h' 0 12 = h 0 12 ∧ h' 0 13 = h 0 13 ∧ h' 3 1 = h 3 1 ∧ h' 36 8 = h 36 8 ∧ h' 46 3 = h 46 3 ∧ h' 46 4 = h 46 4 ∧ h' 49 4 = h 49 4 ∧ h' 49 5 = h 49 5)
set_option maxHeartbeats 4000000 in
theorem c_OF_forgetReckonings_0 {u : ov_U} {z : ov_Z} {h : ov_H} (d : Nat) (hd : 1 ≤ d) (U : ov_cap u) (I : ov_I z h) : ov_T u d ov_m84 [ov_r 0] z h (P_OF_forgetReckonings_0 z h) := by
  refine ov_en rfl (Nat.le_of_ble_eq_true rfl) ?_
  show ov_R u d ov_m84 0 [(0, ov_r 0)] [] z h (P_OF_forgetReckonings_0 z h)
  refine ov_blk (ls2 := [(0, ov_r 0)]) (st2 := [ov_r 0]) (pc2 := 1) b_84_0_1 rfl rfl ?_
  refine ov_getf (v := ov_r 36) d_84_1 fl_OF_50 (zb_0 I) (zs_0 I) (congrArg ov_r (rg_0_6 I)) ?_
  refine ov_cV (as := []) (st := []) (d2 := d - 1) d_84_4 lk_OF_129 rfl (Nat.le_of_ble_eq_true rfl) (c := 2) (zb_36 I) (zs_36 I) ⟨by decide, rfl⟩ (by omega) (c_Goers_forget_36 (d - 1) (by omega) U I) ?_
  rintro _ z2 h3 ⟨rfl, I4, f1⟩
  show ov_R u d ov_m84 7 [(0, ov_r 0)] [] z2 h3 (P_OF_forgetReckonings_0 z h)
  have f5 : (h3 36 7) = 0 ∧ (h3 1 1) = (h 1 1) ∧ (h3 90 2) = (h 90 2) ∧ (h3 0 10) = (h 0 10) ∧ (h3 0 11) = (h 0 11) ∧ (h3 0 12) = (h 0 12) ∧ (h3 0 13) = (h 0 13) ∧ (h3 3 1) = (h 3 1) ∧ (h3 36 8) = (h 36 8) ∧ (h3 46 3) = (h 46 3) ∧ (h3 46 4) = (h 46 4) ∧ (h3 49 4) = (h 49 4) ∧ (h3 49 5) = (h 49 5) := f1
  clear f1
  refine ov_blk (ls2 := [(0, ov_r 0)]) (st2 := [ov_r 0]) (pc2 := 8) b_84_7_1 rfl rfl ?_
  refine ov_getf (v := ov_r 49) d_84_8 fl_OF_64 (zb_0 I4) (zs_0 I4) (congrArg ov_r (rg_0_8 I4)) ?_
  refine ov_cV (as := []) (st := []) (d2 := d - 1) d_84_11 lk_OF_126 rfl (Nat.le_of_ble_eq_true rfl) (c := 5) (zb_49 I4) (zs_49 I4) ⟨by decide, rfl⟩ (by omega) (c_Pace_forget_49 (d - 1) (by omega) U I4) ?_
  rintro _ z7 h8 ⟨rfl, I9, f6⟩
  show ov_R u d ov_m84 14 [(0, ov_r 0)] [] z7 h8 (P_OF_forgetReckonings_0 z h)
  have f10 : (h8 36 7) = (h3 36 7) ∧ (h8 1 1) = (h3 1 1) ∧ (h8 90 2) = (h3 90 2) ∧ (h8 0 10) = (h3 0 10) ∧ (h8 0 11) = (h3 0 11) ∧ (h8 0 12) = (h3 0 12) ∧ (h8 0 13) = (h3 0 13) ∧ (h8 3 1) = (h3 3 1) ∧ (h8 36 8) = (h3 36 8) ∧ (h8 46 3) = (h3 46 3) ∧ (h8 46 4) = (h3 46 4) ∧ (h8 49 4) = (h3 49 4) ∧ (h8 49 5) = (h3 49 5) := f6
  clear f6
  refine ov_blk (ls2 := [(0, ov_r 0)]) (st2 := [ov_r 0]) (pc2 := 15) b_84_14_1 rfl rfl ?_
  refine ov_getf (v := ov_r 54) d_84_15 fl_OF_71 (zb_0 I9) (zs_0 I9) (congrArg ov_r (rg_0_9 I9)) ?_
  refine ov_cV (as := []) (st := []) (d2 := d - 1) d_84_18 lk_OF_130 rfl (Nat.le_of_ble_eq_true rfl) (c := 11) (zb_54 I9) (zs_54 I9) ⟨by decide, rfl⟩ (by omega) (c_Wave_forget_54 (d - 1) (by omega) U I9) ?_
  rintro _ z12 h13 ⟨rfl, I14, f11⟩
  show ov_R u d ov_m84 21 [(0, ov_r 0)] [] z12 h13 (P_OF_forgetReckonings_0 z h)
  have f15 : (h13 36 7) = (h8 36 7) ∧ (h13 1 1) = (h8 1 1) ∧ (h13 90 2) = (h8 90 2) ∧ (h13 0 10) = (h8 0 10) ∧ (h13 0 11) = (h8 0 11) ∧ (h13 0 12) = (h8 0 12) ∧ (h13 0 13) = (h8 0 13) ∧ (h13 3 1) = (h8 3 1) ∧ (h13 36 8) = (h8 36 8) ∧ (h13 46 3) = (h8 46 3) ∧ (h13 46 4) = (h8 46 4) ∧ (h13 49 4) = (h8 49 4) ∧ (h13 49 5) = (h8 49 5) := f11
  clear f11
  exact ov_retv (st := []) d_84_21 rfl ⟨rfl, I14, (by show (h13 36 7) = 0 ∧ (h13 1 1) = (h 1 1) ∧ (h13 90 2) = (h 90 2) ∧ (h13 0 10) = (h 0 10) ∧ (h13 0 11) = (h 0 11) ∧ (h13 0 12) = (h 0 12) ∧ (h13 0 13) = (h 0 13) ∧ (h13 3 1) = (h 3 1) ∧ (h13 36 8) = (h 36 8) ∧ (h13 46 3) = (h 46 3) ∧ (h13 46 4) = (h 46 4) ∧ (h13 49 4) = (h 49 4) ∧ (h13 49 5) = (h 49 5); omega)⟩
abbrev P_OF_feed_0 (z : ov_Z) (h : ov_H) (a : Int) (b : Int) (c : Int) : Option ov_V → ov_Z → ov_H → Prop := fun r0 z' h' => ∃ r : Int, r0 = some (ov_i r) ∧ ov_I z' h' ∧ (r = h' 1 1 ∧ h' 36 7 = h 36 7 ∧ h' 90 2 = h 90 2 ∧ h' 0 10 = h 0 10 ∧ h' 0 11 = h 0 11 ∧ h' 0 12 = h 0 12 ∧ h' 0 13 = h 0 13 ∧ h' 3 1 = h 3 1 ∧ h' 36 8 = h 36 8 ∧ h' 46 3 = h 46 3 ∧ h' 46 4 = h 46 4 ∧ h' 49 4 = h 49 4 ∧ h' 49 5 = h 49 5)
set_option maxHeartbeats 4000000 in
theorem c_OF_feed_0 {u : ov_U} {z : ov_Z} {h : ov_H} (d : Nat) (hd : 1 ≤ d) (U : ov_cap u) (I : ov_I z h) (a : Int) (b : Int) (c : Int) : ov_T u d ov_m21 [ov_r 0, ov_l a, ov_l b, ov_l c] z h (P_OF_feed_0 z h a b c) := by
  refine ov_en rfl (Nat.le_of_ble_eq_true rfl) ?_
  show ov_R u d ov_m21 0 [(0, ov_r 0), (1, ov_l a), (3, ov_l b), (5, ov_l c)] [] z h (P_OF_feed_0 z h a b c)
  refine ov_blk (ls2 := [(0, ov_r 0), (1, ov_l a), (3, ov_l b), (5, ov_l c)]) (st2 := [ov_r 0]) (pc2 := 1) b_21_0_1 rfl rfl ?_
  refine ov_getf (v := ov_r 1) d_21_1 fl_OF_12 (zb_0 I) (zs_0 I) (congrArg ov_r (rg_0_0 I)) ?_
  refine ov_blk (ls2 := [(0, ov_r 0), (1, ov_l a), (3, ov_l b), (5, ov_l c)]) (st2 := [ov_l a, ov_r 1]) (pc2 := 5) b_21_4_1 rfl rfl ?_
  refine ov_cV (as := [ov_l a]) (st := []) (d2 := d - 1) d_21_5 lk_OF_101 rfl (Nat.le_of_ble_eq_true rfl) (c := 8) (zb_1 I) (zs_1 I) ⟨by decide, rfl⟩ (by omega) (c_Tape_append_1 (d - 1) (by omega) U I a) ?_
  rintro _ z2 h3 ⟨rfl, I4, f1⟩
  show ov_R u d ov_m21 8 [(0, ov_r 0), (1, ov_l a), (3, ov_l b), (5, ov_l c)] [] z2 h3 (P_OF_feed_0 z h a b c)
  have f5 : (h 1 1) ≤ (h3 1 1) ∧ (h3 36 7) = (h 36 7) ∧ (h3 90 2) = (h 90 2) ∧ (h3 0 10) = (h 0 10) ∧ (h3 0 11) = (h 0 11) ∧ (h3 0 12) = (h 0 12) ∧ (h3 0 13) = (h 0 13) ∧ (h3 3 1) = (h 3 1) ∧ (h3 36 8) = (h 36 8) ∧ (h3 46 3) = (h 46 3) ∧ (h3 46 4) = (h 46 4) ∧ (h3 49 4) = (h 49 4) ∧ (h3 49 5) = (h 49 5) := f1
  clear f1
  refine ov_blk (ls2 := [(0, ov_r 0), (1, ov_l a), (3, ov_l b), (5, ov_l c)]) (st2 := [ov_r 0]) (pc2 := 9) b_21_8_1 rfl rfl ?_
  refine ov_getf (v := ov_r 1) d_21_9 fl_OF_12 (zb_0 I4) (zs_0 I4) (congrArg ov_r (rg_0_0 I4)) ?_
  refine ov_blk (ls2 := [(0, ov_r 0), (1, ov_l a), (3, ov_l b), (5, ov_l c)]) (st2 := [ov_l b, ov_r 1]) (pc2 := 13) b_21_12_1 rfl rfl ?_
  refine ov_cV (as := [ov_l b]) (st := []) (d2 := d - 1) d_21_13 lk_OF_101 rfl (Nat.le_of_ble_eq_true rfl) (c := 8) (zb_1 I4) (zs_1 I4) ⟨by decide, rfl⟩ (by omega) (c_Tape_append_1 (d - 1) (by omega) U I4 b) ?_
  rintro _ z7 h8 ⟨rfl, I9, f6⟩
  show ov_R u d ov_m21 16 [(0, ov_r 0), (1, ov_l a), (3, ov_l b), (5, ov_l c)] [] z7 h8 (P_OF_feed_0 z h a b c)
  have f10 : (h3 1 1) ≤ (h8 1 1) ∧ (h8 36 7) = (h3 36 7) ∧ (h8 90 2) = (h3 90 2) ∧ (h8 0 10) = (h3 0 10) ∧ (h8 0 11) = (h3 0 11) ∧ (h8 0 12) = (h3 0 12) ∧ (h8 0 13) = (h3 0 13) ∧ (h8 3 1) = (h3 3 1) ∧ (h8 36 8) = (h3 36 8) ∧ (h8 46 3) = (h3 46 3) ∧ (h8 46 4) = (h3 46 4) ∧ (h8 49 4) = (h3 49 4) ∧ (h8 49 5) = (h3 49 5) := f6
  clear f6
  refine ov_blk (ls2 := [(0, ov_r 0), (1, ov_l a), (3, ov_l b), (5, ov_l c)]) (st2 := [ov_r 0]) (pc2 := 17) b_21_16_1 rfl rfl ?_
  refine ov_getf (v := ov_r 1) d_21_17 fl_OF_12 (zb_0 I9) (zs_0 I9) (congrArg ov_r (rg_0_0 I9)) ?_
  refine ov_blk (ls2 := [(0, ov_r 0), (1, ov_l a), (3, ov_l b), (5, ov_l c)]) (st2 := [ov_l c, ov_r 1]) (pc2 := 22) b_21_20_1 rfl rfl ?_
  refine ov_cV (as := [ov_l c]) (st := []) (d2 := d - 1) d_21_22 lk_OF_101 rfl (Nat.le_of_ble_eq_true rfl) (c := 8) (zb_1 I9) (zs_1 I9) ⟨by decide, rfl⟩ (by omega) (c_Tape_append_1 (d - 1) (by omega) U I9 c) ?_
  rintro _ z12 h13 ⟨rfl, I14, f11⟩
  show ov_R u d ov_m21 25 [(0, ov_r 0), (1, ov_l a), (3, ov_l b), (5, ov_l c)] [] z12 h13 (P_OF_feed_0 z h a b c)
  have f15 : (h8 1 1) ≤ (h13 1 1) ∧ (h13 36 7) = (h8 36 7) ∧ (h13 90 2) = (h8 90 2) ∧ (h13 0 10) = (h8 0 10) ∧ (h13 0 11) = (h8 0 11) ∧ (h13 0 12) = (h8 0 12) ∧ (h13 0 13) = (h8 0 13) ∧ (h13 3 1) = (h8 3 1) ∧ (h13 36 8) = (h8 36 8) ∧ (h13 46 3) = (h8 46 3) ∧ (h13 46 4) = (h8 46 4) ∧ (h13 49 4) = (h8 49 4) ∧ (h13 49 5) = (h8 49 5) := f11
  clear f11
  refine ov_blk (ls2 := [(0, ov_r 0), (1, ov_l a), (3, ov_l b), (5, ov_l c)]) (st2 := [ov_r 0]) (pc2 := 26) b_21_25_1 rfl rfl ?_
  refine ov_getf (v := ov_r 1) d_21_26 fl_OF_12 (zb_0 I14) (zs_0 I14) (congrArg ov_r (rg_0_0 I14)) ?_
  refine ov_getf (v := ov_i (h13 1 1)) d_21_29 fl_OF_105 (zb_1 I14) (zs_1 I14) rfl ?_
  have g16 := rg_1_1 I14
  exact ov_reti (st := []) d_21_32 rfl ⟨_, rfl, I14, (by show (h13 1 1) = (h13 1 1) ∧ (h13 36 7) = (h 36 7) ∧ (h13 90 2) = (h 90 2) ∧ (h13 0 10) = (h 0 10) ∧ (h13 0 11) = (h 0 11) ∧ (h13 0 12) = (h 0 12) ∧ (h13 0 13) = (h 0 13) ∧ (h13 3 1) = (h 3 1) ∧ (h13 36 8) = (h 36 8) ∧ (h13 46 3) = (h 46 3) ∧ (h13 46 4) = (h 46 4) ∧ (h13 49 4) = (h 49 4) ∧ (h13 49 5) = (h 49 5); omega)⟩
abbrev P_OF_town_0 (z : ov_Z) (h : ov_H)  : Option ov_V → ov_Z → ov_H → Prop := fun r0 z' h' => ∃ r : Int, r0 = some (ov_i r) ∧ ov_I z' h' ∧ (h' 1 1 = 0 ∧ (h' 36 7 = 1 → ¬ h' 36 8 = -1) ∧ h' 90 2 = h 90 2 ∧ h' 0 12 = h 0 12 ∧ h' 0 13 = h 0 13 ∧ h' 46 3 = h 46 3 ∧ h' 46 4 = h 46 4 ∧ h' 49 4 = h 49 4 ∧ h' 49 5 = h 49 5)
set_option maxHeartbeats 4000000 in
theorem c_OF_town_0 {u : ov_U} {z : ov_Z} {h : ov_H} (d : Nat) (hd : 50 ≤ d) (U : ov_cap u) (I : ov_I z h) (p0 : h 36 7 = 1 → ¬ h 36 8 = -1) : ov_T u d ov_m23 [ov_r 0] z h (P_OF_town_0 z h) := by
  refine ov_en rfl (Nat.le_of_ble_eq_true rfl) ?_
  show ov_R u d ov_m23 0 [(0, ov_r 0)] [] z h (P_OF_town_0 z h)
  refine ov_blk (ls2 := [(0, ov_r 0)]) (st2 := [ov_r 0]) (pc2 := 1) b_23_0_1 rfl rfl ?_
  refine ov_getf (v := ov_r 3) d_23_1 fl_OF_21 (zb_0 I) (zs_0 I) (congrArg ov_r (rg_0_1 I)) ?_
  refine ov_blk (ls2 := [(0, ov_r 0)]) (st2 := [ov_r 0, ov_r 3]) (pc2 := 5) b_23_4_1 rfl rfl ?_
  rcases rg_0_11 I with e1 | e1
  · skip
    refine ov_getf (v := ov_r 58) d_23_5 fl_OF_82 (zb_0 I) (zs_0 I) (congrArg ov_r e1) ?_
    refine ov_cV (as := [ov_r 58]) (st := []) (d2 := d - 1) d_23_8 lk_OF_109 rfl (Nat.le_of_ble_eq_true rfl) (c := 6) (zb_3 I) (zs_3 I) ⟨by decide, rfl⟩ (by omega) (c_Reader_readTown_3_58 (d - 1) (by omega) U I) ?_
    rintro _ z4 h5 ⟨v3, rfl, I6, f2⟩
    show ov_R u d ov_m23 11 [(0, ov_r 0)] [ov_i v3] z4 h5 (P_OF_town_0 z h)
    have f7 : (h5 1 1) = 0 ∧ (h5 36 7) = (h 36 7) ∧ (h5 90 2) = (h 90 2) ∧ (h5 0 10) = (h 0 10) ∧ (h5 0 11) = (h 0 11) ∧ (h5 0 12) = (h 0 12) ∧ (h5 0 13) = (h 0 13) ∧ (h5 36 8) = (h 36 8) ∧ (h5 46 3) = (h 46 3) ∧ (h5 46 4) = (h 46 4) ∧ (h5 49 4) = (h 49 4) ∧ (h5 49 5) = (h 49 5) := f2
    clear f2
    have e8 : h5 0 11 = 58 := by omega
    refine ov_blk (ls2 := [(0, ov_r 0), (1, ov_i v3)]) (st2 := [ov_i v3]) (pc2 := 13) b_23_11_2 rfl rfl ?_
    refine ov_ifne (tgt := 63) d_23_13 (by decide) (by omega) (fun c9 => ?_) (fun c9 => ?_)
    · skip
      refine ov_blk (ls2 := [(0, ov_r 0), (1, ov_i v3)]) (st2 := [ov_i v3]) (pc2 := 64) b_23_63_1 rfl rfl ?_
      exact ov_reti (st := []) d_23_64 rfl ⟨_, rfl, I6, (by show (h5 1 1) = 0 ∧ ((h5 36 7) = 1 → ¬ (h5 36 8) = -1) ∧ (h5 90 2) = (h 90 2) ∧ (h5 0 12) = (h 0 12) ∧ (h5 0 13) = (h 0 13) ∧ (h5 46 3) = (h 46 3) ∧ (h5 46 4) = (h 46 4) ∧ (h5 49 4) = (h 49 4) ∧ (h5 49 5) = (h 49 5); omega)⟩
    · skip
      refine ov_blk (ls2 := [(0, ov_r 0), (1, ov_i v3)]) (st2 := [ov_r 0]) (pc2 := 17) b_23_16_1 rfl rfl ?_
      rcases rg_0_10 I6 with e10 | e10
      · skip
        refine ov_getf (v := ov_r 58) d_23_17 fl_OF_78 (zb_0 I6) (zs_0 I6) (congrArg ov_r e10) ?_
        refine ov_blk (ls2 := [(0, ov_r 0), (1, ov_i v3), (2, ov_r 58)]) (st2 := [ov_r 0, ov_r 0]) (pc2 := 23) b_23_20_3 rfl rfl ?_
        refine ov_getf (v := ov_r 58) d_23_23 fl_OF_82 (zb_0 I6) (zs_0 I6) (congrArg ov_r e8) ?_
        refine ov_putf (x := 58) d_23_26 fl_OF_78 (zb_0 I6) (zs_0 I6) rfl nk_2 rfl ?_
        have I11 := up_0_10 (x := 58) I6 (by omega)
        refine ov_blk (ls2 := [(0, ov_r 0), (1, ov_i v3), (2, ov_r 58)]) (st2 := [ov_r 58, ov_r 0]) (pc2 := 31) b_23_29_2 rfl rfl ?_
        refine ov_putf (x := 58) d_23_31 fl_OF_82 (zb_0 I11) (zs_0 I11) rfl nk_2 rfl ?_
        have I12 := up_0_11 (x := 58) I11 (by omega)
        refine ov_blk (ls2 := [(0, ov_r 0), (1, ov_i v3), (2, ov_r 58)]) (st2 := [ov_r 0]) (pc2 := 35) b_23_34_1 rfl rfl ?_
        rcases rg_0_12 I6 with e13 | e13
        · skip
          refine ov_getf (v := ov_r 82) d_23_35 fl_OF_88 (zb_0 I12) (zs_0 I12) (congrArg ov_r e13) ?_
          refine ov_cV (as := []) (st := []) (d2 := d - 1) d_23_38 lk_OF_113 rfl (Nat.le_of_ble_eq_true rfl) (c := 10) (zb_82 I12) (zs_82 I12) ⟨by decide, rfl⟩ (by omega) (c_Walk_clear_82 (d - 1) (by omega) U I12) ?_
          rintro _ z15 h16 ⟨rfl, I17, f14⟩
          show ov_R u d ov_m23 41 [(0, ov_r 0), (1, ov_i v3), (2, ov_r 58)] [] z15 h16 (P_OF_town_0 z h)
          have f18 : (h16 36 7) = (h5 36 7) ∧ (h16 1 1) = (h5 1 1) ∧ (h16 90 2) = (h5 90 2) ∧ (h16 0 10) = 58 ∧ (h16 0 11) = 58 ∧ (h16 0 12) = (h5 0 12) ∧ (h16 0 13) = (h5 0 13) ∧ (h16 3 1) = (h5 3 1) ∧ (h16 36 8) = (h5 36 8) ∧ (h16 46 3) = (h5 46 3) ∧ (h16 46 4) = (h5 46 4) ∧ (h16 49 4) = (h5 49 4) ∧ (h16 49 5) = (h5 49 5) := f14
          clear f14
          have e19 : h16 0 10 = 58 := by omega
          have e20 : h16 0 11 = 58 := by omega
          have e21 : h16 0 12 = 82 := by omega
          refine ov_blk (ls2 := [(0, ov_r 0), (1, ov_i v3), (2, ov_r 58)]) (st2 := [ov_r 0]) (pc2 := 42) b_23_41_1 rfl rfl ?_
          refine ov_getf (v := ov_r 4) d_23_42 fl_OF_28 (zb_0 I17) (zs_0 I17) (congrArg ov_r (rg_0_2 I17)) ?_
          refine ov_cV (as := []) (st := []) (d2 := d - 1) d_23_45 lk_OF_114 rfl (Nat.le_of_ble_eq_true rfl) (c := 7) (zb_4 I17) (zs_4 I17) ⟨by decide, rfl⟩ (by omega) (c_State_clear_4 (d - 1) (by omega) U I17) ?_
          rintro _ z23 h24 ⟨rfl, I25, f22⟩
          show ov_R u d ov_m23 48 [(0, ov_r 0), (1, ov_i v3), (2, ov_r 58)] [] z23 h24 (P_OF_town_0 z h)
          have f26 : (h24 36 7) = (h16 36 7) ∧ (h24 1 1) = (h16 1 1) ∧ (h24 90 2) = (h16 90 2) ∧ (h24 0 10) = (h16 0 10) ∧ (h24 0 11) = (h16 0 11) ∧ (h24 0 12) = (h16 0 12) ∧ (h24 0 13) = (h16 0 13) ∧ (h24 3 1) = (h16 3 1) ∧ (h24 36 8) = (h16 36 8) ∧ (h24 46 3) = (h16 46 3) ∧ (h24 46 4) = (h16 46 4) ∧ (h24 49 4) = (h16 49 4) ∧ (h24 49 5) = (h16 49 5) := f22
          clear f22
          have e27 : h24 0 10 = 58 := by omega
          have e28 : h24 0 11 = 58 := by omega
          have e29 : h24 0 12 = 82 := by omega
          refine ov_blk (ls2 := [(0, ov_r 0), (1, ov_i v3), (2, ov_r 58)]) (st2 := [ov_r 0]) (pc2 := 49) b_23_48_1 rfl rfl ?_
          refine ov_getf (v := ov_r 9) d_23_49 fl_OF_35 (zb_0 I25) (zs_0 I25) (congrArg ov_r (rg_0_3 I25)) ?_
          refine ov_cV (as := []) (st := []) (d2 := d - 1) d_23_52 lk_OF_115 rfl (Nat.le_of_ble_eq_true rfl) (c := 3) (zb_9 I25) (zs_9 I25) ⟨by decide, rfl⟩ (by omega) (c_History_clear_9 (d - 1) (by omega) U I25) ?_
          rintro _ z31 h32 ⟨rfl, I33, f30⟩
          show ov_R u d ov_m23 55 [(0, ov_r 0), (1, ov_i v3), (2, ov_r 58)] [] z31 h32 (P_OF_town_0 z h)
          have f34 : (h32 36 7) = (h24 36 7) ∧ (h32 1 1) = (h24 1 1) ∧ (h32 90 2) = (h24 90 2) ∧ (h32 0 10) = (h24 0 10) ∧ (h32 0 11) = (h24 0 11) ∧ (h32 0 12) = (h24 0 12) ∧ (h32 0 13) = (h24 0 13) ∧ (h32 3 1) = (h24 3 1) ∧ (h32 36 8) = (h24 36 8) ∧ (h32 46 3) = (h24 46 3) ∧ (h32 46 4) = (h24 46 4) ∧ (h32 49 4) = (h24 49 4) ∧ (h32 49 5) = (h24 49 5) := f30
          clear f30
          have e35 : h32 0 10 = 58 := by omega
          have e36 : h32 0 11 = 58 := by omega
          have e37 : h32 0 12 = 82 := by omega
          refine ov_blk (ls2 := [(0, ov_r 0), (1, ov_i v3), (2, ov_r 58)]) (st2 := [ov_r 0]) (pc2 := 56) b_23_55_1 rfl rfl ?_
          refine ov_cV (as := []) (st := []) (d2 := d - 1) d_23_56 lk_OF_116 rfl (Nat.le_of_ble_eq_true rfl) (c := 0) (zb_0 I33) (zs_0 I33) ⟨by decide, rfl⟩ (by omega) (c_OF_forgetMarks_0 (d - 1) (by omega) U I33) ?_
          rintro _ z39 h40 ⟨rfl, I41, f38⟩
          show ov_R u d ov_m23 59 [(0, ov_r 0), (1, ov_i v3), (2, ov_r 58)] [] z39 h40 (P_OF_town_0 z h)
          have f42 : (h40 36 7) = (h32 36 7) ∧ (h40 1 1) = (h32 1 1) ∧ (h40 90 2) = (h32 90 2) ∧ (h40 0 10) = (h32 0 10) ∧ (h40 0 11) = (h32 0 11) ∧ (h40 0 12) = (h32 0 12) ∧ (h40 0 13) = (h32 0 13) ∧ (h40 3 1) = (h32 3 1) ∧ (h40 36 8) = (h32 36 8) ∧ (h40 46 3) = (h32 46 3) ∧ (h40 46 4) = (h32 46 4) ∧ (h40 49 4) = (h32 49 4) ∧ (h40 49 5) = (h32 49 5) := f38
          clear f38
          have e43 : h40 0 10 = 58 := by omega
          have e44 : h40 0 11 = 58 := by omega
          have e45 : h40 0 12 = 82 := by omega
          refine ov_blk (ls2 := [(0, ov_r 0), (1, ov_i v3), (2, ov_r 58)]) (st2 := [ov_r 0]) (pc2 := 60) b_23_59_1 rfl rfl ?_
          refine ov_cV (as := []) (st := []) (d2 := d - 1) d_23_60 lk_OF_119 rfl (Nat.le_of_ble_eq_true rfl) (c := 0) (zb_0 I41) (zs_0 I41) ⟨by decide, rfl⟩ (by omega) (c_OF_forgetReckonings_0 (d - 1) (by omega) U I41) ?_
          rintro _ z47 h48 ⟨rfl, I49, f46⟩
          show ov_R u d ov_m23 63 [(0, ov_r 0), (1, ov_i v3), (2, ov_r 58)] [] z47 h48 (P_OF_town_0 z h)
          have f50 : (h48 36 7) = 0 ∧ (h48 1 1) = (h40 1 1) ∧ (h48 90 2) = (h40 90 2) ∧ (h48 0 10) = (h40 0 10) ∧ (h48 0 11) = (h40 0 11) ∧ (h48 0 12) = (h40 0 12) ∧ (h48 0 13) = (h40 0 13) ∧ (h48 3 1) = (h40 3 1) ∧ (h48 36 8) = (h40 36 8) ∧ (h48 46 3) = (h40 46 3) ∧ (h48 46 4) = (h40 46 4) ∧ (h48 49 4) = (h40 49 4) ∧ (h48 49 5) = (h40 49 5) := f46
          clear f46
          have e51 : h48 0 10 = 58 := by omega
          have e52 : h48 0 11 = 58 := by omega
          have e53 : h48 0 12 = 82 := by omega
          refine ov_blk (ls2 := [(0, ov_r 0), (1, ov_i v3), (2, ov_r 58)]) (st2 := [ov_i v3]) (pc2 := 64) b_23_63_1 rfl rfl ?_
          exact ov_reti (st := []) d_23_64 rfl ⟨_, rfl, I49, (by show (h48 1 1) = 0 ∧ ((h48 36 7) = 1 → ¬ (h48 36 8) = -1) ∧ (h48 90 2) = (h 90 2) ∧ (h48 0 12) = (h 0 12) ∧ (h48 0 13) = (h 0 13) ∧ (h48 46 3) = (h 46 3) ∧ (h48 46 4) = (h 46 4) ∧ (h48 49 4) = (h 49 4) ∧ (h48 49 5) = (h 49 5); omega)⟩
        · skip
          refine ov_getf (v := ov_r 86) d_23_35 fl_OF_88 (zb_0 I12) (zs_0 I12) (congrArg ov_r e13) ?_
          refine ov_cV (as := []) (st := []) (d2 := d - 1) d_23_38 lk_OF_113 rfl (Nat.le_of_ble_eq_true rfl) (c := 10) (zb_86 I12) (zs_86 I12) ⟨by decide, rfl⟩ (by omega) (c_Walk_clear_86 (d - 1) (by omega) U I12) ?_
          rintro _ z55 h56 ⟨rfl, I57, f54⟩
          show ov_R u d ov_m23 41 [(0, ov_r 0), (1, ov_i v3), (2, ov_r 58)] [] z55 h56 (P_OF_town_0 z h)
          have f58 : (h56 36 7) = (h5 36 7) ∧ (h56 1 1) = (h5 1 1) ∧ (h56 90 2) = (h5 90 2) ∧ (h56 0 10) = 58 ∧ (h56 0 11) = 58 ∧ (h56 0 12) = (h5 0 12) ∧ (h56 0 13) = (h5 0 13) ∧ (h56 3 1) = (h5 3 1) ∧ (h56 36 8) = (h5 36 8) ∧ (h56 46 3) = (h5 46 3) ∧ (h56 46 4) = (h5 46 4) ∧ (h56 49 4) = (h5 49 4) ∧ (h56 49 5) = (h5 49 5) := f54
          clear f54
          have e59 : h56 0 10 = 58 := by omega
          have e60 : h56 0 11 = 58 := by omega
          have e61 : h56 0 12 = 86 := by omega
          refine ov_blk (ls2 := [(0, ov_r 0), (1, ov_i v3), (2, ov_r 58)]) (st2 := [ov_r 0]) (pc2 := 42) b_23_41_1 rfl rfl ?_
          refine ov_getf (v := ov_r 4) d_23_42 fl_OF_28 (zb_0 I57) (zs_0 I57) (congrArg ov_r (rg_0_2 I57)) ?_
          refine ov_cV (as := []) (st := []) (d2 := d - 1) d_23_45 lk_OF_114 rfl (Nat.le_of_ble_eq_true rfl) (c := 7) (zb_4 I57) (zs_4 I57) ⟨by decide, rfl⟩ (by omega) (c_State_clear_4 (d - 1) (by omega) U I57) ?_
          rintro _ z63 h64 ⟨rfl, I65, f62⟩
          show ov_R u d ov_m23 48 [(0, ov_r 0), (1, ov_i v3), (2, ov_r 58)] [] z63 h64 (P_OF_town_0 z h)
          have f66 : (h64 36 7) = (h56 36 7) ∧ (h64 1 1) = (h56 1 1) ∧ (h64 90 2) = (h56 90 2) ∧ (h64 0 10) = (h56 0 10) ∧ (h64 0 11) = (h56 0 11) ∧ (h64 0 12) = (h56 0 12) ∧ (h64 0 13) = (h56 0 13) ∧ (h64 3 1) = (h56 3 1) ∧ (h64 36 8) = (h56 36 8) ∧ (h64 46 3) = (h56 46 3) ∧ (h64 46 4) = (h56 46 4) ∧ (h64 49 4) = (h56 49 4) ∧ (h64 49 5) = (h56 49 5) := f62
          clear f62
          have e67 : h64 0 10 = 58 := by omega
          have e68 : h64 0 11 = 58 := by omega
          have e69 : h64 0 12 = 86 := by omega
          refine ov_blk (ls2 := [(0, ov_r 0), (1, ov_i v3), (2, ov_r 58)]) (st2 := [ov_r 0]) (pc2 := 49) b_23_48_1 rfl rfl ?_
          refine ov_getf (v := ov_r 9) d_23_49 fl_OF_35 (zb_0 I65) (zs_0 I65) (congrArg ov_r (rg_0_3 I65)) ?_
          refine ov_cV (as := []) (st := []) (d2 := d - 1) d_23_52 lk_OF_115 rfl (Nat.le_of_ble_eq_true rfl) (c := 3) (zb_9 I65) (zs_9 I65) ⟨by decide, rfl⟩ (by omega) (c_History_clear_9 (d - 1) (by omega) U I65) ?_
          rintro _ z71 h72 ⟨rfl, I73, f70⟩
          show ov_R u d ov_m23 55 [(0, ov_r 0), (1, ov_i v3), (2, ov_r 58)] [] z71 h72 (P_OF_town_0 z h)
          have f74 : (h72 36 7) = (h64 36 7) ∧ (h72 1 1) = (h64 1 1) ∧ (h72 90 2) = (h64 90 2) ∧ (h72 0 10) = (h64 0 10) ∧ (h72 0 11) = (h64 0 11) ∧ (h72 0 12) = (h64 0 12) ∧ (h72 0 13) = (h64 0 13) ∧ (h72 3 1) = (h64 3 1) ∧ (h72 36 8) = (h64 36 8) ∧ (h72 46 3) = (h64 46 3) ∧ (h72 46 4) = (h64 46 4) ∧ (h72 49 4) = (h64 49 4) ∧ (h72 49 5) = (h64 49 5) := f70
          clear f70
          have e75 : h72 0 10 = 58 := by omega
          have e76 : h72 0 11 = 58 := by omega
          have e77 : h72 0 12 = 86 := by omega
          refine ov_blk (ls2 := [(0, ov_r 0), (1, ov_i v3), (2, ov_r 58)]) (st2 := [ov_r 0]) (pc2 := 56) b_23_55_1 rfl rfl ?_
          refine ov_cV (as := []) (st := []) (d2 := d - 1) d_23_56 lk_OF_116 rfl (Nat.le_of_ble_eq_true rfl) (c := 0) (zb_0 I73) (zs_0 I73) ⟨by decide, rfl⟩ (by omega) (c_OF_forgetMarks_0 (d - 1) (by omega) U I73) ?_
          rintro _ z79 h80 ⟨rfl, I81, f78⟩
          show ov_R u d ov_m23 59 [(0, ov_r 0), (1, ov_i v3), (2, ov_r 58)] [] z79 h80 (P_OF_town_0 z h)
          have f82 : (h80 36 7) = (h72 36 7) ∧ (h80 1 1) = (h72 1 1) ∧ (h80 90 2) = (h72 90 2) ∧ (h80 0 10) = (h72 0 10) ∧ (h80 0 11) = (h72 0 11) ∧ (h80 0 12) = (h72 0 12) ∧ (h80 0 13) = (h72 0 13) ∧ (h80 3 1) = (h72 3 1) ∧ (h80 36 8) = (h72 36 8) ∧ (h80 46 3) = (h72 46 3) ∧ (h80 46 4) = (h72 46 4) ∧ (h80 49 4) = (h72 49 4) ∧ (h80 49 5) = (h72 49 5) := f78
          clear f78
          have e83 : h80 0 10 = 58 := by omega
          have e84 : h80 0 11 = 58 := by omega
          have e85 : h80 0 12 = 86 := by omega
          refine ov_blk (ls2 := [(0, ov_r 0), (1, ov_i v3), (2, ov_r 58)]) (st2 := [ov_r 0]) (pc2 := 60) b_23_59_1 rfl rfl ?_
          refine ov_cV (as := []) (st := []) (d2 := d - 1) d_23_60 lk_OF_119 rfl (Nat.le_of_ble_eq_true rfl) (c := 0) (zb_0 I81) (zs_0 I81) ⟨by decide, rfl⟩ (by omega) (c_OF_forgetReckonings_0 (d - 1) (by omega) U I81) ?_
          rintro _ z87 h88 ⟨rfl, I89, f86⟩
          show ov_R u d ov_m23 63 [(0, ov_r 0), (1, ov_i v3), (2, ov_r 58)] [] z87 h88 (P_OF_town_0 z h)
          have f90 : (h88 36 7) = 0 ∧ (h88 1 1) = (h80 1 1) ∧ (h88 90 2) = (h80 90 2) ∧ (h88 0 10) = (h80 0 10) ∧ (h88 0 11) = (h80 0 11) ∧ (h88 0 12) = (h80 0 12) ∧ (h88 0 13) = (h80 0 13) ∧ (h88 3 1) = (h80 3 1) ∧ (h88 36 8) = (h80 36 8) ∧ (h88 46 3) = (h80 46 3) ∧ (h88 46 4) = (h80 46 4) ∧ (h88 49 4) = (h80 49 4) ∧ (h88 49 5) = (h80 49 5) := f86
          clear f86
          have e91 : h88 0 10 = 58 := by omega
          have e92 : h88 0 11 = 58 := by omega
          have e93 : h88 0 12 = 86 := by omega
          refine ov_blk (ls2 := [(0, ov_r 0), (1, ov_i v3), (2, ov_r 58)]) (st2 := [ov_i v3]) (pc2 := 64) b_23_63_1 rfl rfl ?_
          exact ov_reti (st := []) d_23_64 rfl ⟨_, rfl, I89, (by show (h88 1 1) = 0 ∧ ((h88 36 7) = 1 → ¬ (h88 36 8) = -1) ∧ (h88 90 2) = (h 90 2) ∧ (h88 0 12) = (h 0 12) ∧ (h88 0 13) = (h 0 13) ∧ (h88 46 3) = (h 46 3) ∧ (h88 46 4) = (h 46 4) ∧ (h88 49 4) = (h 49 4) ∧ (h88 49 5) = (h 49 5); omega)⟩
      · skip
        refine ov_getf (v := ov_r 70) d_23_17 fl_OF_78 (zb_0 I6) (zs_0 I6) (congrArg ov_r e10) ?_
        refine ov_blk (ls2 := [(0, ov_r 0), (1, ov_i v3), (2, ov_r 70)]) (st2 := [ov_r 0, ov_r 0]) (pc2 := 23) b_23_20_3 rfl rfl ?_
        refine ov_getf (v := ov_r 58) d_23_23 fl_OF_82 (zb_0 I6) (zs_0 I6) (congrArg ov_r e8) ?_
        refine ov_putf (x := 58) d_23_26 fl_OF_78 (zb_0 I6) (zs_0 I6) rfl nk_2 rfl ?_
        have I94 := up_0_10 (x := 58) I6 (by omega)
        refine ov_blk (ls2 := [(0, ov_r 0), (1, ov_i v3), (2, ov_r 70)]) (st2 := [ov_r 70, ov_r 0]) (pc2 := 31) b_23_29_2 rfl rfl ?_
        refine ov_putf (x := 70) d_23_31 fl_OF_82 (zb_0 I94) (zs_0 I94) rfl nk_2 rfl ?_
        have I95 := up_0_11 (x := 70) I94 (by omega)
        refine ov_blk (ls2 := [(0, ov_r 0), (1, ov_i v3), (2, ov_r 70)]) (st2 := [ov_r 0]) (pc2 := 35) b_23_34_1 rfl rfl ?_
        rcases rg_0_12 I6 with e96 | e96
        · skip
          refine ov_getf (v := ov_r 82) d_23_35 fl_OF_88 (zb_0 I95) (zs_0 I95) (congrArg ov_r e96) ?_
          refine ov_cV (as := []) (st := []) (d2 := d - 1) d_23_38 lk_OF_113 rfl (Nat.le_of_ble_eq_true rfl) (c := 10) (zb_82 I95) (zs_82 I95) ⟨by decide, rfl⟩ (by omega) (c_Walk_clear_82 (d - 1) (by omega) U I95) ?_
          rintro _ z98 h99 ⟨rfl, I100, f97⟩
          show ov_R u d ov_m23 41 [(0, ov_r 0), (1, ov_i v3), (2, ov_r 70)] [] z98 h99 (P_OF_town_0 z h)
          have f101 : (h99 36 7) = (h5 36 7) ∧ (h99 1 1) = (h5 1 1) ∧ (h99 90 2) = (h5 90 2) ∧ (h99 0 10) = 58 ∧ (h99 0 11) = 70 ∧ (h99 0 12) = (h5 0 12) ∧ (h99 0 13) = (h5 0 13) ∧ (h99 3 1) = (h5 3 1) ∧ (h99 36 8) = (h5 36 8) ∧ (h99 46 3) = (h5 46 3) ∧ (h99 46 4) = (h5 46 4) ∧ (h99 49 4) = (h5 49 4) ∧ (h99 49 5) = (h5 49 5) := f97
          clear f97
          have e102 : h99 0 10 = 58 := by omega
          have e103 : h99 0 11 = 70 := by omega
          have e104 : h99 0 12 = 82 := by omega
          refine ov_blk (ls2 := [(0, ov_r 0), (1, ov_i v3), (2, ov_r 70)]) (st2 := [ov_r 0]) (pc2 := 42) b_23_41_1 rfl rfl ?_
          refine ov_getf (v := ov_r 4) d_23_42 fl_OF_28 (zb_0 I100) (zs_0 I100) (congrArg ov_r (rg_0_2 I100)) ?_
          refine ov_cV (as := []) (st := []) (d2 := d - 1) d_23_45 lk_OF_114 rfl (Nat.le_of_ble_eq_true rfl) (c := 7) (zb_4 I100) (zs_4 I100) ⟨by decide, rfl⟩ (by omega) (c_State_clear_4 (d - 1) (by omega) U I100) ?_
          rintro _ z106 h107 ⟨rfl, I108, f105⟩
          show ov_R u d ov_m23 48 [(0, ov_r 0), (1, ov_i v3), (2, ov_r 70)] [] z106 h107 (P_OF_town_0 z h)
          have f109 : (h107 36 7) = (h99 36 7) ∧ (h107 1 1) = (h99 1 1) ∧ (h107 90 2) = (h99 90 2) ∧ (h107 0 10) = (h99 0 10) ∧ (h107 0 11) = (h99 0 11) ∧ (h107 0 12) = (h99 0 12) ∧ (h107 0 13) = (h99 0 13) ∧ (h107 3 1) = (h99 3 1) ∧ (h107 36 8) = (h99 36 8) ∧ (h107 46 3) = (h99 46 3) ∧ (h107 46 4) = (h99 46 4) ∧ (h107 49 4) = (h99 49 4) ∧ (h107 49 5) = (h99 49 5) := f105
          clear f105
          have e110 : h107 0 10 = 58 := by omega
          have e111 : h107 0 11 = 70 := by omega
          have e112 : h107 0 12 = 82 := by omega
          refine ov_blk (ls2 := [(0, ov_r 0), (1, ov_i v3), (2, ov_r 70)]) (st2 := [ov_r 0]) (pc2 := 49) b_23_48_1 rfl rfl ?_
          refine ov_getf (v := ov_r 9) d_23_49 fl_OF_35 (zb_0 I108) (zs_0 I108) (congrArg ov_r (rg_0_3 I108)) ?_
          refine ov_cV (as := []) (st := []) (d2 := d - 1) d_23_52 lk_OF_115 rfl (Nat.le_of_ble_eq_true rfl) (c := 3) (zb_9 I108) (zs_9 I108) ⟨by decide, rfl⟩ (by omega) (c_History_clear_9 (d - 1) (by omega) U I108) ?_
          rintro _ z114 h115 ⟨rfl, I116, f113⟩
          show ov_R u d ov_m23 55 [(0, ov_r 0), (1, ov_i v3), (2, ov_r 70)] [] z114 h115 (P_OF_town_0 z h)
          have f117 : (h115 36 7) = (h107 36 7) ∧ (h115 1 1) = (h107 1 1) ∧ (h115 90 2) = (h107 90 2) ∧ (h115 0 10) = (h107 0 10) ∧ (h115 0 11) = (h107 0 11) ∧ (h115 0 12) = (h107 0 12) ∧ (h115 0 13) = (h107 0 13) ∧ (h115 3 1) = (h107 3 1) ∧ (h115 36 8) = (h107 36 8) ∧ (h115 46 3) = (h107 46 3) ∧ (h115 46 4) = (h107 46 4) ∧ (h115 49 4) = (h107 49 4) ∧ (h115 49 5) = (h107 49 5) := f113
          clear f113
          have e118 : h115 0 10 = 58 := by omega
          have e119 : h115 0 11 = 70 := by omega
          have e120 : h115 0 12 = 82 := by omega
          refine ov_blk (ls2 := [(0, ov_r 0), (1, ov_i v3), (2, ov_r 70)]) (st2 := [ov_r 0]) (pc2 := 56) b_23_55_1 rfl rfl ?_
          refine ov_cV (as := []) (st := []) (d2 := d - 1) d_23_56 lk_OF_116 rfl (Nat.le_of_ble_eq_true rfl) (c := 0) (zb_0 I116) (zs_0 I116) ⟨by decide, rfl⟩ (by omega) (c_OF_forgetMarks_0 (d - 1) (by omega) U I116) ?_
          rintro _ z122 h123 ⟨rfl, I124, f121⟩
          show ov_R u d ov_m23 59 [(0, ov_r 0), (1, ov_i v3), (2, ov_r 70)] [] z122 h123 (P_OF_town_0 z h)
          have f125 : (h123 36 7) = (h115 36 7) ∧ (h123 1 1) = (h115 1 1) ∧ (h123 90 2) = (h115 90 2) ∧ (h123 0 10) = (h115 0 10) ∧ (h123 0 11) = (h115 0 11) ∧ (h123 0 12) = (h115 0 12) ∧ (h123 0 13) = (h115 0 13) ∧ (h123 3 1) = (h115 3 1) ∧ (h123 36 8) = (h115 36 8) ∧ (h123 46 3) = (h115 46 3) ∧ (h123 46 4) = (h115 46 4) ∧ (h123 49 4) = (h115 49 4) ∧ (h123 49 5) = (h115 49 5) := f121
          clear f121
          have e126 : h123 0 10 = 58 := by omega
          have e127 : h123 0 11 = 70 := by omega
          have e128 : h123 0 12 = 82 := by omega
          refine ov_blk (ls2 := [(0, ov_r 0), (1, ov_i v3), (2, ov_r 70)]) (st2 := [ov_r 0]) (pc2 := 60) b_23_59_1 rfl rfl ?_
          refine ov_cV (as := []) (st := []) (d2 := d - 1) d_23_60 lk_OF_119 rfl (Nat.le_of_ble_eq_true rfl) (c := 0) (zb_0 I124) (zs_0 I124) ⟨by decide, rfl⟩ (by omega) (c_OF_forgetReckonings_0 (d - 1) (by omega) U I124) ?_
          rintro _ z130 h131 ⟨rfl, I132, f129⟩
          show ov_R u d ov_m23 63 [(0, ov_r 0), (1, ov_i v3), (2, ov_r 70)] [] z130 h131 (P_OF_town_0 z h)
          have f133 : (h131 36 7) = 0 ∧ (h131 1 1) = (h123 1 1) ∧ (h131 90 2) = (h123 90 2) ∧ (h131 0 10) = (h123 0 10) ∧ (h131 0 11) = (h123 0 11) ∧ (h131 0 12) = (h123 0 12) ∧ (h131 0 13) = (h123 0 13) ∧ (h131 3 1) = (h123 3 1) ∧ (h131 36 8) = (h123 36 8) ∧ (h131 46 3) = (h123 46 3) ∧ (h131 46 4) = (h123 46 4) ∧ (h131 49 4) = (h123 49 4) ∧ (h131 49 5) = (h123 49 5) := f129
          clear f129
          have e134 : h131 0 10 = 58 := by omega
          have e135 : h131 0 11 = 70 := by omega
          have e136 : h131 0 12 = 82 := by omega
          refine ov_blk (ls2 := [(0, ov_r 0), (1, ov_i v3), (2, ov_r 70)]) (st2 := [ov_i v3]) (pc2 := 64) b_23_63_1 rfl rfl ?_
          exact ov_reti (st := []) d_23_64 rfl ⟨_, rfl, I132, (by show (h131 1 1) = 0 ∧ ((h131 36 7) = 1 → ¬ (h131 36 8) = -1) ∧ (h131 90 2) = (h 90 2) ∧ (h131 0 12) = (h 0 12) ∧ (h131 0 13) = (h 0 13) ∧ (h131 46 3) = (h 46 3) ∧ (h131 46 4) = (h 46 4) ∧ (h131 49 4) = (h 49 4) ∧ (h131 49 5) = (h 49 5); omega)⟩
        · skip
          refine ov_getf (v := ov_r 86) d_23_35 fl_OF_88 (zb_0 I95) (zs_0 I95) (congrArg ov_r e96) ?_
          refine ov_cV (as := []) (st := []) (d2 := d - 1) d_23_38 lk_OF_113 rfl (Nat.le_of_ble_eq_true rfl) (c := 10) (zb_86 I95) (zs_86 I95) ⟨by decide, rfl⟩ (by omega) (c_Walk_clear_86 (d - 1) (by omega) U I95) ?_
          rintro _ z138 h139 ⟨rfl, I140, f137⟩
          show ov_R u d ov_m23 41 [(0, ov_r 0), (1, ov_i v3), (2, ov_r 70)] [] z138 h139 (P_OF_town_0 z h)
          have f141 : (h139 36 7) = (h5 36 7) ∧ (h139 1 1) = (h5 1 1) ∧ (h139 90 2) = (h5 90 2) ∧ (h139 0 10) = 58 ∧ (h139 0 11) = 70 ∧ (h139 0 12) = (h5 0 12) ∧ (h139 0 13) = (h5 0 13) ∧ (h139 3 1) = (h5 3 1) ∧ (h139 36 8) = (h5 36 8) ∧ (h139 46 3) = (h5 46 3) ∧ (h139 46 4) = (h5 46 4) ∧ (h139 49 4) = (h5 49 4) ∧ (h139 49 5) = (h5 49 5) := f137
          clear f137
          have e142 : h139 0 10 = 58 := by omega
          have e143 : h139 0 11 = 70 := by omega
          have e144 : h139 0 12 = 86 := by omega
          refine ov_blk (ls2 := [(0, ov_r 0), (1, ov_i v3), (2, ov_r 70)]) (st2 := [ov_r 0]) (pc2 := 42) b_23_41_1 rfl rfl ?_
          refine ov_getf (v := ov_r 4) d_23_42 fl_OF_28 (zb_0 I140) (zs_0 I140) (congrArg ov_r (rg_0_2 I140)) ?_
          refine ov_cV (as := []) (st := []) (d2 := d - 1) d_23_45 lk_OF_114 rfl (Nat.le_of_ble_eq_true rfl) (c := 7) (zb_4 I140) (zs_4 I140) ⟨by decide, rfl⟩ (by omega) (c_State_clear_4 (d - 1) (by omega) U I140) ?_
          rintro _ z146 h147 ⟨rfl, I148, f145⟩
          show ov_R u d ov_m23 48 [(0, ov_r 0), (1, ov_i v3), (2, ov_r 70)] [] z146 h147 (P_OF_town_0 z h)
          have f149 : (h147 36 7) = (h139 36 7) ∧ (h147 1 1) = (h139 1 1) ∧ (h147 90 2) = (h139 90 2) ∧ (h147 0 10) = (h139 0 10) ∧ (h147 0 11) = (h139 0 11) ∧ (h147 0 12) = (h139 0 12) ∧ (h147 0 13) = (h139 0 13) ∧ (h147 3 1) = (h139 3 1) ∧ (h147 36 8) = (h139 36 8) ∧ (h147 46 3) = (h139 46 3) ∧ (h147 46 4) = (h139 46 4) ∧ (h147 49 4) = (h139 49 4) ∧ (h147 49 5) = (h139 49 5) := f145
          clear f145
          have e150 : h147 0 10 = 58 := by omega
          have e151 : h147 0 11 = 70 := by omega
          have e152 : h147 0 12 = 86 := by omega
          refine ov_blk (ls2 := [(0, ov_r 0), (1, ov_i v3), (2, ov_r 70)]) (st2 := [ov_r 0]) (pc2 := 49) b_23_48_1 rfl rfl ?_
          refine ov_getf (v := ov_r 9) d_23_49 fl_OF_35 (zb_0 I148) (zs_0 I148) (congrArg ov_r (rg_0_3 I148)) ?_
          refine ov_cV (as := []) (st := []) (d2 := d - 1) d_23_52 lk_OF_115 rfl (Nat.le_of_ble_eq_true rfl) (c := 3) (zb_9 I148) (zs_9 I148) ⟨by decide, rfl⟩ (by omega) (c_History_clear_9 (d - 1) (by omega) U I148) ?_
          rintro _ z154 h155 ⟨rfl, I156, f153⟩
          show ov_R u d ov_m23 55 [(0, ov_r 0), (1, ov_i v3), (2, ov_r 70)] [] z154 h155 (P_OF_town_0 z h)
          have f157 : (h155 36 7) = (h147 36 7) ∧ (h155 1 1) = (h147 1 1) ∧ (h155 90 2) = (h147 90 2) ∧ (h155 0 10) = (h147 0 10) ∧ (h155 0 11) = (h147 0 11) ∧ (h155 0 12) = (h147 0 12) ∧ (h155 0 13) = (h147 0 13) ∧ (h155 3 1) = (h147 3 1) ∧ (h155 36 8) = (h147 36 8) ∧ (h155 46 3) = (h147 46 3) ∧ (h155 46 4) = (h147 46 4) ∧ (h155 49 4) = (h147 49 4) ∧ (h155 49 5) = (h147 49 5) := f153
          clear f153
          have e158 : h155 0 10 = 58 := by omega
          have e159 : h155 0 11 = 70 := by omega
          have e160 : h155 0 12 = 86 := by omega
          refine ov_blk (ls2 := [(0, ov_r 0), (1, ov_i v3), (2, ov_r 70)]) (st2 := [ov_r 0]) (pc2 := 56) b_23_55_1 rfl rfl ?_
          refine ov_cV (as := []) (st := []) (d2 := d - 1) d_23_56 lk_OF_116 rfl (Nat.le_of_ble_eq_true rfl) (c := 0) (zb_0 I156) (zs_0 I156) ⟨by decide, rfl⟩ (by omega) (c_OF_forgetMarks_0 (d - 1) (by omega) U I156) ?_
          rintro _ z162 h163 ⟨rfl, I164, f161⟩
          show ov_R u d ov_m23 59 [(0, ov_r 0), (1, ov_i v3), (2, ov_r 70)] [] z162 h163 (P_OF_town_0 z h)
          have f165 : (h163 36 7) = (h155 36 7) ∧ (h163 1 1) = (h155 1 1) ∧ (h163 90 2) = (h155 90 2) ∧ (h163 0 10) = (h155 0 10) ∧ (h163 0 11) = (h155 0 11) ∧ (h163 0 12) = (h155 0 12) ∧ (h163 0 13) = (h155 0 13) ∧ (h163 3 1) = (h155 3 1) ∧ (h163 36 8) = (h155 36 8) ∧ (h163 46 3) = (h155 46 3) ∧ (h163 46 4) = (h155 46 4) ∧ (h163 49 4) = (h155 49 4) ∧ (h163 49 5) = (h155 49 5) := f161
          clear f161
          have e166 : h163 0 10 = 58 := by omega
          have e167 : h163 0 11 = 70 := by omega
          have e168 : h163 0 12 = 86 := by omega
          refine ov_blk (ls2 := [(0, ov_r 0), (1, ov_i v3), (2, ov_r 70)]) (st2 := [ov_r 0]) (pc2 := 60) b_23_59_1 rfl rfl ?_
          refine ov_cV (as := []) (st := []) (d2 := d - 1) d_23_60 lk_OF_119 rfl (Nat.le_of_ble_eq_true rfl) (c := 0) (zb_0 I164) (zs_0 I164) ⟨by decide, rfl⟩ (by omega) (c_OF_forgetReckonings_0 (d - 1) (by omega) U I164) ?_
          rintro _ z170 h171 ⟨rfl, I172, f169⟩
          show ov_R u d ov_m23 63 [(0, ov_r 0), (1, ov_i v3), (2, ov_r 70)] [] z170 h171 (P_OF_town_0 z h)
          have f173 : (h171 36 7) = 0 ∧ (h171 1 1) = (h163 1 1) ∧ (h171 90 2) = (h163 90 2) ∧ (h171 0 10) = (h163 0 10) ∧ (h171 0 11) = (h163 0 11) ∧ (h171 0 12) = (h163 0 12) ∧ (h171 0 13) = (h163 0 13) ∧ (h171 3 1) = (h163 3 1) ∧ (h171 36 8) = (h163 36 8) ∧ (h171 46 3) = (h163 46 3) ∧ (h171 46 4) = (h163 46 4) ∧ (h171 49 4) = (h163 49 4) ∧ (h171 49 5) = (h163 49 5) := f169
          clear f169
          have e174 : h171 0 10 = 58 := by omega
          have e175 : h171 0 11 = 70 := by omega
          have e176 : h171 0 12 = 86 := by omega
          refine ov_blk (ls2 := [(0, ov_r 0), (1, ov_i v3), (2, ov_r 70)]) (st2 := [ov_i v3]) (pc2 := 64) b_23_63_1 rfl rfl ?_
          exact ov_reti (st := []) d_23_64 rfl ⟨_, rfl, I172, (by show (h171 1 1) = 0 ∧ ((h171 36 7) = 1 → ¬ (h171 36 8) = -1) ∧ (h171 90 2) = (h 90 2) ∧ (h171 0 12) = (h 0 12) ∧ (h171 0 13) = (h 0 13) ∧ (h171 46 3) = (h 46 3) ∧ (h171 46 4) = (h 46 4) ∧ (h171 49 4) = (h 49 4) ∧ (h171 49 5) = (h 49 5); omega)⟩
  · skip
    refine ov_getf (v := ov_r 70) d_23_5 fl_OF_82 (zb_0 I) (zs_0 I) (congrArg ov_r e1) ?_
    refine ov_cV (as := [ov_r 70]) (st := []) (d2 := d - 1) d_23_8 lk_OF_109 rfl (Nat.le_of_ble_eq_true rfl) (c := 6) (zb_3 I) (zs_3 I) ⟨by decide, rfl⟩ (by omega) (c_Reader_readTown_3_70 (d - 1) (by omega) U I) ?_
    rintro _ z179 h180 ⟨v178, rfl, I181, f177⟩
    show ov_R u d ov_m23 11 [(0, ov_r 0)] [ov_i v178] z179 h180 (P_OF_town_0 z h)
    have f182 : (h180 1 1) = 0 ∧ (h180 36 7) = (h 36 7) ∧ (h180 90 2) = (h 90 2) ∧ (h180 0 10) = (h 0 10) ∧ (h180 0 11) = (h 0 11) ∧ (h180 0 12) = (h 0 12) ∧ (h180 0 13) = (h 0 13) ∧ (h180 36 8) = (h 36 8) ∧ (h180 46 3) = (h 46 3) ∧ (h180 46 4) = (h 46 4) ∧ (h180 49 4) = (h 49 4) ∧ (h180 49 5) = (h 49 5) := f177
    clear f177
    have e183 : h180 0 11 = 70 := by omega
    refine ov_blk (ls2 := [(0, ov_r 0), (1, ov_i v178)]) (st2 := [ov_i v178]) (pc2 := 13) b_23_11_2 rfl rfl ?_
    refine ov_ifne (tgt := 63) d_23_13 (by decide) (by omega) (fun c184 => ?_) (fun c184 => ?_)
    · skip
      refine ov_blk (ls2 := [(0, ov_r 0), (1, ov_i v178)]) (st2 := [ov_i v178]) (pc2 := 64) b_23_63_1 rfl rfl ?_
      exact ov_reti (st := []) d_23_64 rfl ⟨_, rfl, I181, (by show (h180 1 1) = 0 ∧ ((h180 36 7) = 1 → ¬ (h180 36 8) = -1) ∧ (h180 90 2) = (h 90 2) ∧ (h180 0 12) = (h 0 12) ∧ (h180 0 13) = (h 0 13) ∧ (h180 46 3) = (h 46 3) ∧ (h180 46 4) = (h 46 4) ∧ (h180 49 4) = (h 49 4) ∧ (h180 49 5) = (h 49 5); omega)⟩
    · skip
      refine ov_blk (ls2 := [(0, ov_r 0), (1, ov_i v178)]) (st2 := [ov_r 0]) (pc2 := 17) b_23_16_1 rfl rfl ?_
      rcases rg_0_10 I181 with e185 | e185
      · skip
        refine ov_getf (v := ov_r 58) d_23_17 fl_OF_78 (zb_0 I181) (zs_0 I181) (congrArg ov_r e185) ?_
        refine ov_blk (ls2 := [(0, ov_r 0), (1, ov_i v178), (2, ov_r 58)]) (st2 := [ov_r 0, ov_r 0]) (pc2 := 23) b_23_20_3 rfl rfl ?_
        refine ov_getf (v := ov_r 70) d_23_23 fl_OF_82 (zb_0 I181) (zs_0 I181) (congrArg ov_r e183) ?_
        refine ov_putf (x := 70) d_23_26 fl_OF_78 (zb_0 I181) (zs_0 I181) rfl nk_2 rfl ?_
        have I186 := up_0_10 (x := 70) I181 (by omega)
        refine ov_blk (ls2 := [(0, ov_r 0), (1, ov_i v178), (2, ov_r 58)]) (st2 := [ov_r 58, ov_r 0]) (pc2 := 31) b_23_29_2 rfl rfl ?_
        refine ov_putf (x := 58) d_23_31 fl_OF_82 (zb_0 I186) (zs_0 I186) rfl nk_2 rfl ?_
        have I187 := up_0_11 (x := 58) I186 (by omega)
        refine ov_blk (ls2 := [(0, ov_r 0), (1, ov_i v178), (2, ov_r 58)]) (st2 := [ov_r 0]) (pc2 := 35) b_23_34_1 rfl rfl ?_
        rcases rg_0_12 I181 with e188 | e188
        · skip
          refine ov_getf (v := ov_r 82) d_23_35 fl_OF_88 (zb_0 I187) (zs_0 I187) (congrArg ov_r e188) ?_
          refine ov_cV (as := []) (st := []) (d2 := d - 1) d_23_38 lk_OF_113 rfl (Nat.le_of_ble_eq_true rfl) (c := 10) (zb_82 I187) (zs_82 I187) ⟨by decide, rfl⟩ (by omega) (c_Walk_clear_82 (d - 1) (by omega) U I187) ?_
          rintro _ z190 h191 ⟨rfl, I192, f189⟩
          show ov_R u d ov_m23 41 [(0, ov_r 0), (1, ov_i v178), (2, ov_r 58)] [] z190 h191 (P_OF_town_0 z h)
          have f193 : (h191 36 7) = (h180 36 7) ∧ (h191 1 1) = (h180 1 1) ∧ (h191 90 2) = (h180 90 2) ∧ (h191 0 10) = 70 ∧ (h191 0 11) = 58 ∧ (h191 0 12) = (h180 0 12) ∧ (h191 0 13) = (h180 0 13) ∧ (h191 3 1) = (h180 3 1) ∧ (h191 36 8) = (h180 36 8) ∧ (h191 46 3) = (h180 46 3) ∧ (h191 46 4) = (h180 46 4) ∧ (h191 49 4) = (h180 49 4) ∧ (h191 49 5) = (h180 49 5) := f189
          clear f189
          have e194 : h191 0 10 = 70 := by omega
          have e195 : h191 0 11 = 58 := by omega
          have e196 : h191 0 12 = 82 := by omega
          refine ov_blk (ls2 := [(0, ov_r 0), (1, ov_i v178), (2, ov_r 58)]) (st2 := [ov_r 0]) (pc2 := 42) b_23_41_1 rfl rfl ?_
          refine ov_getf (v := ov_r 4) d_23_42 fl_OF_28 (zb_0 I192) (zs_0 I192) (congrArg ov_r (rg_0_2 I192)) ?_
          refine ov_cV (as := []) (st := []) (d2 := d - 1) d_23_45 lk_OF_114 rfl (Nat.le_of_ble_eq_true rfl) (c := 7) (zb_4 I192) (zs_4 I192) ⟨by decide, rfl⟩ (by omega) (c_State_clear_4 (d - 1) (by omega) U I192) ?_
          rintro _ z198 h199 ⟨rfl, I200, f197⟩
          show ov_R u d ov_m23 48 [(0, ov_r 0), (1, ov_i v178), (2, ov_r 58)] [] z198 h199 (P_OF_town_0 z h)
          have f201 : (h199 36 7) = (h191 36 7) ∧ (h199 1 1) = (h191 1 1) ∧ (h199 90 2) = (h191 90 2) ∧ (h199 0 10) = (h191 0 10) ∧ (h199 0 11) = (h191 0 11) ∧ (h199 0 12) = (h191 0 12) ∧ (h199 0 13) = (h191 0 13) ∧ (h199 3 1) = (h191 3 1) ∧ (h199 36 8) = (h191 36 8) ∧ (h199 46 3) = (h191 46 3) ∧ (h199 46 4) = (h191 46 4) ∧ (h199 49 4) = (h191 49 4) ∧ (h199 49 5) = (h191 49 5) := f197
          clear f197
          have e202 : h199 0 10 = 70 := by omega
          have e203 : h199 0 11 = 58 := by omega
          have e204 : h199 0 12 = 82 := by omega
          refine ov_blk (ls2 := [(0, ov_r 0), (1, ov_i v178), (2, ov_r 58)]) (st2 := [ov_r 0]) (pc2 := 49) b_23_48_1 rfl rfl ?_
          refine ov_getf (v := ov_r 9) d_23_49 fl_OF_35 (zb_0 I200) (zs_0 I200) (congrArg ov_r (rg_0_3 I200)) ?_
          refine ov_cV (as := []) (st := []) (d2 := d - 1) d_23_52 lk_OF_115 rfl (Nat.le_of_ble_eq_true rfl) (c := 3) (zb_9 I200) (zs_9 I200) ⟨by decide, rfl⟩ (by omega) (c_History_clear_9 (d - 1) (by omega) U I200) ?_
          rintro _ z206 h207 ⟨rfl, I208, f205⟩
          show ov_R u d ov_m23 55 [(0, ov_r 0), (1, ov_i v178), (2, ov_r 58)] [] z206 h207 (P_OF_town_0 z h)
          have f209 : (h207 36 7) = (h199 36 7) ∧ (h207 1 1) = (h199 1 1) ∧ (h207 90 2) = (h199 90 2) ∧ (h207 0 10) = (h199 0 10) ∧ (h207 0 11) = (h199 0 11) ∧ (h207 0 12) = (h199 0 12) ∧ (h207 0 13) = (h199 0 13) ∧ (h207 3 1) = (h199 3 1) ∧ (h207 36 8) = (h199 36 8) ∧ (h207 46 3) = (h199 46 3) ∧ (h207 46 4) = (h199 46 4) ∧ (h207 49 4) = (h199 49 4) ∧ (h207 49 5) = (h199 49 5) := f205
          clear f205
          have e210 : h207 0 10 = 70 := by omega
          have e211 : h207 0 11 = 58 := by omega
          have e212 : h207 0 12 = 82 := by omega
          refine ov_blk (ls2 := [(0, ov_r 0), (1, ov_i v178), (2, ov_r 58)]) (st2 := [ov_r 0]) (pc2 := 56) b_23_55_1 rfl rfl ?_
          refine ov_cV (as := []) (st := []) (d2 := d - 1) d_23_56 lk_OF_116 rfl (Nat.le_of_ble_eq_true rfl) (c := 0) (zb_0 I208) (zs_0 I208) ⟨by decide, rfl⟩ (by omega) (c_OF_forgetMarks_0 (d - 1) (by omega) U I208) ?_
          rintro _ z214 h215 ⟨rfl, I216, f213⟩
          show ov_R u d ov_m23 59 [(0, ov_r 0), (1, ov_i v178), (2, ov_r 58)] [] z214 h215 (P_OF_town_0 z h)
          have f217 : (h215 36 7) = (h207 36 7) ∧ (h215 1 1) = (h207 1 1) ∧ (h215 90 2) = (h207 90 2) ∧ (h215 0 10) = (h207 0 10) ∧ (h215 0 11) = (h207 0 11) ∧ (h215 0 12) = (h207 0 12) ∧ (h215 0 13) = (h207 0 13) ∧ (h215 3 1) = (h207 3 1) ∧ (h215 36 8) = (h207 36 8) ∧ (h215 46 3) = (h207 46 3) ∧ (h215 46 4) = (h207 46 4) ∧ (h215 49 4) = (h207 49 4) ∧ (h215 49 5) = (h207 49 5) := f213
          clear f213
          have e218 : h215 0 10 = 70 := by omega
          have e219 : h215 0 11 = 58 := by omega
          have e220 : h215 0 12 = 82 := by omega
          refine ov_blk (ls2 := [(0, ov_r 0), (1, ov_i v178), (2, ov_r 58)]) (st2 := [ov_r 0]) (pc2 := 60) b_23_59_1 rfl rfl ?_
          refine ov_cV (as := []) (st := []) (d2 := d - 1) d_23_60 lk_OF_119 rfl (Nat.le_of_ble_eq_true rfl) (c := 0) (zb_0 I216) (zs_0 I216) ⟨by decide, rfl⟩ (by omega) (c_OF_forgetReckonings_0 (d - 1) (by omega) U I216) ?_
          rintro _ z222 h223 ⟨rfl, I224, f221⟩
          show ov_R u d ov_m23 63 [(0, ov_r 0), (1, ov_i v178), (2, ov_r 58)] [] z222 h223 (P_OF_town_0 z h)
          have f225 : (h223 36 7) = 0 ∧ (h223 1 1) = (h215 1 1) ∧ (h223 90 2) = (h215 90 2) ∧ (h223 0 10) = (h215 0 10) ∧ (h223 0 11) = (h215 0 11) ∧ (h223 0 12) = (h215 0 12) ∧ (h223 0 13) = (h215 0 13) ∧ (h223 3 1) = (h215 3 1) ∧ (h223 36 8) = (h215 36 8) ∧ (h223 46 3) = (h215 46 3) ∧ (h223 46 4) = (h215 46 4) ∧ (h223 49 4) = (h215 49 4) ∧ (h223 49 5) = (h215 49 5) := f221
          clear f221
          have e226 : h223 0 10 = 70 := by omega
          have e227 : h223 0 11 = 58 := by omega
          have e228 : h223 0 12 = 82 := by omega
          refine ov_blk (ls2 := [(0, ov_r 0), (1, ov_i v178), (2, ov_r 58)]) (st2 := [ov_i v178]) (pc2 := 64) b_23_63_1 rfl rfl ?_
          exact ov_reti (st := []) d_23_64 rfl ⟨_, rfl, I224, (by show (h223 1 1) = 0 ∧ ((h223 36 7) = 1 → ¬ (h223 36 8) = -1) ∧ (h223 90 2) = (h 90 2) ∧ (h223 0 12) = (h 0 12) ∧ (h223 0 13) = (h 0 13) ∧ (h223 46 3) = (h 46 3) ∧ (h223 46 4) = (h 46 4) ∧ (h223 49 4) = (h 49 4) ∧ (h223 49 5) = (h 49 5); omega)⟩
        · skip
          refine ov_getf (v := ov_r 86) d_23_35 fl_OF_88 (zb_0 I187) (zs_0 I187) (congrArg ov_r e188) ?_
          refine ov_cV (as := []) (st := []) (d2 := d - 1) d_23_38 lk_OF_113 rfl (Nat.le_of_ble_eq_true rfl) (c := 10) (zb_86 I187) (zs_86 I187) ⟨by decide, rfl⟩ (by omega) (c_Walk_clear_86 (d - 1) (by omega) U I187) ?_
          rintro _ z230 h231 ⟨rfl, I232, f229⟩
          show ov_R u d ov_m23 41 [(0, ov_r 0), (1, ov_i v178), (2, ov_r 58)] [] z230 h231 (P_OF_town_0 z h)
          have f233 : (h231 36 7) = (h180 36 7) ∧ (h231 1 1) = (h180 1 1) ∧ (h231 90 2) = (h180 90 2) ∧ (h231 0 10) = 70 ∧ (h231 0 11) = 58 ∧ (h231 0 12) = (h180 0 12) ∧ (h231 0 13) = (h180 0 13) ∧ (h231 3 1) = (h180 3 1) ∧ (h231 36 8) = (h180 36 8) ∧ (h231 46 3) = (h180 46 3) ∧ (h231 46 4) = (h180 46 4) ∧ (h231 49 4) = (h180 49 4) ∧ (h231 49 5) = (h180 49 5) := f229
          clear f229
          have e234 : h231 0 10 = 70 := by omega
          have e235 : h231 0 11 = 58 := by omega
          have e236 : h231 0 12 = 86 := by omega
          refine ov_blk (ls2 := [(0, ov_r 0), (1, ov_i v178), (2, ov_r 58)]) (st2 := [ov_r 0]) (pc2 := 42) b_23_41_1 rfl rfl ?_
          refine ov_getf (v := ov_r 4) d_23_42 fl_OF_28 (zb_0 I232) (zs_0 I232) (congrArg ov_r (rg_0_2 I232)) ?_
          refine ov_cV (as := []) (st := []) (d2 := d - 1) d_23_45 lk_OF_114 rfl (Nat.le_of_ble_eq_true rfl) (c := 7) (zb_4 I232) (zs_4 I232) ⟨by decide, rfl⟩ (by omega) (c_State_clear_4 (d - 1) (by omega) U I232) ?_
          rintro _ z238 h239 ⟨rfl, I240, f237⟩
          show ov_R u d ov_m23 48 [(0, ov_r 0), (1, ov_i v178), (2, ov_r 58)] [] z238 h239 (P_OF_town_0 z h)
          have f241 : (h239 36 7) = (h231 36 7) ∧ (h239 1 1) = (h231 1 1) ∧ (h239 90 2) = (h231 90 2) ∧ (h239 0 10) = (h231 0 10) ∧ (h239 0 11) = (h231 0 11) ∧ (h239 0 12) = (h231 0 12) ∧ (h239 0 13) = (h231 0 13) ∧ (h239 3 1) = (h231 3 1) ∧ (h239 36 8) = (h231 36 8) ∧ (h239 46 3) = (h231 46 3) ∧ (h239 46 4) = (h231 46 4) ∧ (h239 49 4) = (h231 49 4) ∧ (h239 49 5) = (h231 49 5) := f237
          clear f237
          have e242 : h239 0 10 = 70 := by omega
          have e243 : h239 0 11 = 58 := by omega
          have e244 : h239 0 12 = 86 := by omega
          refine ov_blk (ls2 := [(0, ov_r 0), (1, ov_i v178), (2, ov_r 58)]) (st2 := [ov_r 0]) (pc2 := 49) b_23_48_1 rfl rfl ?_
          refine ov_getf (v := ov_r 9) d_23_49 fl_OF_35 (zb_0 I240) (zs_0 I240) (congrArg ov_r (rg_0_3 I240)) ?_
          refine ov_cV (as := []) (st := []) (d2 := d - 1) d_23_52 lk_OF_115 rfl (Nat.le_of_ble_eq_true rfl) (c := 3) (zb_9 I240) (zs_9 I240) ⟨by decide, rfl⟩ (by omega) (c_History_clear_9 (d - 1) (by omega) U I240) ?_
          rintro _ z246 h247 ⟨rfl, I248, f245⟩
          show ov_R u d ov_m23 55 [(0, ov_r 0), (1, ov_i v178), (2, ov_r 58)] [] z246 h247 (P_OF_town_0 z h)
          have f249 : (h247 36 7) = (h239 36 7) ∧ (h247 1 1) = (h239 1 1) ∧ (h247 90 2) = (h239 90 2) ∧ (h247 0 10) = (h239 0 10) ∧ (h247 0 11) = (h239 0 11) ∧ (h247 0 12) = (h239 0 12) ∧ (h247 0 13) = (h239 0 13) ∧ (h247 3 1) = (h239 3 1) ∧ (h247 36 8) = (h239 36 8) ∧ (h247 46 3) = (h239 46 3) ∧ (h247 46 4) = (h239 46 4) ∧ (h247 49 4) = (h239 49 4) ∧ (h247 49 5) = (h239 49 5) := f245
          clear f245
          have e250 : h247 0 10 = 70 := by omega
          have e251 : h247 0 11 = 58 := by omega
          have e252 : h247 0 12 = 86 := by omega
          refine ov_blk (ls2 := [(0, ov_r 0), (1, ov_i v178), (2, ov_r 58)]) (st2 := [ov_r 0]) (pc2 := 56) b_23_55_1 rfl rfl ?_
          refine ov_cV (as := []) (st := []) (d2 := d - 1) d_23_56 lk_OF_116 rfl (Nat.le_of_ble_eq_true rfl) (c := 0) (zb_0 I248) (zs_0 I248) ⟨by decide, rfl⟩ (by omega) (c_OF_forgetMarks_0 (d - 1) (by omega) U I248) ?_
          rintro _ z254 h255 ⟨rfl, I256, f253⟩
          show ov_R u d ov_m23 59 [(0, ov_r 0), (1, ov_i v178), (2, ov_r 58)] [] z254 h255 (P_OF_town_0 z h)
          have f257 : (h255 36 7) = (h247 36 7) ∧ (h255 1 1) = (h247 1 1) ∧ (h255 90 2) = (h247 90 2) ∧ (h255 0 10) = (h247 0 10) ∧ (h255 0 11) = (h247 0 11) ∧ (h255 0 12) = (h247 0 12) ∧ (h255 0 13) = (h247 0 13) ∧ (h255 3 1) = (h247 3 1) ∧ (h255 36 8) = (h247 36 8) ∧ (h255 46 3) = (h247 46 3) ∧ (h255 46 4) = (h247 46 4) ∧ (h255 49 4) = (h247 49 4) ∧ (h255 49 5) = (h247 49 5) := f253
          clear f253
          have e258 : h255 0 10 = 70 := by omega
          have e259 : h255 0 11 = 58 := by omega
          have e260 : h255 0 12 = 86 := by omega
          refine ov_blk (ls2 := [(0, ov_r 0), (1, ov_i v178), (2, ov_r 58)]) (st2 := [ov_r 0]) (pc2 := 60) b_23_59_1 rfl rfl ?_
          refine ov_cV (as := []) (st := []) (d2 := d - 1) d_23_60 lk_OF_119 rfl (Nat.le_of_ble_eq_true rfl) (c := 0) (zb_0 I256) (zs_0 I256) ⟨by decide, rfl⟩ (by omega) (c_OF_forgetReckonings_0 (d - 1) (by omega) U I256) ?_
          rintro _ z262 h263 ⟨rfl, I264, f261⟩
          show ov_R u d ov_m23 63 [(0, ov_r 0), (1, ov_i v178), (2, ov_r 58)] [] z262 h263 (P_OF_town_0 z h)
          have f265 : (h263 36 7) = 0 ∧ (h263 1 1) = (h255 1 1) ∧ (h263 90 2) = (h255 90 2) ∧ (h263 0 10) = (h255 0 10) ∧ (h263 0 11) = (h255 0 11) ∧ (h263 0 12) = (h255 0 12) ∧ (h263 0 13) = (h255 0 13) ∧ (h263 3 1) = (h255 3 1) ∧ (h263 36 8) = (h255 36 8) ∧ (h263 46 3) = (h255 46 3) ∧ (h263 46 4) = (h255 46 4) ∧ (h263 49 4) = (h255 49 4) ∧ (h263 49 5) = (h255 49 5) := f261
          clear f261
          have e266 : h263 0 10 = 70 := by omega
          have e267 : h263 0 11 = 58 := by omega
          have e268 : h263 0 12 = 86 := by omega
          refine ov_blk (ls2 := [(0, ov_r 0), (1, ov_i v178), (2, ov_r 58)]) (st2 := [ov_i v178]) (pc2 := 64) b_23_63_1 rfl rfl ?_
          exact ov_reti (st := []) d_23_64 rfl ⟨_, rfl, I264, (by show (h263 1 1) = 0 ∧ ((h263 36 7) = 1 → ¬ (h263 36 8) = -1) ∧ (h263 90 2) = (h 90 2) ∧ (h263 0 12) = (h 0 12) ∧ (h263 0 13) = (h 0 13) ∧ (h263 46 3) = (h 46 3) ∧ (h263 46 4) = (h 46 4) ∧ (h263 49 4) = (h 49 4) ∧ (h263 49 5) = (h 49 5); omega)⟩
      · skip
        refine ov_getf (v := ov_r 70) d_23_17 fl_OF_78 (zb_0 I181) (zs_0 I181) (congrArg ov_r e185) ?_
        refine ov_blk (ls2 := [(0, ov_r 0), (1, ov_i v178), (2, ov_r 70)]) (st2 := [ov_r 0, ov_r 0]) (pc2 := 23) b_23_20_3 rfl rfl ?_
        refine ov_getf (v := ov_r 70) d_23_23 fl_OF_82 (zb_0 I181) (zs_0 I181) (congrArg ov_r e183) ?_
        refine ov_putf (x := 70) d_23_26 fl_OF_78 (zb_0 I181) (zs_0 I181) rfl nk_2 rfl ?_
        have I269 := up_0_10 (x := 70) I181 (by omega)
        refine ov_blk (ls2 := [(0, ov_r 0), (1, ov_i v178), (2, ov_r 70)]) (st2 := [ov_r 70, ov_r 0]) (pc2 := 31) b_23_29_2 rfl rfl ?_
        refine ov_putf (x := 70) d_23_31 fl_OF_82 (zb_0 I269) (zs_0 I269) rfl nk_2 rfl ?_
        have I270 := up_0_11 (x := 70) I269 (by omega)
        refine ov_blk (ls2 := [(0, ov_r 0), (1, ov_i v178), (2, ov_r 70)]) (st2 := [ov_r 0]) (pc2 := 35) b_23_34_1 rfl rfl ?_
        rcases rg_0_12 I181 with e271 | e271
        · skip
          refine ov_getf (v := ov_r 82) d_23_35 fl_OF_88 (zb_0 I270) (zs_0 I270) (congrArg ov_r e271) ?_
          refine ov_cV (as := []) (st := []) (d2 := d - 1) d_23_38 lk_OF_113 rfl (Nat.le_of_ble_eq_true rfl) (c := 10) (zb_82 I270) (zs_82 I270) ⟨by decide, rfl⟩ (by omega) (c_Walk_clear_82 (d - 1) (by omega) U I270) ?_
          rintro _ z273 h274 ⟨rfl, I275, f272⟩
          show ov_R u d ov_m23 41 [(0, ov_r 0), (1, ov_i v178), (2, ov_r 70)] [] z273 h274 (P_OF_town_0 z h)
          have f276 : (h274 36 7) = (h180 36 7) ∧ (h274 1 1) = (h180 1 1) ∧ (h274 90 2) = (h180 90 2) ∧ (h274 0 10) = 70 ∧ (h274 0 11) = 70 ∧ (h274 0 12) = (h180 0 12) ∧ (h274 0 13) = (h180 0 13) ∧ (h274 3 1) = (h180 3 1) ∧ (h274 36 8) = (h180 36 8) ∧ (h274 46 3) = (h180 46 3) ∧ (h274 46 4) = (h180 46 4) ∧ (h274 49 4) = (h180 49 4) ∧ (h274 49 5) = (h180 49 5) := f272
          clear f272
          have e277 : h274 0 10 = 70 := by omega
          have e278 : h274 0 11 = 70 := by omega
          have e279 : h274 0 12 = 82 := by omega
          refine ov_blk (ls2 := [(0, ov_r 0), (1, ov_i v178), (2, ov_r 70)]) (st2 := [ov_r 0]) (pc2 := 42) b_23_41_1 rfl rfl ?_
          refine ov_getf (v := ov_r 4) d_23_42 fl_OF_28 (zb_0 I275) (zs_0 I275) (congrArg ov_r (rg_0_2 I275)) ?_
          refine ov_cV (as := []) (st := []) (d2 := d - 1) d_23_45 lk_OF_114 rfl (Nat.le_of_ble_eq_true rfl) (c := 7) (zb_4 I275) (zs_4 I275) ⟨by decide, rfl⟩ (by omega) (c_State_clear_4 (d - 1) (by omega) U I275) ?_
          rintro _ z281 h282 ⟨rfl, I283, f280⟩
          show ov_R u d ov_m23 48 [(0, ov_r 0), (1, ov_i v178), (2, ov_r 70)] [] z281 h282 (P_OF_town_0 z h)
          have f284 : (h282 36 7) = (h274 36 7) ∧ (h282 1 1) = (h274 1 1) ∧ (h282 90 2) = (h274 90 2) ∧ (h282 0 10) = (h274 0 10) ∧ (h282 0 11) = (h274 0 11) ∧ (h282 0 12) = (h274 0 12) ∧ (h282 0 13) = (h274 0 13) ∧ (h282 3 1) = (h274 3 1) ∧ (h282 36 8) = (h274 36 8) ∧ (h282 46 3) = (h274 46 3) ∧ (h282 46 4) = (h274 46 4) ∧ (h282 49 4) = (h274 49 4) ∧ (h282 49 5) = (h274 49 5) := f280
          clear f280
          have e285 : h282 0 10 = 70 := by omega
          have e286 : h282 0 11 = 70 := by omega
          have e287 : h282 0 12 = 82 := by omega
          refine ov_blk (ls2 := [(0, ov_r 0), (1, ov_i v178), (2, ov_r 70)]) (st2 := [ov_r 0]) (pc2 := 49) b_23_48_1 rfl rfl ?_
          refine ov_getf (v := ov_r 9) d_23_49 fl_OF_35 (zb_0 I283) (zs_0 I283) (congrArg ov_r (rg_0_3 I283)) ?_
          refine ov_cV (as := []) (st := []) (d2 := d - 1) d_23_52 lk_OF_115 rfl (Nat.le_of_ble_eq_true rfl) (c := 3) (zb_9 I283) (zs_9 I283) ⟨by decide, rfl⟩ (by omega) (c_History_clear_9 (d - 1) (by omega) U I283) ?_
          rintro _ z289 h290 ⟨rfl, I291, f288⟩
          show ov_R u d ov_m23 55 [(0, ov_r 0), (1, ov_i v178), (2, ov_r 70)] [] z289 h290 (P_OF_town_0 z h)
          have f292 : (h290 36 7) = (h282 36 7) ∧ (h290 1 1) = (h282 1 1) ∧ (h290 90 2) = (h282 90 2) ∧ (h290 0 10) = (h282 0 10) ∧ (h290 0 11) = (h282 0 11) ∧ (h290 0 12) = (h282 0 12) ∧ (h290 0 13) = (h282 0 13) ∧ (h290 3 1) = (h282 3 1) ∧ (h290 36 8) = (h282 36 8) ∧ (h290 46 3) = (h282 46 3) ∧ (h290 46 4) = (h282 46 4) ∧ (h290 49 4) = (h282 49 4) ∧ (h290 49 5) = (h282 49 5) := f288
          clear f288
          have e293 : h290 0 10 = 70 := by omega
          have e294 : h290 0 11 = 70 := by omega
          have e295 : h290 0 12 = 82 := by omega
          refine ov_blk (ls2 := [(0, ov_r 0), (1, ov_i v178), (2, ov_r 70)]) (st2 := [ov_r 0]) (pc2 := 56) b_23_55_1 rfl rfl ?_
          refine ov_cV (as := []) (st := []) (d2 := d - 1) d_23_56 lk_OF_116 rfl (Nat.le_of_ble_eq_true rfl) (c := 0) (zb_0 I291) (zs_0 I291) ⟨by decide, rfl⟩ (by omega) (c_OF_forgetMarks_0 (d - 1) (by omega) U I291) ?_
          rintro _ z297 h298 ⟨rfl, I299, f296⟩
          show ov_R u d ov_m23 59 [(0, ov_r 0), (1, ov_i v178), (2, ov_r 70)] [] z297 h298 (P_OF_town_0 z h)
          have f300 : (h298 36 7) = (h290 36 7) ∧ (h298 1 1) = (h290 1 1) ∧ (h298 90 2) = (h290 90 2) ∧ (h298 0 10) = (h290 0 10) ∧ (h298 0 11) = (h290 0 11) ∧ (h298 0 12) = (h290 0 12) ∧ (h298 0 13) = (h290 0 13) ∧ (h298 3 1) = (h290 3 1) ∧ (h298 36 8) = (h290 36 8) ∧ (h298 46 3) = (h290 46 3) ∧ (h298 46 4) = (h290 46 4) ∧ (h298 49 4) = (h290 49 4) ∧ (h298 49 5) = (h290 49 5) := f296
          clear f296
          have e301 : h298 0 10 = 70 := by omega
          have e302 : h298 0 11 = 70 := by omega
          have e303 : h298 0 12 = 82 := by omega
          refine ov_blk (ls2 := [(0, ov_r 0), (1, ov_i v178), (2, ov_r 70)]) (st2 := [ov_r 0]) (pc2 := 60) b_23_59_1 rfl rfl ?_
          refine ov_cV (as := []) (st := []) (d2 := d - 1) d_23_60 lk_OF_119 rfl (Nat.le_of_ble_eq_true rfl) (c := 0) (zb_0 I299) (zs_0 I299) ⟨by decide, rfl⟩ (by omega) (c_OF_forgetReckonings_0 (d - 1) (by omega) U I299) ?_
          rintro _ z305 h306 ⟨rfl, I307, f304⟩
          show ov_R u d ov_m23 63 [(0, ov_r 0), (1, ov_i v178), (2, ov_r 70)] [] z305 h306 (P_OF_town_0 z h)
          have f308 : (h306 36 7) = 0 ∧ (h306 1 1) = (h298 1 1) ∧ (h306 90 2) = (h298 90 2) ∧ (h306 0 10) = (h298 0 10) ∧ (h306 0 11) = (h298 0 11) ∧ (h306 0 12) = (h298 0 12) ∧ (h306 0 13) = (h298 0 13) ∧ (h306 3 1) = (h298 3 1) ∧ (h306 36 8) = (h298 36 8) ∧ (h306 46 3) = (h298 46 3) ∧ (h306 46 4) = (h298 46 4) ∧ (h306 49 4) = (h298 49 4) ∧ (h306 49 5) = (h298 49 5) := f304
          clear f304
          have e309 : h306 0 10 = 70 := by omega
          have e310 : h306 0 11 = 70 := by omega
          have e311 : h306 0 12 = 82 := by omega
          refine ov_blk (ls2 := [(0, ov_r 0), (1, ov_i v178), (2, ov_r 70)]) (st2 := [ov_i v178]) (pc2 := 64) b_23_63_1 rfl rfl ?_
          exact ov_reti (st := []) d_23_64 rfl ⟨_, rfl, I307, (by show (h306 1 1) = 0 ∧ ((h306 36 7) = 1 → ¬ (h306 36 8) = -1) ∧ (h306 90 2) = (h 90 2) ∧ (h306 0 12) = (h 0 12) ∧ (h306 0 13) = (h 0 13) ∧ (h306 46 3) = (h 46 3) ∧ (h306 46 4) = (h 46 4) ∧ (h306 49 4) = (h 49 4) ∧ (h306 49 5) = (h 49 5); omega)⟩
        · skip
          refine ov_getf (v := ov_r 86) d_23_35 fl_OF_88 (zb_0 I270) (zs_0 I270) (congrArg ov_r e271) ?_
          refine ov_cV (as := []) (st := []) (d2 := d - 1) d_23_38 lk_OF_113 rfl (Nat.le_of_ble_eq_true rfl) (c := 10) (zb_86 I270) (zs_86 I270) ⟨by decide, rfl⟩ (by omega) (c_Walk_clear_86 (d - 1) (by omega) U I270) ?_
          rintro _ z313 h314 ⟨rfl, I315, f312⟩
          show ov_R u d ov_m23 41 [(0, ov_r 0), (1, ov_i v178), (2, ov_r 70)] [] z313 h314 (P_OF_town_0 z h)
          have f316 : (h314 36 7) = (h180 36 7) ∧ (h314 1 1) = (h180 1 1) ∧ (h314 90 2) = (h180 90 2) ∧ (h314 0 10) = 70 ∧ (h314 0 11) = 70 ∧ (h314 0 12) = (h180 0 12) ∧ (h314 0 13) = (h180 0 13) ∧ (h314 3 1) = (h180 3 1) ∧ (h314 36 8) = (h180 36 8) ∧ (h314 46 3) = (h180 46 3) ∧ (h314 46 4) = (h180 46 4) ∧ (h314 49 4) = (h180 49 4) ∧ (h314 49 5) = (h180 49 5) := f312
          clear f312
          have e317 : h314 0 10 = 70 := by omega
          have e318 : h314 0 11 = 70 := by omega
          have e319 : h314 0 12 = 86 := by omega
          refine ov_blk (ls2 := [(0, ov_r 0), (1, ov_i v178), (2, ov_r 70)]) (st2 := [ov_r 0]) (pc2 := 42) b_23_41_1 rfl rfl ?_
          refine ov_getf (v := ov_r 4) d_23_42 fl_OF_28 (zb_0 I315) (zs_0 I315) (congrArg ov_r (rg_0_2 I315)) ?_
          refine ov_cV (as := []) (st := []) (d2 := d - 1) d_23_45 lk_OF_114 rfl (Nat.le_of_ble_eq_true rfl) (c := 7) (zb_4 I315) (zs_4 I315) ⟨by decide, rfl⟩ (by omega) (c_State_clear_4 (d - 1) (by omega) U I315) ?_
          rintro _ z321 h322 ⟨rfl, I323, f320⟩
          show ov_R u d ov_m23 48 [(0, ov_r 0), (1, ov_i v178), (2, ov_r 70)] [] z321 h322 (P_OF_town_0 z h)
          have f324 : (h322 36 7) = (h314 36 7) ∧ (h322 1 1) = (h314 1 1) ∧ (h322 90 2) = (h314 90 2) ∧ (h322 0 10) = (h314 0 10) ∧ (h322 0 11) = (h314 0 11) ∧ (h322 0 12) = (h314 0 12) ∧ (h322 0 13) = (h314 0 13) ∧ (h322 3 1) = (h314 3 1) ∧ (h322 36 8) = (h314 36 8) ∧ (h322 46 3) = (h314 46 3) ∧ (h322 46 4) = (h314 46 4) ∧ (h322 49 4) = (h314 49 4) ∧ (h322 49 5) = (h314 49 5) := f320
          clear f320
          have e325 : h322 0 10 = 70 := by omega
          have e326 : h322 0 11 = 70 := by omega
          have e327 : h322 0 12 = 86 := by omega
          refine ov_blk (ls2 := [(0, ov_r 0), (1, ov_i v178), (2, ov_r 70)]) (st2 := [ov_r 0]) (pc2 := 49) b_23_48_1 rfl rfl ?_
          refine ov_getf (v := ov_r 9) d_23_49 fl_OF_35 (zb_0 I323) (zs_0 I323) (congrArg ov_r (rg_0_3 I323)) ?_
          refine ov_cV (as := []) (st := []) (d2 := d - 1) d_23_52 lk_OF_115 rfl (Nat.le_of_ble_eq_true rfl) (c := 3) (zb_9 I323) (zs_9 I323) ⟨by decide, rfl⟩ (by omega) (c_History_clear_9 (d - 1) (by omega) U I323) ?_
          rintro _ z329 h330 ⟨rfl, I331, f328⟩
          show ov_R u d ov_m23 55 [(0, ov_r 0), (1, ov_i v178), (2, ov_r 70)] [] z329 h330 (P_OF_town_0 z h)
          have f332 : (h330 36 7) = (h322 36 7) ∧ (h330 1 1) = (h322 1 1) ∧ (h330 90 2) = (h322 90 2) ∧ (h330 0 10) = (h322 0 10) ∧ (h330 0 11) = (h322 0 11) ∧ (h330 0 12) = (h322 0 12) ∧ (h330 0 13) = (h322 0 13) ∧ (h330 3 1) = (h322 3 1) ∧ (h330 36 8) = (h322 36 8) ∧ (h330 46 3) = (h322 46 3) ∧ (h330 46 4) = (h322 46 4) ∧ (h330 49 4) = (h322 49 4) ∧ (h330 49 5) = (h322 49 5) := f328
          clear f328
          have e333 : h330 0 10 = 70 := by omega
          have e334 : h330 0 11 = 70 := by omega
          have e335 : h330 0 12 = 86 := by omega
          refine ov_blk (ls2 := [(0, ov_r 0), (1, ov_i v178), (2, ov_r 70)]) (st2 := [ov_r 0]) (pc2 := 56) b_23_55_1 rfl rfl ?_
          refine ov_cV (as := []) (st := []) (d2 := d - 1) d_23_56 lk_OF_116 rfl (Nat.le_of_ble_eq_true rfl) (c := 0) (zb_0 I331) (zs_0 I331) ⟨by decide, rfl⟩ (by omega) (c_OF_forgetMarks_0 (d - 1) (by omega) U I331) ?_
          rintro _ z337 h338 ⟨rfl, I339, f336⟩
          show ov_R u d ov_m23 59 [(0, ov_r 0), (1, ov_i v178), (2, ov_r 70)] [] z337 h338 (P_OF_town_0 z h)
          have f340 : (h338 36 7) = (h330 36 7) ∧ (h338 1 1) = (h330 1 1) ∧ (h338 90 2) = (h330 90 2) ∧ (h338 0 10) = (h330 0 10) ∧ (h338 0 11) = (h330 0 11) ∧ (h338 0 12) = (h330 0 12) ∧ (h338 0 13) = (h330 0 13) ∧ (h338 3 1) = (h330 3 1) ∧ (h338 36 8) = (h330 36 8) ∧ (h338 46 3) = (h330 46 3) ∧ (h338 46 4) = (h330 46 4) ∧ (h338 49 4) = (h330 49 4) ∧ (h338 49 5) = (h330 49 5) := f336
          clear f336
          have e341 : h338 0 10 = 70 := by omega
          have e342 : h338 0 11 = 70 := by omega
          have e343 : h338 0 12 = 86 := by omega
          refine ov_blk (ls2 := [(0, ov_r 0), (1, ov_i v178), (2, ov_r 70)]) (st2 := [ov_r 0]) (pc2 := 60) b_23_59_1 rfl rfl ?_
          refine ov_cV (as := []) (st := []) (d2 := d - 1) d_23_60 lk_OF_119 rfl (Nat.le_of_ble_eq_true rfl) (c := 0) (zb_0 I339) (zs_0 I339) ⟨by decide, rfl⟩ (by omega) (c_OF_forgetReckonings_0 (d - 1) (by omega) U I339) ?_
          rintro _ z345 h346 ⟨rfl, I347, f344⟩
          show ov_R u d ov_m23 63 [(0, ov_r 0), (1, ov_i v178), (2, ov_r 70)] [] z345 h346 (P_OF_town_0 z h)
          have f348 : (h346 36 7) = 0 ∧ (h346 1 1) = (h338 1 1) ∧ (h346 90 2) = (h338 90 2) ∧ (h346 0 10) = (h338 0 10) ∧ (h346 0 11) = (h338 0 11) ∧ (h346 0 12) = (h338 0 12) ∧ (h346 0 13) = (h338 0 13) ∧ (h346 3 1) = (h338 3 1) ∧ (h346 36 8) = (h338 36 8) ∧ (h346 46 3) = (h338 46 3) ∧ (h346 46 4) = (h338 46 4) ∧ (h346 49 4) = (h338 49 4) ∧ (h346 49 5) = (h338 49 5) := f344
          clear f344
          have e349 : h346 0 10 = 70 := by omega
          have e350 : h346 0 11 = 70 := by omega
          have e351 : h346 0 12 = 86 := by omega
          refine ov_blk (ls2 := [(0, ov_r 0), (1, ov_i v178), (2, ov_r 70)]) (st2 := [ov_i v178]) (pc2 := 64) b_23_63_1 rfl rfl ?_
          exact ov_reti (st := []) d_23_64 rfl ⟨_, rfl, I347, (by show (h346 1 1) = 0 ∧ ((h346 36 7) = 1 → ¬ (h346 36 8) = -1) ∧ (h346 90 2) = (h 90 2) ∧ (h346 0 12) = (h 0 12) ∧ (h346 0 13) = (h 0 13) ∧ (h346 46 3) = (h 46 3) ∧ (h346 46 4) = (h 46 4) ∧ (h346 49 4) = (h 49 4) ∧ (h346 49 5) = (h 49 5); omega)⟩
abbrev P_OF_walk_0 (z : ov_Z) (h : ov_H)  : Option ov_V → ov_Z → ov_H → Prop := fun r0 z' h' => ∃ r : Int, r0 = some (ov_i r) ∧ ov_I z' h' ∧ (h' 1 1 = 0 ∧ h' 36 7 = h 36 7 ∧ h' 90 2 = h 90 2 ∧ h' 0 10 = h 0 10 ∧ h' 0 11 = h 0 11 ∧ h' 36 8 = h 36 8 ∧ h' 46 3 = h 46 3 ∧ h' 46 4 = h 46 4 ∧ h' 49 4 = h 49 4 ∧ h' 49 5 = h 49 5)
set_option maxHeartbeats 4000000 in
theorem c_OF_walk_0 {u : ov_U} {z : ov_Z} {h : ov_H} (d : Nat) (hd : 50 ≤ d) (U : ov_cap u) (I : ov_I z h) : ov_T u d ov_m88 [ov_r 0] z h (P_OF_walk_0 z h) := by
  refine ov_en rfl (Nat.le_of_ble_eq_true rfl) ?_
  show ov_R u d ov_m88 0 [(0, ov_r 0)] [] z h (P_OF_walk_0 z h)
  refine ov_blk (ls2 := [(0, ov_r 0)]) (st2 := [ov_r 0]) (pc2 := 1) b_88_0_1 rfl rfl ?_
  refine ov_getf (v := ov_r 3) d_88_1 fl_OF_21 (zb_0 I) (zs_0 I) (congrArg ov_r (rg_0_1 I)) ?_
  refine ov_blk (ls2 := [(0, ov_r 0)]) (st2 := [ov_r 0, ov_r 3]) (pc2 := 5) b_88_4_1 rfl rfl ?_
  rcases rg_0_10 I with e1 | e1
  · skip
    refine ov_getf (v := ov_r 58) d_88_5 fl_OF_78 (zb_0 I) (zs_0 I) (congrArg ov_r e1) ?_
    refine ov_blk (ls2 := [(0, ov_r 0)]) (st2 := [ov_r 0, ov_r 58, ov_r 3]) (pc2 := 9) b_88_8_1 rfl rfl ?_
    rcases rg_0_13 I with e2 | e2
    · skip
      refine ov_getf (v := ov_r 82) d_88_9 fl_OF_92 (zb_0 I) (zs_0 I) (congrArg ov_r e2) ?_
      refine ov_cV (as := [ov_r 58, ov_r 82]) (st := []) (d2 := d - 1) d_88_12 lk_OF_122 rfl (Nat.le_of_ble_eq_true rfl) (c := 6) (zb_3 I) (zs_3 I) ⟨by decide, rfl⟩ (by omega) (c_Reader_readWalk_3_58_82 (d - 1) (by omega) U I) ?_
      rintro _ z5 h6 ⟨v4, rfl, I7, f3⟩
      show ov_R u d ov_m88 15 [(0, ov_r 0)] [ov_i v4] z5 h6 (P_OF_walk_0 z h)
      have f8 : (h6 1 1) = 0 ∧ (h6 36 7) = (h 36 7) ∧ (h6 90 2) = (h 90 2) ∧ (h6 0 10) = (h 0 10) ∧ (h6 0 11) = (h 0 11) ∧ (h6 0 12) = (h 0 12) ∧ (h6 0 13) = (h 0 13) ∧ (h6 36 8) = (h 36 8) ∧ (h6 46 3) = (h 46 3) ∧ (h6 46 4) = (h 46 4) ∧ (h6 49 4) = (h 49 4) ∧ (h6 49 5) = (h 49 5) := f3
      clear f3
      have e9 : h6 0 10 = 58 := by omega
      have e10 : h6 0 13 = 82 := by omega
      refine ov_blk (ls2 := [(0, ov_r 0), (1, ov_i v4)]) (st2 := [ov_i v4]) (pc2 := 17) b_88_15_2 rfl rfl ?_
      refine ov_ifne (tgt := 45) d_88_17 (by decide) (by omega) (fun c11 => ?_) (fun c11 => ?_)
      · skip
        refine ov_blk (ls2 := [(0, ov_r 0), (1, ov_i v4)]) (st2 := [ov_i v4]) (pc2 := 46) b_88_45_1 rfl rfl ?_
        exact ov_reti (st := []) d_88_46 rfl ⟨_, rfl, I7, (by show (h6 1 1) = 0 ∧ (h6 36 7) = (h 36 7) ∧ (h6 90 2) = (h 90 2) ∧ (h6 0 10) = (h 0 10) ∧ (h6 0 11) = (h 0 11) ∧ (h6 36 8) = (h 36 8) ∧ (h6 46 3) = (h 46 3) ∧ (h6 46 4) = (h 46 4) ∧ (h6 49 4) = (h 49 4) ∧ (h6 49 5) = (h 49 5); omega)⟩
      · skip
        refine ov_blk (ls2 := [(0, ov_r 0), (1, ov_i v4)]) (st2 := [ov_r 0]) (pc2 := 21) b_88_20_1 rfl rfl ?_
        rcases rg_0_12 I7 with e12 | e12
        · skip
          refine ov_getf (v := ov_r 82) d_88_21 fl_OF_88 (zb_0 I7) (zs_0 I7) (congrArg ov_r e12) ?_
          refine ov_blk (ls2 := [(0, ov_r 0), (1, ov_i v4), (2, ov_r 82)]) (st2 := [ov_r 0, ov_r 0]) (pc2 := 27) b_88_24_3 rfl rfl ?_
          refine ov_getf (v := ov_r 82) d_88_27 fl_OF_92 (zb_0 I7) (zs_0 I7) (congrArg ov_r e10) ?_
          refine ov_putf (x := 82) d_88_30 fl_OF_88 (zb_0 I7) (zs_0 I7) rfl nk_2 rfl ?_
          have I13 := up_0_12 (x := 82) I7 (by omega)
          refine ov_blk (ls2 := [(0, ov_r 0), (1, ov_i v4), (2, ov_r 82)]) (st2 := [ov_r 82, ov_r 0]) (pc2 := 35) b_88_33_2 rfl rfl ?_
          refine ov_putf (x := 82) d_88_35 fl_OF_92 (zb_0 I13) (zs_0 I13) rfl nk_2 rfl ?_
          have I14 := up_0_13 (x := 82) I13 (by omega)
          refine ov_blk (ls2 := [(0, ov_r 0), (1, ov_i v4), (2, ov_r 82)]) (st2 := [ov_r 0]) (pc2 := 39) b_88_38_1 rfl rfl ?_
          refine ov_getf (v := ov_r 49) d_88_39 fl_OF_64 (zb_0 I14) (zs_0 I14) (congrArg ov_r (rg_0_8 I14)) ?_
          refine ov_cV (as := []) (st := []) (d2 := d - 1) d_88_42 lk_OF_126 rfl (Nat.le_of_ble_eq_true rfl) (c := 5) (zb_49 I14) (zs_49 I14) ⟨by decide, rfl⟩ (by omega) (c_Pace_forget_49 (d - 1) (by omega) U I14) ?_
          rintro _ z16 h17 ⟨rfl, I18, f15⟩
          show ov_R u d ov_m88 45 [(0, ov_r 0), (1, ov_i v4), (2, ov_r 82)] [] z16 h17 (P_OF_walk_0 z h)
          have f19 : (h17 36 7) = (h6 36 7) ∧ (h17 1 1) = (h6 1 1) ∧ (h17 90 2) = (h6 90 2) ∧ (h17 0 10) = (h6 0 10) ∧ (h17 0 11) = (h6 0 11) ∧ (h17 0 12) = 82 ∧ (h17 0 13) = 82 ∧ (h17 3 1) = (h6 3 1) ∧ (h17 36 8) = (h6 36 8) ∧ (h17 46 3) = (h6 46 3) ∧ (h17 46 4) = (h6 46 4) ∧ (h17 49 4) = (h6 49 4) ∧ (h17 49 5) = (h6 49 5) := f15
          clear f15
          have e20 : h17 0 10 = 58 := by omega
          have e21 : h17 0 12 = 82 := by omega
          have e22 : h17 0 13 = 82 := by omega
          refine ov_blk (ls2 := [(0, ov_r 0), (1, ov_i v4), (2, ov_r 82)]) (st2 := [ov_i v4]) (pc2 := 46) b_88_45_1 rfl rfl ?_
          exact ov_reti (st := []) d_88_46 rfl ⟨_, rfl, I18, (by show (h17 1 1) = 0 ∧ (h17 36 7) = (h 36 7) ∧ (h17 90 2) = (h 90 2) ∧ (h17 0 10) = (h 0 10) ∧ (h17 0 11) = (h 0 11) ∧ (h17 36 8) = (h 36 8) ∧ (h17 46 3) = (h 46 3) ∧ (h17 46 4) = (h 46 4) ∧ (h17 49 4) = (h 49 4) ∧ (h17 49 5) = (h 49 5); omega)⟩
        · skip
          refine ov_getf (v := ov_r 86) d_88_21 fl_OF_88 (zb_0 I7) (zs_0 I7) (congrArg ov_r e12) ?_
          refine ov_blk (ls2 := [(0, ov_r 0), (1, ov_i v4), (2, ov_r 86)]) (st2 := [ov_r 0, ov_r 0]) (pc2 := 27) b_88_24_3 rfl rfl ?_
          refine ov_getf (v := ov_r 82) d_88_27 fl_OF_92 (zb_0 I7) (zs_0 I7) (congrArg ov_r e10) ?_
          refine ov_putf (x := 82) d_88_30 fl_OF_88 (zb_0 I7) (zs_0 I7) rfl nk_2 rfl ?_
          have I23 := up_0_12 (x := 82) I7 (by omega)
          refine ov_blk (ls2 := [(0, ov_r 0), (1, ov_i v4), (2, ov_r 86)]) (st2 := [ov_r 86, ov_r 0]) (pc2 := 35) b_88_33_2 rfl rfl ?_
          refine ov_putf (x := 86) d_88_35 fl_OF_92 (zb_0 I23) (zs_0 I23) rfl nk_2 rfl ?_
          have I24 := up_0_13 (x := 86) I23 (by omega)
          refine ov_blk (ls2 := [(0, ov_r 0), (1, ov_i v4), (2, ov_r 86)]) (st2 := [ov_r 0]) (pc2 := 39) b_88_38_1 rfl rfl ?_
          refine ov_getf (v := ov_r 49) d_88_39 fl_OF_64 (zb_0 I24) (zs_0 I24) (congrArg ov_r (rg_0_8 I24)) ?_
          refine ov_cV (as := []) (st := []) (d2 := d - 1) d_88_42 lk_OF_126 rfl (Nat.le_of_ble_eq_true rfl) (c := 5) (zb_49 I24) (zs_49 I24) ⟨by decide, rfl⟩ (by omega) (c_Pace_forget_49 (d - 1) (by omega) U I24) ?_
          rintro _ z26 h27 ⟨rfl, I28, f25⟩
          show ov_R u d ov_m88 45 [(0, ov_r 0), (1, ov_i v4), (2, ov_r 86)] [] z26 h27 (P_OF_walk_0 z h)
          have f29 : (h27 36 7) = (h6 36 7) ∧ (h27 1 1) = (h6 1 1) ∧ (h27 90 2) = (h6 90 2) ∧ (h27 0 10) = (h6 0 10) ∧ (h27 0 11) = (h6 0 11) ∧ (h27 0 12) = 82 ∧ (h27 0 13) = 86 ∧ (h27 3 1) = (h6 3 1) ∧ (h27 36 8) = (h6 36 8) ∧ (h27 46 3) = (h6 46 3) ∧ (h27 46 4) = (h6 46 4) ∧ (h27 49 4) = (h6 49 4) ∧ (h27 49 5) = (h6 49 5) := f25
          clear f25
          have e30 : h27 0 10 = 58 := by omega
          have e31 : h27 0 12 = 82 := by omega
          have e32 : h27 0 13 = 86 := by omega
          refine ov_blk (ls2 := [(0, ov_r 0), (1, ov_i v4), (2, ov_r 86)]) (st2 := [ov_i v4]) (pc2 := 46) b_88_45_1 rfl rfl ?_
          exact ov_reti (st := []) d_88_46 rfl ⟨_, rfl, I28, (by show (h27 1 1) = 0 ∧ (h27 36 7) = (h 36 7) ∧ (h27 90 2) = (h 90 2) ∧ (h27 0 10) = (h 0 10) ∧ (h27 0 11) = (h 0 11) ∧ (h27 36 8) = (h 36 8) ∧ (h27 46 3) = (h 46 3) ∧ (h27 46 4) = (h 46 4) ∧ (h27 49 4) = (h 49 4) ∧ (h27 49 5) = (h 49 5); omega)⟩
    · skip
      refine ov_getf (v := ov_r 86) d_88_9 fl_OF_92 (zb_0 I) (zs_0 I) (congrArg ov_r e2) ?_
      refine ov_cV (as := [ov_r 58, ov_r 86]) (st := []) (d2 := d - 1) d_88_12 lk_OF_122 rfl (Nat.le_of_ble_eq_true rfl) (c := 6) (zb_3 I) (zs_3 I) ⟨by decide, rfl⟩ (by omega) (c_Reader_readWalk_3_58_86 (d - 1) (by omega) U I) ?_
      rintro _ z35 h36 ⟨v34, rfl, I37, f33⟩
      show ov_R u d ov_m88 15 [(0, ov_r 0)] [ov_i v34] z35 h36 (P_OF_walk_0 z h)
      have f38 : (h36 1 1) = 0 ∧ (h36 36 7) = (h 36 7) ∧ (h36 90 2) = (h 90 2) ∧ (h36 0 10) = (h 0 10) ∧ (h36 0 11) = (h 0 11) ∧ (h36 0 12) = (h 0 12) ∧ (h36 0 13) = (h 0 13) ∧ (h36 36 8) = (h 36 8) ∧ (h36 46 3) = (h 46 3) ∧ (h36 46 4) = (h 46 4) ∧ (h36 49 4) = (h 49 4) ∧ (h36 49 5) = (h 49 5) := f33
      clear f33
      have e39 : h36 0 10 = 58 := by omega
      have e40 : h36 0 13 = 86 := by omega
      refine ov_blk (ls2 := [(0, ov_r 0), (1, ov_i v34)]) (st2 := [ov_i v34]) (pc2 := 17) b_88_15_2 rfl rfl ?_
      refine ov_ifne (tgt := 45) d_88_17 (by decide) (by omega) (fun c41 => ?_) (fun c41 => ?_)
      · skip
        refine ov_blk (ls2 := [(0, ov_r 0), (1, ov_i v34)]) (st2 := [ov_i v34]) (pc2 := 46) b_88_45_1 rfl rfl ?_
        exact ov_reti (st := []) d_88_46 rfl ⟨_, rfl, I37, (by show (h36 1 1) = 0 ∧ (h36 36 7) = (h 36 7) ∧ (h36 90 2) = (h 90 2) ∧ (h36 0 10) = (h 0 10) ∧ (h36 0 11) = (h 0 11) ∧ (h36 36 8) = (h 36 8) ∧ (h36 46 3) = (h 46 3) ∧ (h36 46 4) = (h 46 4) ∧ (h36 49 4) = (h 49 4) ∧ (h36 49 5) = (h 49 5); omega)⟩
      · skip
        refine ov_blk (ls2 := [(0, ov_r 0), (1, ov_i v34)]) (st2 := [ov_r 0]) (pc2 := 21) b_88_20_1 rfl rfl ?_
        rcases rg_0_12 I37 with e42 | e42
        · skip
          refine ov_getf (v := ov_r 82) d_88_21 fl_OF_88 (zb_0 I37) (zs_0 I37) (congrArg ov_r e42) ?_
          refine ov_blk (ls2 := [(0, ov_r 0), (1, ov_i v34), (2, ov_r 82)]) (st2 := [ov_r 0, ov_r 0]) (pc2 := 27) b_88_24_3 rfl rfl ?_
          refine ov_getf (v := ov_r 86) d_88_27 fl_OF_92 (zb_0 I37) (zs_0 I37) (congrArg ov_r e40) ?_
          refine ov_putf (x := 86) d_88_30 fl_OF_88 (zb_0 I37) (zs_0 I37) rfl nk_2 rfl ?_
          have I43 := up_0_12 (x := 86) I37 (by omega)
          refine ov_blk (ls2 := [(0, ov_r 0), (1, ov_i v34), (2, ov_r 82)]) (st2 := [ov_r 82, ov_r 0]) (pc2 := 35) b_88_33_2 rfl rfl ?_
          refine ov_putf (x := 82) d_88_35 fl_OF_92 (zb_0 I43) (zs_0 I43) rfl nk_2 rfl ?_
          have I44 := up_0_13 (x := 82) I43 (by omega)
          refine ov_blk (ls2 := [(0, ov_r 0), (1, ov_i v34), (2, ov_r 82)]) (st2 := [ov_r 0]) (pc2 := 39) b_88_38_1 rfl rfl ?_
          refine ov_getf (v := ov_r 49) d_88_39 fl_OF_64 (zb_0 I44) (zs_0 I44) (congrArg ov_r (rg_0_8 I44)) ?_
          refine ov_cV (as := []) (st := []) (d2 := d - 1) d_88_42 lk_OF_126 rfl (Nat.le_of_ble_eq_true rfl) (c := 5) (zb_49 I44) (zs_49 I44) ⟨by decide, rfl⟩ (by omega) (c_Pace_forget_49 (d - 1) (by omega) U I44) ?_
          rintro _ z46 h47 ⟨rfl, I48, f45⟩
          show ov_R u d ov_m88 45 [(0, ov_r 0), (1, ov_i v34), (2, ov_r 82)] [] z46 h47 (P_OF_walk_0 z h)
          have f49 : (h47 36 7) = (h36 36 7) ∧ (h47 1 1) = (h36 1 1) ∧ (h47 90 2) = (h36 90 2) ∧ (h47 0 10) = (h36 0 10) ∧ (h47 0 11) = (h36 0 11) ∧ (h47 0 12) = 86 ∧ (h47 0 13) = 82 ∧ (h47 3 1) = (h36 3 1) ∧ (h47 36 8) = (h36 36 8) ∧ (h47 46 3) = (h36 46 3) ∧ (h47 46 4) = (h36 46 4) ∧ (h47 49 4) = (h36 49 4) ∧ (h47 49 5) = (h36 49 5) := f45
          clear f45
          have e50 : h47 0 10 = 58 := by omega
          have e51 : h47 0 12 = 86 := by omega
          have e52 : h47 0 13 = 82 := by omega
          refine ov_blk (ls2 := [(0, ov_r 0), (1, ov_i v34), (2, ov_r 82)]) (st2 := [ov_i v34]) (pc2 := 46) b_88_45_1 rfl rfl ?_
          exact ov_reti (st := []) d_88_46 rfl ⟨_, rfl, I48, (by show (h47 1 1) = 0 ∧ (h47 36 7) = (h 36 7) ∧ (h47 90 2) = (h 90 2) ∧ (h47 0 10) = (h 0 10) ∧ (h47 0 11) = (h 0 11) ∧ (h47 36 8) = (h 36 8) ∧ (h47 46 3) = (h 46 3) ∧ (h47 46 4) = (h 46 4) ∧ (h47 49 4) = (h 49 4) ∧ (h47 49 5) = (h 49 5); omega)⟩
        · skip
          refine ov_getf (v := ov_r 86) d_88_21 fl_OF_88 (zb_0 I37) (zs_0 I37) (congrArg ov_r e42) ?_
          refine ov_blk (ls2 := [(0, ov_r 0), (1, ov_i v34), (2, ov_r 86)]) (st2 := [ov_r 0, ov_r 0]) (pc2 := 27) b_88_24_3 rfl rfl ?_
          refine ov_getf (v := ov_r 86) d_88_27 fl_OF_92 (zb_0 I37) (zs_0 I37) (congrArg ov_r e40) ?_
          refine ov_putf (x := 86) d_88_30 fl_OF_88 (zb_0 I37) (zs_0 I37) rfl nk_2 rfl ?_
          have I53 := up_0_12 (x := 86) I37 (by omega)
          refine ov_blk (ls2 := [(0, ov_r 0), (1, ov_i v34), (2, ov_r 86)]) (st2 := [ov_r 86, ov_r 0]) (pc2 := 35) b_88_33_2 rfl rfl ?_
          refine ov_putf (x := 86) d_88_35 fl_OF_92 (zb_0 I53) (zs_0 I53) rfl nk_2 rfl ?_
          have I54 := up_0_13 (x := 86) I53 (by omega)
          refine ov_blk (ls2 := [(0, ov_r 0), (1, ov_i v34), (2, ov_r 86)]) (st2 := [ov_r 0]) (pc2 := 39) b_88_38_1 rfl rfl ?_
          refine ov_getf (v := ov_r 49) d_88_39 fl_OF_64 (zb_0 I54) (zs_0 I54) (congrArg ov_r (rg_0_8 I54)) ?_
          refine ov_cV (as := []) (st := []) (d2 := d - 1) d_88_42 lk_OF_126 rfl (Nat.le_of_ble_eq_true rfl) (c := 5) (zb_49 I54) (zs_49 I54) ⟨by decide, rfl⟩ (by omega) (c_Pace_forget_49 (d - 1) (by omega) U I54) ?_
          rintro _ z56 h57 ⟨rfl, I58, f55⟩
          show ov_R u d ov_m88 45 [(0, ov_r 0), (1, ov_i v34), (2, ov_r 86)] [] z56 h57 (P_OF_walk_0 z h)
          have f59 : (h57 36 7) = (h36 36 7) ∧ (h57 1 1) = (h36 1 1) ∧ (h57 90 2) = (h36 90 2) ∧ (h57 0 10) = (h36 0 10) ∧ (h57 0 11) = (h36 0 11) ∧ (h57 0 12) = 86 ∧ (h57 0 13) = 86 ∧ (h57 3 1) = (h36 3 1) ∧ (h57 36 8) = (h36 36 8) ∧ (h57 46 3) = (h36 46 3) ∧ (h57 46 4) = (h36 46 4) ∧ (h57 49 4) = (h36 49 4) ∧ (h57 49 5) = (h36 49 5) := f55
          clear f55
          have e60 : h57 0 10 = 58 := by omega
          have e61 : h57 0 12 = 86 := by omega
          have e62 : h57 0 13 = 86 := by omega
          refine ov_blk (ls2 := [(0, ov_r 0), (1, ov_i v34), (2, ov_r 86)]) (st2 := [ov_i v34]) (pc2 := 46) b_88_45_1 rfl rfl ?_
          exact ov_reti (st := []) d_88_46 rfl ⟨_, rfl, I58, (by show (h57 1 1) = 0 ∧ (h57 36 7) = (h 36 7) ∧ (h57 90 2) = (h 90 2) ∧ (h57 0 10) = (h 0 10) ∧ (h57 0 11) = (h 0 11) ∧ (h57 36 8) = (h 36 8) ∧ (h57 46 3) = (h 46 3) ∧ (h57 46 4) = (h 46 4) ∧ (h57 49 4) = (h 49 4) ∧ (h57 49 5) = (h 49 5); omega)⟩
  · skip
    refine ov_getf (v := ov_r 70) d_88_5 fl_OF_78 (zb_0 I) (zs_0 I) (congrArg ov_r e1) ?_
    refine ov_blk (ls2 := [(0, ov_r 0)]) (st2 := [ov_r 0, ov_r 70, ov_r 3]) (pc2 := 9) b_88_8_1 rfl rfl ?_
    rcases rg_0_13 I with e63 | e63
    · skip
      refine ov_getf (v := ov_r 82) d_88_9 fl_OF_92 (zb_0 I) (zs_0 I) (congrArg ov_r e63) ?_
      refine ov_cV (as := [ov_r 70, ov_r 82]) (st := []) (d2 := d - 1) d_88_12 lk_OF_122 rfl (Nat.le_of_ble_eq_true rfl) (c := 6) (zb_3 I) (zs_3 I) ⟨by decide, rfl⟩ (by omega) (c_Reader_readWalk_3_70_82 (d - 1) (by omega) U I) ?_
      rintro _ z66 h67 ⟨v65, rfl, I68, f64⟩
      show ov_R u d ov_m88 15 [(0, ov_r 0)] [ov_i v65] z66 h67 (P_OF_walk_0 z h)
      have f69 : (h67 1 1) = 0 ∧ (h67 36 7) = (h 36 7) ∧ (h67 90 2) = (h 90 2) ∧ (h67 0 10) = (h 0 10) ∧ (h67 0 11) = (h 0 11) ∧ (h67 0 12) = (h 0 12) ∧ (h67 0 13) = (h 0 13) ∧ (h67 36 8) = (h 36 8) ∧ (h67 46 3) = (h 46 3) ∧ (h67 46 4) = (h 46 4) ∧ (h67 49 4) = (h 49 4) ∧ (h67 49 5) = (h 49 5) := f64
      clear f64
      have e70 : h67 0 10 = 70 := by omega
      have e71 : h67 0 13 = 82 := by omega
      refine ov_blk (ls2 := [(0, ov_r 0), (1, ov_i v65)]) (st2 := [ov_i v65]) (pc2 := 17) b_88_15_2 rfl rfl ?_
      refine ov_ifne (tgt := 45) d_88_17 (by decide) (by omega) (fun c72 => ?_) (fun c72 => ?_)
      · skip
        refine ov_blk (ls2 := [(0, ov_r 0), (1, ov_i v65)]) (st2 := [ov_i v65]) (pc2 := 46) b_88_45_1 rfl rfl ?_
        exact ov_reti (st := []) d_88_46 rfl ⟨_, rfl, I68, (by show (h67 1 1) = 0 ∧ (h67 36 7) = (h 36 7) ∧ (h67 90 2) = (h 90 2) ∧ (h67 0 10) = (h 0 10) ∧ (h67 0 11) = (h 0 11) ∧ (h67 36 8) = (h 36 8) ∧ (h67 46 3) = (h 46 3) ∧ (h67 46 4) = (h 46 4) ∧ (h67 49 4) = (h 49 4) ∧ (h67 49 5) = (h 49 5); omega)⟩
      · skip
        refine ov_blk (ls2 := [(0, ov_r 0), (1, ov_i v65)]) (st2 := [ov_r 0]) (pc2 := 21) b_88_20_1 rfl rfl ?_
        rcases rg_0_12 I68 with e73 | e73
        · skip
          refine ov_getf (v := ov_r 82) d_88_21 fl_OF_88 (zb_0 I68) (zs_0 I68) (congrArg ov_r e73) ?_
          refine ov_blk (ls2 := [(0, ov_r 0), (1, ov_i v65), (2, ov_r 82)]) (st2 := [ov_r 0, ov_r 0]) (pc2 := 27) b_88_24_3 rfl rfl ?_
          refine ov_getf (v := ov_r 82) d_88_27 fl_OF_92 (zb_0 I68) (zs_0 I68) (congrArg ov_r e71) ?_
          refine ov_putf (x := 82) d_88_30 fl_OF_88 (zb_0 I68) (zs_0 I68) rfl nk_2 rfl ?_
          have I74 := up_0_12 (x := 82) I68 (by omega)
          refine ov_blk (ls2 := [(0, ov_r 0), (1, ov_i v65), (2, ov_r 82)]) (st2 := [ov_r 82, ov_r 0]) (pc2 := 35) b_88_33_2 rfl rfl ?_
          refine ov_putf (x := 82) d_88_35 fl_OF_92 (zb_0 I74) (zs_0 I74) rfl nk_2 rfl ?_
          have I75 := up_0_13 (x := 82) I74 (by omega)
          refine ov_blk (ls2 := [(0, ov_r 0), (1, ov_i v65), (2, ov_r 82)]) (st2 := [ov_r 0]) (pc2 := 39) b_88_38_1 rfl rfl ?_
          refine ov_getf (v := ov_r 49) d_88_39 fl_OF_64 (zb_0 I75) (zs_0 I75) (congrArg ov_r (rg_0_8 I75)) ?_
          refine ov_cV (as := []) (st := []) (d2 := d - 1) d_88_42 lk_OF_126 rfl (Nat.le_of_ble_eq_true rfl) (c := 5) (zb_49 I75) (zs_49 I75) ⟨by decide, rfl⟩ (by omega) (c_Pace_forget_49 (d - 1) (by omega) U I75) ?_
          rintro _ z77 h78 ⟨rfl, I79, f76⟩
          show ov_R u d ov_m88 45 [(0, ov_r 0), (1, ov_i v65), (2, ov_r 82)] [] z77 h78 (P_OF_walk_0 z h)
          have f80 : (h78 36 7) = (h67 36 7) ∧ (h78 1 1) = (h67 1 1) ∧ (h78 90 2) = (h67 90 2) ∧ (h78 0 10) = (h67 0 10) ∧ (h78 0 11) = (h67 0 11) ∧ (h78 0 12) = 82 ∧ (h78 0 13) = 82 ∧ (h78 3 1) = (h67 3 1) ∧ (h78 36 8) = (h67 36 8) ∧ (h78 46 3) = (h67 46 3) ∧ (h78 46 4) = (h67 46 4) ∧ (h78 49 4) = (h67 49 4) ∧ (h78 49 5) = (h67 49 5) := f76
          clear f76
          have e81 : h78 0 10 = 70 := by omega
          have e82 : h78 0 12 = 82 := by omega
          have e83 : h78 0 13 = 82 := by omega
          refine ov_blk (ls2 := [(0, ov_r 0), (1, ov_i v65), (2, ov_r 82)]) (st2 := [ov_i v65]) (pc2 := 46) b_88_45_1 rfl rfl ?_
          exact ov_reti (st := []) d_88_46 rfl ⟨_, rfl, I79, (by show (h78 1 1) = 0 ∧ (h78 36 7) = (h 36 7) ∧ (h78 90 2) = (h 90 2) ∧ (h78 0 10) = (h 0 10) ∧ (h78 0 11) = (h 0 11) ∧ (h78 36 8) = (h 36 8) ∧ (h78 46 3) = (h 46 3) ∧ (h78 46 4) = (h 46 4) ∧ (h78 49 4) = (h 49 4) ∧ (h78 49 5) = (h 49 5); omega)⟩
        · skip
          refine ov_getf (v := ov_r 86) d_88_21 fl_OF_88 (zb_0 I68) (zs_0 I68) (congrArg ov_r e73) ?_
          refine ov_blk (ls2 := [(0, ov_r 0), (1, ov_i v65), (2, ov_r 86)]) (st2 := [ov_r 0, ov_r 0]) (pc2 := 27) b_88_24_3 rfl rfl ?_
          refine ov_getf (v := ov_r 82) d_88_27 fl_OF_92 (zb_0 I68) (zs_0 I68) (congrArg ov_r e71) ?_
          refine ov_putf (x := 82) d_88_30 fl_OF_88 (zb_0 I68) (zs_0 I68) rfl nk_2 rfl ?_
          have I84 := up_0_12 (x := 82) I68 (by omega)
          refine ov_blk (ls2 := [(0, ov_r 0), (1, ov_i v65), (2, ov_r 86)]) (st2 := [ov_r 86, ov_r 0]) (pc2 := 35) b_88_33_2 rfl rfl ?_
          refine ov_putf (x := 86) d_88_35 fl_OF_92 (zb_0 I84) (zs_0 I84) rfl nk_2 rfl ?_
          have I85 := up_0_13 (x := 86) I84 (by omega)
          refine ov_blk (ls2 := [(0, ov_r 0), (1, ov_i v65), (2, ov_r 86)]) (st2 := [ov_r 0]) (pc2 := 39) b_88_38_1 rfl rfl ?_
          refine ov_getf (v := ov_r 49) d_88_39 fl_OF_64 (zb_0 I85) (zs_0 I85) (congrArg ov_r (rg_0_8 I85)) ?_
          refine ov_cV (as := []) (st := []) (d2 := d - 1) d_88_42 lk_OF_126 rfl (Nat.le_of_ble_eq_true rfl) (c := 5) (zb_49 I85) (zs_49 I85) ⟨by decide, rfl⟩ (by omega) (c_Pace_forget_49 (d - 1) (by omega) U I85) ?_
          rintro _ z87 h88 ⟨rfl, I89, f86⟩
          show ov_R u d ov_m88 45 [(0, ov_r 0), (1, ov_i v65), (2, ov_r 86)] [] z87 h88 (P_OF_walk_0 z h)
          have f90 : (h88 36 7) = (h67 36 7) ∧ (h88 1 1) = (h67 1 1) ∧ (h88 90 2) = (h67 90 2) ∧ (h88 0 10) = (h67 0 10) ∧ (h88 0 11) = (h67 0 11) ∧ (h88 0 12) = 82 ∧ (h88 0 13) = 86 ∧ (h88 3 1) = (h67 3 1) ∧ (h88 36 8) = (h67 36 8) ∧ (h88 46 3) = (h67 46 3) ∧ (h88 46 4) = (h67 46 4) ∧ (h88 49 4) = (h67 49 4) ∧ (h88 49 5) = (h67 49 5) := f86
          clear f86
          have e91 : h88 0 10 = 70 := by omega
          have e92 : h88 0 12 = 82 := by omega
          have e93 : h88 0 13 = 86 := by omega
          refine ov_blk (ls2 := [(0, ov_r 0), (1, ov_i v65), (2, ov_r 86)]) (st2 := [ov_i v65]) (pc2 := 46) b_88_45_1 rfl rfl ?_
          exact ov_reti (st := []) d_88_46 rfl ⟨_, rfl, I89, (by show (h88 1 1) = 0 ∧ (h88 36 7) = (h 36 7) ∧ (h88 90 2) = (h 90 2) ∧ (h88 0 10) = (h 0 10) ∧ (h88 0 11) = (h 0 11) ∧ (h88 36 8) = (h 36 8) ∧ (h88 46 3) = (h 46 3) ∧ (h88 46 4) = (h 46 4) ∧ (h88 49 4) = (h 49 4) ∧ (h88 49 5) = (h 49 5); omega)⟩
    · skip
      refine ov_getf (v := ov_r 86) d_88_9 fl_OF_92 (zb_0 I) (zs_0 I) (congrArg ov_r e63) ?_
      refine ov_cV (as := [ov_r 70, ov_r 86]) (st := []) (d2 := d - 1) d_88_12 lk_OF_122 rfl (Nat.le_of_ble_eq_true rfl) (c := 6) (zb_3 I) (zs_3 I) ⟨by decide, rfl⟩ (by omega) (c_Reader_readWalk_3_70_86 (d - 1) (by omega) U I) ?_
      rintro _ z96 h97 ⟨v95, rfl, I98, f94⟩
      show ov_R u d ov_m88 15 [(0, ov_r 0)] [ov_i v95] z96 h97 (P_OF_walk_0 z h)
      have f99 : (h97 1 1) = 0 ∧ (h97 36 7) = (h 36 7) ∧ (h97 90 2) = (h 90 2) ∧ (h97 0 10) = (h 0 10) ∧ (h97 0 11) = (h 0 11) ∧ (h97 0 12) = (h 0 12) ∧ (h97 0 13) = (h 0 13) ∧ (h97 36 8) = (h 36 8) ∧ (h97 46 3) = (h 46 3) ∧ (h97 46 4) = (h 46 4) ∧ (h97 49 4) = (h 49 4) ∧ (h97 49 5) = (h 49 5) := f94
      clear f94
      have e100 : h97 0 10 = 70 := by omega
      have e101 : h97 0 13 = 86 := by omega
      refine ov_blk (ls2 := [(0, ov_r 0), (1, ov_i v95)]) (st2 := [ov_i v95]) (pc2 := 17) b_88_15_2 rfl rfl ?_
      refine ov_ifne (tgt := 45) d_88_17 (by decide) (by omega) (fun c102 => ?_) (fun c102 => ?_)
      · skip
        refine ov_blk (ls2 := [(0, ov_r 0), (1, ov_i v95)]) (st2 := [ov_i v95]) (pc2 := 46) b_88_45_1 rfl rfl ?_
        exact ov_reti (st := []) d_88_46 rfl ⟨_, rfl, I98, (by show (h97 1 1) = 0 ∧ (h97 36 7) = (h 36 7) ∧ (h97 90 2) = (h 90 2) ∧ (h97 0 10) = (h 0 10) ∧ (h97 0 11) = (h 0 11) ∧ (h97 36 8) = (h 36 8) ∧ (h97 46 3) = (h 46 3) ∧ (h97 46 4) = (h 46 4) ∧ (h97 49 4) = (h 49 4) ∧ (h97 49 5) = (h 49 5); omega)⟩
      · skip
        refine ov_blk (ls2 := [(0, ov_r 0), (1, ov_i v95)]) (st2 := [ov_r 0]) (pc2 := 21) b_88_20_1 rfl rfl ?_
        rcases rg_0_12 I98 with e103 | e103
        · skip
          refine ov_getf (v := ov_r 82) d_88_21 fl_OF_88 (zb_0 I98) (zs_0 I98) (congrArg ov_r e103) ?_
          refine ov_blk (ls2 := [(0, ov_r 0), (1, ov_i v95), (2, ov_r 82)]) (st2 := [ov_r 0, ov_r 0]) (pc2 := 27) b_88_24_3 rfl rfl ?_
          refine ov_getf (v := ov_r 86) d_88_27 fl_OF_92 (zb_0 I98) (zs_0 I98) (congrArg ov_r e101) ?_
          refine ov_putf (x := 86) d_88_30 fl_OF_88 (zb_0 I98) (zs_0 I98) rfl nk_2 rfl ?_
          have I104 := up_0_12 (x := 86) I98 (by omega)
          refine ov_blk (ls2 := [(0, ov_r 0), (1, ov_i v95), (2, ov_r 82)]) (st2 := [ov_r 82, ov_r 0]) (pc2 := 35) b_88_33_2 rfl rfl ?_
          refine ov_putf (x := 82) d_88_35 fl_OF_92 (zb_0 I104) (zs_0 I104) rfl nk_2 rfl ?_
          have I105 := up_0_13 (x := 82) I104 (by omega)
          refine ov_blk (ls2 := [(0, ov_r 0), (1, ov_i v95), (2, ov_r 82)]) (st2 := [ov_r 0]) (pc2 := 39) b_88_38_1 rfl rfl ?_
          refine ov_getf (v := ov_r 49) d_88_39 fl_OF_64 (zb_0 I105) (zs_0 I105) (congrArg ov_r (rg_0_8 I105)) ?_
          refine ov_cV (as := []) (st := []) (d2 := d - 1) d_88_42 lk_OF_126 rfl (Nat.le_of_ble_eq_true rfl) (c := 5) (zb_49 I105) (zs_49 I105) ⟨by decide, rfl⟩ (by omega) (c_Pace_forget_49 (d - 1) (by omega) U I105) ?_
          rintro _ z107 h108 ⟨rfl, I109, f106⟩
          show ov_R u d ov_m88 45 [(0, ov_r 0), (1, ov_i v95), (2, ov_r 82)] [] z107 h108 (P_OF_walk_0 z h)
          have f110 : (h108 36 7) = (h97 36 7) ∧ (h108 1 1) = (h97 1 1) ∧ (h108 90 2) = (h97 90 2) ∧ (h108 0 10) = (h97 0 10) ∧ (h108 0 11) = (h97 0 11) ∧ (h108 0 12) = 86 ∧ (h108 0 13) = 82 ∧ (h108 3 1) = (h97 3 1) ∧ (h108 36 8) = (h97 36 8) ∧ (h108 46 3) = (h97 46 3) ∧ (h108 46 4) = (h97 46 4) ∧ (h108 49 4) = (h97 49 4) ∧ (h108 49 5) = (h97 49 5) := f106
          clear f106
          have e111 : h108 0 10 = 70 := by omega
          have e112 : h108 0 12 = 86 := by omega
          have e113 : h108 0 13 = 82 := by omega
          refine ov_blk (ls2 := [(0, ov_r 0), (1, ov_i v95), (2, ov_r 82)]) (st2 := [ov_i v95]) (pc2 := 46) b_88_45_1 rfl rfl ?_
          exact ov_reti (st := []) d_88_46 rfl ⟨_, rfl, I109, (by show (h108 1 1) = 0 ∧ (h108 36 7) = (h 36 7) ∧ (h108 90 2) = (h 90 2) ∧ (h108 0 10) = (h 0 10) ∧ (h108 0 11) = (h 0 11) ∧ (h108 36 8) = (h 36 8) ∧ (h108 46 3) = (h 46 3) ∧ (h108 46 4) = (h 46 4) ∧ (h108 49 4) = (h 49 4) ∧ (h108 49 5) = (h 49 5); omega)⟩
        · skip
          refine ov_getf (v := ov_r 86) d_88_21 fl_OF_88 (zb_0 I98) (zs_0 I98) (congrArg ov_r e103) ?_
          refine ov_blk (ls2 := [(0, ov_r 0), (1, ov_i v95), (2, ov_r 86)]) (st2 := [ov_r 0, ov_r 0]) (pc2 := 27) b_88_24_3 rfl rfl ?_
          refine ov_getf (v := ov_r 86) d_88_27 fl_OF_92 (zb_0 I98) (zs_0 I98) (congrArg ov_r e101) ?_
          refine ov_putf (x := 86) d_88_30 fl_OF_88 (zb_0 I98) (zs_0 I98) rfl nk_2 rfl ?_
          have I114 := up_0_12 (x := 86) I98 (by omega)
          refine ov_blk (ls2 := [(0, ov_r 0), (1, ov_i v95), (2, ov_r 86)]) (st2 := [ov_r 86, ov_r 0]) (pc2 := 35) b_88_33_2 rfl rfl ?_
          refine ov_putf (x := 86) d_88_35 fl_OF_92 (zb_0 I114) (zs_0 I114) rfl nk_2 rfl ?_
          have I115 := up_0_13 (x := 86) I114 (by omega)
          refine ov_blk (ls2 := [(0, ov_r 0), (1, ov_i v95), (2, ov_r 86)]) (st2 := [ov_r 0]) (pc2 := 39) b_88_38_1 rfl rfl ?_
          refine ov_getf (v := ov_r 49) d_88_39 fl_OF_64 (zb_0 I115) (zs_0 I115) (congrArg ov_r (rg_0_8 I115)) ?_
          refine ov_cV (as := []) (st := []) (d2 := d - 1) d_88_42 lk_OF_126 rfl (Nat.le_of_ble_eq_true rfl) (c := 5) (zb_49 I115) (zs_49 I115) ⟨by decide, rfl⟩ (by omega) (c_Pace_forget_49 (d - 1) (by omega) U I115) ?_
          rintro _ z117 h118 ⟨rfl, I119, f116⟩
          show ov_R u d ov_m88 45 [(0, ov_r 0), (1, ov_i v95), (2, ov_r 86)] [] z117 h118 (P_OF_walk_0 z h)
          have f120 : (h118 36 7) = (h97 36 7) ∧ (h118 1 1) = (h97 1 1) ∧ (h118 90 2) = (h97 90 2) ∧ (h118 0 10) = (h97 0 10) ∧ (h118 0 11) = (h97 0 11) ∧ (h118 0 12) = 86 ∧ (h118 0 13) = 86 ∧ (h118 3 1) = (h97 3 1) ∧ (h118 36 8) = (h97 36 8) ∧ (h118 46 3) = (h97 46 3) ∧ (h118 46 4) = (h97 46 4) ∧ (h118 49 4) = (h97 49 4) ∧ (h118 49 5) = (h97 49 5) := f116
          clear f116
          have e121 : h118 0 10 = 70 := by omega
          have e122 : h118 0 12 = 86 := by omega
          have e123 : h118 0 13 = 86 := by omega
          refine ov_blk (ls2 := [(0, ov_r 0), (1, ov_i v95), (2, ov_r 86)]) (st2 := [ov_i v95]) (pc2 := 46) b_88_45_1 rfl rfl ?_
          exact ov_reti (st := []) d_88_46 rfl ⟨_, rfl, I119, (by show (h118 1 1) = 0 ∧ (h118 36 7) = (h 36 7) ∧ (h118 90 2) = (h 90 2) ∧ (h118 0 10) = (h 0 10) ∧ (h118 0 11) = (h 0 11) ∧ (h118 36 8) = (h 36 8) ∧ (h118 46 3) = (h 46 3) ∧ (h118 46 4) = (h 46 4) ∧ (h118 49 4) = (h 49 4) ∧ (h118 49 5) = (h 49 5); omega)⟩
abbrev P_OF_light_0 (z : ov_Z) (h : ov_H) (x : Int) (y : Int) (w : Int) : Option ov_V → ov_Z → ov_H → Prop := fun r0 z' h' => ∃ r : Int, r0 = some (ov_i r) ∧ z = z' ∧ h = h' ∧ (True)
set_option maxHeartbeats 4000000 in
theorem c_OF_light_0 {u : ov_U} {z : ov_Z} {h : ov_H} (d : Nat) (hd : 1 ≤ d) (U : ov_cap u) (I : ov_I z h) (x : Int) (y : Int) (w : Int) (g_x : ov_g x) (g_y : ov_g y) (g_w : ov_g w) : ov_T u d ov_m93 [ov_r 0, ov_i x, ov_i y, ov_i w] z h (P_OF_light_0 z h x y w) := by
  refine ov_en rfl (Nat.le_of_ble_eq_true rfl) ?_
  show ov_R u d ov_m93 0 [(0, ov_r 0), (1, ov_i x), (2, ov_i y), (3, ov_i w)] [] z h (P_OF_light_0 z h x y w)
  refine ov_blk (ls2 := [(0, ov_r 0), (1, ov_i x), (2, ov_i y), (3, ov_i w)]) (st2 := [ov_r 0]) (pc2 := 1) b_93_0_1 rfl rfl ?_
  rcases rg_0_10 I with e1 | e1
  · skip
    refine ov_getf (v := ov_r 58) d_93_1 fl_OF_78 (zb_0 I) (zs_0 I) (congrArg ov_r e1) ?_
    refine ov_blk (ls2 := [(0, ov_r 0), (1, ov_i x), (2, ov_i y), (3, ov_i w)]) (st2 := [ov_i y, ov_i x, ov_r 58]) (pc2 := 6) b_93_4_2 rfl rfl ?_
    refine ov_cV (as := [ov_i x, ov_i y]) (st := []) (d2 := d - 1) d_93_6 lk_OF_131 rfl (Nat.le_of_ble_eq_true rfl) (c := 9) (zb_58 I) (zs_58 I) ⟨by decide, rfl⟩ (by omega) (c_Town_corner_58 (d - 1) (by omega) U I x y (by omega) (by omega)) ?_
    rintro _ _ _ ⟨v3, rfl, rfl, rfl, f2⟩
    show ov_R u d ov_m93 9 [(0, ov_r 0), (1, ov_i x), (2, ov_i y), (3, ov_i w)] [ov_i v3] z h (P_OF_light_0 z h x y w)
    have f4 : v3 = -1 ∨ (0 ≤ x ∧ x < (h 58 0) ∧ 0 ≤ y ∧ y < (h 58 1) ∧ v3 = y * 6 + x ∧ (h 58 0) ≤ 6 ∧ (h 58 1) ≤ 9) := f2
    clear f2
    refine ov_blk (ls2 := [(0, ov_r 0), (1, ov_i x), (2, ov_i y), (3, ov_i w), (4, ov_i v3)]) (st2 := [ov_i (-1), ov_i v3]) (pc2 := 14) b_93_9_3 rfl rfl ?_
    refine ov_icne (tgt := 19) d_93_14 (by decide) (by omega) (by omega) (fun c5 => ?_) (fun c5 => ?_)
    · skip
      refine ov_blk (ls2 := [(0, ov_r 0), (1, ov_i x), (2, ov_i y), (3, ov_i w), (4, ov_i v3)]) (st2 := [ov_i 5, ov_i w]) (pc2 := 21) b_93_19_2 rfl rfl ?_
      refine ov_icne (tgt := 35) d_93_21 (by decide) (by omega) (by omega) (fun c6 => ?_) (fun c6 => ?_)
      · skip
        refine ov_blk (ls2 := [(0, ov_r 0), (1, ov_i x), (2, ov_i y), (3, ov_i w), (4, ov_i v3)]) (st2 := [ov_r 0]) (pc2 := 36) b_93_35_1 rfl rfl ?_
        refine ov_getf (v := ov_r 58) d_93_36 fl_OF_78 (zb_0 I) (zs_0 I) (congrArg ov_r e1) ?_
        refine ov_getf (v := ov_r 59) d_93_39 fl_OF_139 (zb_58 I) (zs_58 I) (congrArg ov_r (rg_58_2 I)) ?_
        refine ov_blk (ls2 := [(0, ov_r 0), (1, ov_i x), (2, ov_i y), (3, ov_i w), (4, ov_i v3)]) (st2 := [ov_i v3, ov_r 59]) (pc2 := 44) b_93_42_1 rfl rfl ?_
        refine ov_iald d_93_44 (zb_59 I) (zs_59 I) (by omega) ?_
        have g7 := ra_59 I v3
        refine ov_blk (ls2 := [(0, ov_r 0), (1, ov_i x), (2, ov_i y), (3, ov_i w), (4, ov_i v3)]) (st2 := [ov_i (-1), ov_i (h 59 v3)]) (pc2 := 46) b_93_45_1 rfl rfl ?_
        refine ov_icne (tgt := 51) d_93_46 (by decide) (by omega) (by omega) (fun c8 => ?_) (fun c8 => ?_)
        · skip
          refine ov_blk (ls2 := [(0, ov_r 0), (1, ov_i x), (2, ov_i y), (3, ov_i w), (4, ov_i v3)]) (st2 := [ov_i w]) (pc2 := 52) b_93_51_1 rfl rfl ?_
          by_cases q9 : w = 0
          · refine ov_tin (off := 36) (tgt := 88) d_93_52 (by omega) (by omega) (by rw [q9]; rfl) (by decide) ?_
            refine ov_blk (ls2 := [(0, ov_r 0), (1, ov_i x), (2, ov_i y), (3, ov_i w), (4, ov_i v3)]) (st2 := [ov_r 0]) (pc2 := 89) b_93_88_1 rfl rfl ?_
            refine ov_getf (v := ov_r 58) d_93_89 fl_OF_78 (zb_0 I) (zs_0 I) (congrArg ov_r e1) ?_
            refine ov_getf (v := ov_r 59) d_93_92 fl_OF_139 (zb_58 I) (zs_58 I) (congrArg ov_r (rg_58_2 I)) ?_
            refine ov_blk (ls2 := [(0, ov_r 0), (1, ov_i x), (2, ov_i y), (3, ov_i w), (4, ov_i v3)]) (st2 := [ov_i v3, ov_r 59]) (pc2 := 97) b_93_95_1 rfl rfl ?_
            refine ov_iald d_93_97 (zb_59 I) (zs_59 I) (by omega) ?_
            exact ov_reti (st := []) d_93_98 rfl ⟨_, rfl, rfl, rfl, trivial⟩
          by_cases q11 : w = 1
          · refine ov_tin (off := 47) (tgt := 99) d_93_52 (by omega) (by omega) (by rw [q11]; rfl) (by decide) ?_
            refine ov_blk (ls2 := [(0, ov_r 0), (1, ov_i x), (2, ov_i y), (3, ov_i w), (4, ov_i v3)]) (st2 := [ov_r 0]) (pc2 := 100) b_93_99_1 rfl rfl ?_
            refine ov_getf (v := ov_r 58) d_93_100 fl_OF_78 (zb_0 I) (zs_0 I) (congrArg ov_r e1) ?_
            refine ov_getf (v := ov_r 60) d_93_103 fl_OF_142 (zb_58 I) (zs_58 I) (congrArg ov_r (rg_58_3 I)) ?_
            refine ov_blk (ls2 := [(0, ov_r 0), (1, ov_i x), (2, ov_i y), (3, ov_i w), (4, ov_i v3)]) (st2 := [ov_i v3, ov_r 60]) (pc2 := 108) b_93_106_1 rfl rfl ?_
            refine ov_iald d_93_108 (zb_60 I) (zs_60 I) (by omega) ?_
            have g12 := ra_60 I v3
            exact ov_reti (st := []) d_93_109 rfl ⟨_, rfl, rfl, rfl, trivial⟩
          by_cases q13 : w = 2
          · refine ov_tin (off := 58) (tgt := 110) d_93_52 (by omega) (by omega) (by rw [q13]; rfl) (by decide) ?_
            refine ov_blk (ls2 := [(0, ov_r 0), (1, ov_i x), (2, ov_i y), (3, ov_i w), (4, ov_i v3)]) (st2 := [ov_r 0]) (pc2 := 111) b_93_110_1 rfl rfl ?_
            refine ov_getf (v := ov_r 58) d_93_111 fl_OF_78 (zb_0 I) (zs_0 I) (congrArg ov_r e1) ?_
            refine ov_getf (v := ov_r 61) d_93_114 fl_OF_145 (zb_58 I) (zs_58 I) (congrArg ov_r (rg_58_4 I)) ?_
            refine ov_blk (ls2 := [(0, ov_r 0), (1, ov_i x), (2, ov_i y), (3, ov_i w), (4, ov_i v3)]) (st2 := [ov_i v3, ov_r 61]) (pc2 := 119) b_93_117_1 rfl rfl ?_
            refine ov_iald d_93_119 (zb_61 I) (zs_61 I) (by omega) ?_
            have g14 := ra_61 I v3
            exact ov_reti (st := []) d_93_120 rfl ⟨_, rfl, rfl, rfl, trivial⟩
          by_cases q15 : w = 3
          · refine ov_tin (off := 69) (tgt := 121) d_93_52 (by omega) (by omega) (by rw [q15]; rfl) (by decide) ?_
            refine ov_blk (ls2 := [(0, ov_r 0), (1, ov_i x), (2, ov_i y), (3, ov_i w), (4, ov_i v3)]) (st2 := [ov_r 0]) (pc2 := 122) b_93_121_1 rfl rfl ?_
            refine ov_getf (v := ov_r 58) d_93_122 fl_OF_78 (zb_0 I) (zs_0 I) (congrArg ov_r e1) ?_
            refine ov_getf (v := ov_r 62) d_93_125 fl_OF_148 (zb_58 I) (zs_58 I) (congrArg ov_r (rg_58_5 I)) ?_
            refine ov_blk (ls2 := [(0, ov_r 0), (1, ov_i x), (2, ov_i y), (3, ov_i w), (4, ov_i v3)]) (st2 := [ov_i v3, ov_r 62]) (pc2 := 130) b_93_128_1 rfl rfl ?_
            refine ov_iald d_93_130 (zb_62 I) (zs_62 I) (by omega) ?_
            have g16 := ra_62 I v3
            exact ov_reti (st := []) d_93_131 rfl ⟨_, rfl, rfl, rfl, trivial⟩
          by_cases q17 : w = 4
          · refine ov_tin (off := 80) (tgt := 132) d_93_52 (by omega) (by omega) (by rw [q17]; rfl) (by decide) ?_
            refine ov_blk (ls2 := [(0, ov_r 0), (1, ov_i x), (2, ov_i y), (3, ov_i w), (4, ov_i v3)]) (st2 := [ov_r 0]) (pc2 := 133) b_93_132_1 rfl rfl ?_
            refine ov_getf (v := ov_r 58) d_93_133 fl_OF_78 (zb_0 I) (zs_0 I) (congrArg ov_r e1) ?_
            refine ov_getf (v := ov_r 59) d_93_136 fl_OF_139 (zb_58 I) (zs_58 I) (congrArg ov_r (rg_58_2 I)) ?_
            refine ov_blk (ls2 := [(0, ov_r 0), (1, ov_i x), (2, ov_i y), (3, ov_i w), (4, ov_i v3)]) (st2 := [ov_i v3, ov_r 59]) (pc2 := 141) b_93_139_1 rfl rfl ?_
            refine ov_iald d_93_141 (zb_59 I) (zs_59 I) (by omega) ?_
            refine ov_blk (ls2 := [(0, ov_r 0), (1, ov_i x), (2, ov_i y), (3, ov_i w), (4, ov_i v3)]) (st2 := [ov_i 1, ov_i (h 59 v3)]) (pc2 := 143) b_93_142_1 rfl rfl ?_
            refine ov_icne (tgt := 162) d_93_143 (by decide) (by omega) (by omega) (fun c19 => ?_) (fun c19 => ?_)
            · skip
              refine ov_blk (ls2 := [(0, ov_r 0), (1, ov_i x), (2, ov_i y), (3, ov_i w), (4, ov_i v3)]) (st2 := [ov_i 0]) (pc2 := 163) b_93_162_1 rfl rfl ?_
              exact ov_reti (st := []) d_93_163 rfl ⟨_, rfl, rfl, rfl, trivial⟩
            · skip
              refine ov_blk (ls2 := [(0, ov_r 0), (1, ov_i x), (2, ov_i y), (3, ov_i w), (4, ov_i v3)]) (st2 := [ov_r 0]) (pc2 := 147) b_93_146_1 rfl rfl ?_
              refine ov_getf (v := ov_r 4) d_93_147 fl_OF_28 (zb_0 I) (zs_0 I) (congrArg ov_r (rg_0_2 I)) ?_
              refine ov_blk (ls2 := [(0, ov_r 0), (1, ov_i x), (2, ov_i y), (3, ov_i w), (4, ov_i v3)]) (st2 := [ov_i v3, ov_r 4]) (pc2 := 152) b_93_150_1 rfl rfl ?_
              refine ov_cV (as := [ov_i v3]) (st := []) (d2 := d - 1) d_93_152 lk_OF_151 rfl (Nat.le_of_ble_eq_true rfl) (c := 7) (zb_4 I) (zs_4 I) ⟨by decide, rfl⟩ (by omega) (c_State_knows_4 (d - 1) (by omega) U I v3 (by omega)) ?_
              rintro _ _ _ ⟨v21, rfl, rfl, rfl, f20⟩
              show ov_R u d ov_m93 155 [(0, ov_r 0), (1, ov_i x), (2, ov_i y), (3, ov_i w), (4, ov_i v3)] [ov_i v21] z h (P_OF_light_0 z h x y w)
              have f22 : (v21 = 0 ∨ v21 = 1) := f20
              clear f20
              refine ov_ifeq (tgt := 162) d_93_155 (by decide) (by omega) (fun c23 => ?_) (fun c23 => ?_)
              · skip
                refine ov_blk (ls2 := [(0, ov_r 0), (1, ov_i x), (2, ov_i y), (3, ov_i w), (4, ov_i v3)]) (st2 := [ov_i 0]) (pc2 := 163) b_93_162_1 rfl rfl ?_
                exact ov_reti (st := []) d_93_163 rfl ⟨_, rfl, rfl, rfl, trivial⟩
              · skip
                refine ov_blk (ls2 := [(0, ov_r 0), (1, ov_i x), (2, ov_i y), (3, ov_i w), (4, ov_i v3)]) (st2 := [ov_i 1]) (pc2 := 159) b_93_158_1 rfl rfl ?_
                refine ov_goto (tgt := 163) d_93_159 (by decide) ?_
                exact ov_reti (st := []) d_93_163 rfl ⟨_, rfl, rfl, rfl, trivial⟩
          refine ov_tout (tgt := 164) d_93_52 (by omega) (by omega) (by decide) ?_
          refine ov_blk (ls2 := [(0, ov_r 0), (1, ov_i x), (2, ov_i y), (3, ov_i w), (4, ov_i v3)]) (st2 := [ov_i (-1)]) (pc2 := 165) b_93_164_1 rfl rfl ?_
          exact ov_reti (st := []) d_93_165 rfl ⟨_, rfl, rfl, rfl, trivial⟩
        · skip
          refine ov_blk (ls2 := [(0, ov_r 0), (1, ov_i x), (2, ov_i y), (3, ov_i w), (4, ov_i v3)]) (st2 := [ov_i (-1)]) (pc2 := 50) b_93_49_1 rfl rfl ?_
          exact ov_reti (st := []) d_93_50 rfl ⟨_, rfl, rfl, rfl, trivial⟩
      · skip
        refine ov_blk (ls2 := [(0, ov_r 0), (1, ov_i x), (2, ov_i y), (3, ov_i w), (4, ov_i v3)]) (st2 := [ov_r 0]) (pc2 := 25) b_93_24_1 rfl rfl ?_
        refine ov_getf (v := ov_r 58) d_93_25 fl_OF_78 (zb_0 I) (zs_0 I) (congrArg ov_r e1) ?_
        refine ov_getf (v := ov_r 63) d_93_28 fl_OF_135 (zb_58 I) (zs_58 I) (congrArg ov_r (rg_58_6 I)) ?_
        refine ov_blk (ls2 := [(0, ov_r 0), (1, ov_i x), (2, ov_i y), (3, ov_i w), (4, ov_i v3)]) (st2 := [ov_i v3, ov_r 63]) (pc2 := 33) b_93_31_1 rfl rfl ?_
        refine ov_iald d_93_33 (zb_63 I) (zs_63 I) (by omega) ?_
        have g24 := ra_63 I v3
        exact ov_reti (st := []) d_93_34 rfl ⟨_, rfl, rfl, rfl, trivial⟩
    · skip
      refine ov_blk (ls2 := [(0, ov_r 0), (1, ov_i x), (2, ov_i y), (3, ov_i w), (4, ov_i v3)]) (st2 := [ov_i (-1)]) (pc2 := 18) b_93_17_1 rfl rfl ?_
      exact ov_reti (st := []) d_93_18 rfl ⟨_, rfl, rfl, rfl, trivial⟩
  · skip
    refine ov_getf (v := ov_r 70) d_93_1 fl_OF_78 (zb_0 I) (zs_0 I) (congrArg ov_r e1) ?_
    refine ov_blk (ls2 := [(0, ov_r 0), (1, ov_i x), (2, ov_i y), (3, ov_i w)]) (st2 := [ov_i y, ov_i x, ov_r 70]) (pc2 := 6) b_93_4_2 rfl rfl ?_
    refine ov_cV (as := [ov_i x, ov_i y]) (st := []) (d2 := d - 1) d_93_6 lk_OF_131 rfl (Nat.le_of_ble_eq_true rfl) (c := 9) (zb_70 I) (zs_70 I) ⟨by decide, rfl⟩ (by omega) (c_Town_corner_70 (d - 1) (by omega) U I x y (by omega) (by omega)) ?_
    rintro _ _ _ ⟨v26, rfl, rfl, rfl, f25⟩
    show ov_R u d ov_m93 9 [(0, ov_r 0), (1, ov_i x), (2, ov_i y), (3, ov_i w)] [ov_i v26] z h (P_OF_light_0 z h x y w)
    have f27 : v26 = -1 ∨ (0 ≤ x ∧ x < (h 70 0) ∧ 0 ≤ y ∧ y < (h 70 1) ∧ v26 = y * 6 + x ∧ (h 70 0) ≤ 6 ∧ (h 70 1) ≤ 9) := f25
    clear f25
    refine ov_blk (ls2 := [(0, ov_r 0), (1, ov_i x), (2, ov_i y), (3, ov_i w), (4, ov_i v26)]) (st2 := [ov_i (-1), ov_i v26]) (pc2 := 14) b_93_9_3 rfl rfl ?_
    refine ov_icne (tgt := 19) d_93_14 (by decide) (by omega) (by omega) (fun c28 => ?_) (fun c28 => ?_)
    · skip
      refine ov_blk (ls2 := [(0, ov_r 0), (1, ov_i x), (2, ov_i y), (3, ov_i w), (4, ov_i v26)]) (st2 := [ov_i 5, ov_i w]) (pc2 := 21) b_93_19_2 rfl rfl ?_
      refine ov_icne (tgt := 35) d_93_21 (by decide) (by omega) (by omega) (fun c29 => ?_) (fun c29 => ?_)
      · skip
        refine ov_blk (ls2 := [(0, ov_r 0), (1, ov_i x), (2, ov_i y), (3, ov_i w), (4, ov_i v26)]) (st2 := [ov_r 0]) (pc2 := 36) b_93_35_1 rfl rfl ?_
        refine ov_getf (v := ov_r 70) d_93_36 fl_OF_78 (zb_0 I) (zs_0 I) (congrArg ov_r e1) ?_
        refine ov_getf (v := ov_r 71) d_93_39 fl_OF_139 (zb_70 I) (zs_70 I) (congrArg ov_r (rg_70_2 I)) ?_
        refine ov_blk (ls2 := [(0, ov_r 0), (1, ov_i x), (2, ov_i y), (3, ov_i w), (4, ov_i v26)]) (st2 := [ov_i v26, ov_r 71]) (pc2 := 44) b_93_42_1 rfl rfl ?_
        refine ov_iald d_93_44 (zb_71 I) (zs_71 I) (by omega) ?_
        have g30 := ra_71 I v26
        refine ov_blk (ls2 := [(0, ov_r 0), (1, ov_i x), (2, ov_i y), (3, ov_i w), (4, ov_i v26)]) (st2 := [ov_i (-1), ov_i (h 71 v26)]) (pc2 := 46) b_93_45_1 rfl rfl ?_
        refine ov_icne (tgt := 51) d_93_46 (by decide) (by omega) (by omega) (fun c31 => ?_) (fun c31 => ?_)
        · skip
          refine ov_blk (ls2 := [(0, ov_r 0), (1, ov_i x), (2, ov_i y), (3, ov_i w), (4, ov_i v26)]) (st2 := [ov_i w]) (pc2 := 52) b_93_51_1 rfl rfl ?_
          by_cases q32 : w = 0
          · refine ov_tin (off := 36) (tgt := 88) d_93_52 (by omega) (by omega) (by rw [q32]; rfl) (by decide) ?_
            refine ov_blk (ls2 := [(0, ov_r 0), (1, ov_i x), (2, ov_i y), (3, ov_i w), (4, ov_i v26)]) (st2 := [ov_r 0]) (pc2 := 89) b_93_88_1 rfl rfl ?_
            refine ov_getf (v := ov_r 70) d_93_89 fl_OF_78 (zb_0 I) (zs_0 I) (congrArg ov_r e1) ?_
            refine ov_getf (v := ov_r 71) d_93_92 fl_OF_139 (zb_70 I) (zs_70 I) (congrArg ov_r (rg_70_2 I)) ?_
            refine ov_blk (ls2 := [(0, ov_r 0), (1, ov_i x), (2, ov_i y), (3, ov_i w), (4, ov_i v26)]) (st2 := [ov_i v26, ov_r 71]) (pc2 := 97) b_93_95_1 rfl rfl ?_
            refine ov_iald d_93_97 (zb_71 I) (zs_71 I) (by omega) ?_
            exact ov_reti (st := []) d_93_98 rfl ⟨_, rfl, rfl, rfl, trivial⟩
          by_cases q34 : w = 1
          · refine ov_tin (off := 47) (tgt := 99) d_93_52 (by omega) (by omega) (by rw [q34]; rfl) (by decide) ?_
            refine ov_blk (ls2 := [(0, ov_r 0), (1, ov_i x), (2, ov_i y), (3, ov_i w), (4, ov_i v26)]) (st2 := [ov_r 0]) (pc2 := 100) b_93_99_1 rfl rfl ?_
            refine ov_getf (v := ov_r 70) d_93_100 fl_OF_78 (zb_0 I) (zs_0 I) (congrArg ov_r e1) ?_
            refine ov_getf (v := ov_r 72) d_93_103 fl_OF_142 (zb_70 I) (zs_70 I) (congrArg ov_r (rg_70_3 I)) ?_
            refine ov_blk (ls2 := [(0, ov_r 0), (1, ov_i x), (2, ov_i y), (3, ov_i w), (4, ov_i v26)]) (st2 := [ov_i v26, ov_r 72]) (pc2 := 108) b_93_106_1 rfl rfl ?_
            refine ov_iald d_93_108 (zb_72 I) (zs_72 I) (by omega) ?_
            have g35 := ra_72 I v26
            exact ov_reti (st := []) d_93_109 rfl ⟨_, rfl, rfl, rfl, trivial⟩
          by_cases q36 : w = 2
          · refine ov_tin (off := 58) (tgt := 110) d_93_52 (by omega) (by omega) (by rw [q36]; rfl) (by decide) ?_
            refine ov_blk (ls2 := [(0, ov_r 0), (1, ov_i x), (2, ov_i y), (3, ov_i w), (4, ov_i v26)]) (st2 := [ov_r 0]) (pc2 := 111) b_93_110_1 rfl rfl ?_
            refine ov_getf (v := ov_r 70) d_93_111 fl_OF_78 (zb_0 I) (zs_0 I) (congrArg ov_r e1) ?_
            refine ov_getf (v := ov_r 73) d_93_114 fl_OF_145 (zb_70 I) (zs_70 I) (congrArg ov_r (rg_70_4 I)) ?_
            refine ov_blk (ls2 := [(0, ov_r 0), (1, ov_i x), (2, ov_i y), (3, ov_i w), (4, ov_i v26)]) (st2 := [ov_i v26, ov_r 73]) (pc2 := 119) b_93_117_1 rfl rfl ?_
            refine ov_iald d_93_119 (zb_73 I) (zs_73 I) (by omega) ?_
            have g37 := ra_73 I v26
            exact ov_reti (st := []) d_93_120 rfl ⟨_, rfl, rfl, rfl, trivial⟩
          by_cases q38 : w = 3
          · refine ov_tin (off := 69) (tgt := 121) d_93_52 (by omega) (by omega) (by rw [q38]; rfl) (by decide) ?_
            refine ov_blk (ls2 := [(0, ov_r 0), (1, ov_i x), (2, ov_i y), (3, ov_i w), (4, ov_i v26)]) (st2 := [ov_r 0]) (pc2 := 122) b_93_121_1 rfl rfl ?_
            refine ov_getf (v := ov_r 70) d_93_122 fl_OF_78 (zb_0 I) (zs_0 I) (congrArg ov_r e1) ?_
            refine ov_getf (v := ov_r 74) d_93_125 fl_OF_148 (zb_70 I) (zs_70 I) (congrArg ov_r (rg_70_5 I)) ?_
            refine ov_blk (ls2 := [(0, ov_r 0), (1, ov_i x), (2, ov_i y), (3, ov_i w), (4, ov_i v26)]) (st2 := [ov_i v26, ov_r 74]) (pc2 := 130) b_93_128_1 rfl rfl ?_
            refine ov_iald d_93_130 (zb_74 I) (zs_74 I) (by omega) ?_
            have g39 := ra_74 I v26
            exact ov_reti (st := []) d_93_131 rfl ⟨_, rfl, rfl, rfl, trivial⟩
          by_cases q40 : w = 4
          · refine ov_tin (off := 80) (tgt := 132) d_93_52 (by omega) (by omega) (by rw [q40]; rfl) (by decide) ?_
            refine ov_blk (ls2 := [(0, ov_r 0), (1, ov_i x), (2, ov_i y), (3, ov_i w), (4, ov_i v26)]) (st2 := [ov_r 0]) (pc2 := 133) b_93_132_1 rfl rfl ?_
            refine ov_getf (v := ov_r 70) d_93_133 fl_OF_78 (zb_0 I) (zs_0 I) (congrArg ov_r e1) ?_
            refine ov_getf (v := ov_r 71) d_93_136 fl_OF_139 (zb_70 I) (zs_70 I) (congrArg ov_r (rg_70_2 I)) ?_
            refine ov_blk (ls2 := [(0, ov_r 0), (1, ov_i x), (2, ov_i y), (3, ov_i w), (4, ov_i v26)]) (st2 := [ov_i v26, ov_r 71]) (pc2 := 141) b_93_139_1 rfl rfl ?_
            refine ov_iald d_93_141 (zb_71 I) (zs_71 I) (by omega) ?_
            refine ov_blk (ls2 := [(0, ov_r 0), (1, ov_i x), (2, ov_i y), (3, ov_i w), (4, ov_i v26)]) (st2 := [ov_i 1, ov_i (h 71 v26)]) (pc2 := 143) b_93_142_1 rfl rfl ?_
            refine ov_icne (tgt := 162) d_93_143 (by decide) (by omega) (by omega) (fun c42 => ?_) (fun c42 => ?_)
            · skip
              refine ov_blk (ls2 := [(0, ov_r 0), (1, ov_i x), (2, ov_i y), (3, ov_i w), (4, ov_i v26)]) (st2 := [ov_i 0]) (pc2 := 163) b_93_162_1 rfl rfl ?_
              exact ov_reti (st := []) d_93_163 rfl ⟨_, rfl, rfl, rfl, trivial⟩
            · skip
              refine ov_blk (ls2 := [(0, ov_r 0), (1, ov_i x), (2, ov_i y), (3, ov_i w), (4, ov_i v26)]) (st2 := [ov_r 0]) (pc2 := 147) b_93_146_1 rfl rfl ?_
              refine ov_getf (v := ov_r 4) d_93_147 fl_OF_28 (zb_0 I) (zs_0 I) (congrArg ov_r (rg_0_2 I)) ?_
              refine ov_blk (ls2 := [(0, ov_r 0), (1, ov_i x), (2, ov_i y), (3, ov_i w), (4, ov_i v26)]) (st2 := [ov_i v26, ov_r 4]) (pc2 := 152) b_93_150_1 rfl rfl ?_
              refine ov_cV (as := [ov_i v26]) (st := []) (d2 := d - 1) d_93_152 lk_OF_151 rfl (Nat.le_of_ble_eq_true rfl) (c := 7) (zb_4 I) (zs_4 I) ⟨by decide, rfl⟩ (by omega) (c_State_knows_4 (d - 1) (by omega) U I v26 (by omega)) ?_
              rintro _ _ _ ⟨v44, rfl, rfl, rfl, f43⟩
              show ov_R u d ov_m93 155 [(0, ov_r 0), (1, ov_i x), (2, ov_i y), (3, ov_i w), (4, ov_i v26)] [ov_i v44] z h (P_OF_light_0 z h x y w)
              have f45 : (v44 = 0 ∨ v44 = 1) := f43
              clear f43
              refine ov_ifeq (tgt := 162) d_93_155 (by decide) (by omega) (fun c46 => ?_) (fun c46 => ?_)
              · skip
                refine ov_blk (ls2 := [(0, ov_r 0), (1, ov_i x), (2, ov_i y), (3, ov_i w), (4, ov_i v26)]) (st2 := [ov_i 0]) (pc2 := 163) b_93_162_1 rfl rfl ?_
                exact ov_reti (st := []) d_93_163 rfl ⟨_, rfl, rfl, rfl, trivial⟩
              · skip
                refine ov_blk (ls2 := [(0, ov_r 0), (1, ov_i x), (2, ov_i y), (3, ov_i w), (4, ov_i v26)]) (st2 := [ov_i 1]) (pc2 := 159) b_93_158_1 rfl rfl ?_
                refine ov_goto (tgt := 163) d_93_159 (by decide) ?_
                exact ov_reti (st := []) d_93_163 rfl ⟨_, rfl, rfl, rfl, trivial⟩
          refine ov_tout (tgt := 164) d_93_52 (by omega) (by omega) (by decide) ?_
          refine ov_blk (ls2 := [(0, ov_r 0), (1, ov_i x), (2, ov_i y), (3, ov_i w), (4, ov_i v26)]) (st2 := [ov_i (-1)]) (pc2 := 165) b_93_164_1 rfl rfl ?_
          exact ov_reti (st := []) d_93_165 rfl ⟨_, rfl, rfl, rfl, trivial⟩
        · skip
          refine ov_blk (ls2 := [(0, ov_r 0), (1, ov_i x), (2, ov_i y), (3, ov_i w), (4, ov_i v26)]) (st2 := [ov_i (-1)]) (pc2 := 50) b_93_49_1 rfl rfl ?_
          exact ov_reti (st := []) d_93_50 rfl ⟨_, rfl, rfl, rfl, trivial⟩
      · skip
        refine ov_blk (ls2 := [(0, ov_r 0), (1, ov_i x), (2, ov_i y), (3, ov_i w), (4, ov_i v26)]) (st2 := [ov_r 0]) (pc2 := 25) b_93_24_1 rfl rfl ?_
        refine ov_getf (v := ov_r 70) d_93_25 fl_OF_78 (zb_0 I) (zs_0 I) (congrArg ov_r e1) ?_
        refine ov_getf (v := ov_r 75) d_93_28 fl_OF_135 (zb_70 I) (zs_70 I) (congrArg ov_r (rg_70_6 I)) ?_
        refine ov_blk (ls2 := [(0, ov_r 0), (1, ov_i x), (2, ov_i y), (3, ov_i w), (4, ov_i v26)]) (st2 := [ov_i v26, ov_r 75]) (pc2 := 33) b_93_31_1 rfl rfl ?_
        refine ov_iald d_93_33 (zb_75 I) (zs_75 I) (by omega) ?_
        have g47 := ra_75 I v26
        exact ov_reti (st := []) d_93_34 rfl ⟨_, rfl, rfl, rfl, trivial⟩
    · skip
      refine ov_blk (ls2 := [(0, ov_r 0), (1, ov_i x), (2, ov_i y), (3, ov_i w), (4, ov_i v26)]) (st2 := [ov_i (-1)]) (pc2 := 18) b_93_17_1 rfl rfl ?_
      exact ov_reti (st := []) d_93_18 rfl ⟨_, rfl, rfl, rfl, trivial⟩
abbrev P_OF_green_0 (z : ov_Z) (h : ov_H) (x : Int) (y : Int) (way : Int) (s : Int) : Option ov_V → ov_Z → ov_H → Prop := fun r0 z' h' => ∃ r : Int, r0 = some (ov_i r) ∧ z = z' ∧ h = h' ∧ (True)
set_option maxHeartbeats 4000000 in
theorem c_OF_green_0 {u : ov_U} {z : ov_Z} {h : ov_H} (d : Nat) (hd : 2 ≤ d) (U : ov_cap u) (I : ov_I z h) (x : Int) (y : Int) (way : Int) (s : Int) (g_x : ov_g x) (g_y : ov_g y) (g_way : ov_g way) (g_s : ov_g s) : ov_T u d ov_m96 [ov_r 0, ov_i x, ov_i y, ov_i way, ov_i s] z h (P_OF_green_0 z h x y way s) := by
  refine ov_en rfl (Nat.le_of_ble_eq_true rfl) ?_
  show ov_R u d ov_m96 0 [(0, ov_r 0), (1, ov_i x), (2, ov_i y), (3, ov_i way), (4, ov_i s)] [] z h (P_OF_green_0 z h x y way s)
  refine ov_blk (ls2 := [(0, ov_r 0), (1, ov_i x), (2, ov_i y), (3, ov_i way), (4, ov_i s)]) (st2 := [ov_r 0]) (pc2 := 1) b_96_0_1 rfl rfl ?_
  rcases rg_0_10 I with e1 | e1
  · skip
    refine ov_getf (v := ov_r 58) d_96_1 fl_OF_78 (zb_0 I) (zs_0 I) (congrArg ov_r e1) ?_
    refine ov_blk (ls2 := [(0, ov_r 0), (1, ov_i x), (2, ov_i y), (3, ov_i way), (4, ov_i s)]) (st2 := [ov_i y, ov_i x, ov_r 58]) (pc2 := 6) b_96_4_2 rfl rfl ?_
    refine ov_cV (as := [ov_i x, ov_i y]) (st := []) (d2 := d - 1) d_96_6 lk_OF_131 rfl (Nat.le_of_ble_eq_true rfl) (c := 9) (zb_58 I) (zs_58 I) ⟨by decide, rfl⟩ (by omega) (c_Town_corner_58 (d - 1) (by omega) U I x y (by omega) (by omega)) ?_
    rintro _ _ _ ⟨v3, rfl, rfl, rfl, f2⟩
    show ov_R u d ov_m96 9 [(0, ov_r 0), (1, ov_i x), (2, ov_i y), (3, ov_i way), (4, ov_i s)] [ov_i v3] z h (P_OF_green_0 z h x y way s)
    have f4 : v3 = -1 ∨ (0 ≤ x ∧ x < (h 58 0) ∧ 0 ≤ y ∧ y < (h 58 1) ∧ v3 = y * 6 + x ∧ (h 58 0) ≤ 6 ∧ (h 58 1) ≤ 9) := f2
    clear f2
    refine ov_blk (ls2 := [(0, ov_r 0), (1, ov_i x), (2, ov_i y), (3, ov_i way), (4, ov_i s), (5, ov_i v3)]) (st2 := [ov_i (-1), ov_i v3]) (pc2 := 14) b_96_9_3 rfl rfl ?_
    refine ov_iceq (tgt := 38) d_96_14 (by decide) (by omega) (by omega) (fun c5 => ?_) (fun c5 => ?_)
    · skip
      refine ov_blk (ls2 := [(0, ov_r 0), (1, ov_i x), (2, ov_i y), (3, ov_i way), (4, ov_i s), (5, ov_i v3)]) (st2 := [ov_i (-1)]) (pc2 := 39) b_96_38_1 rfl rfl ?_
      exact ov_reti (st := []) d_96_39 rfl ⟨_, rfl, rfl, rfl, trivial⟩
    · skip
      refine ov_blk (ls2 := [(0, ov_r 0), (1, ov_i x), (2, ov_i y), (3, ov_i way), (4, ov_i s), (5, ov_i v3)]) (st2 := [ov_i s]) (pc2 := 19) b_96_17_1 rfl rfl ?_
      refine ov_cS (as := [ov_i s]) (st := []) (d2 := d - 1) d_96_19 lk_OF_155 rfl (Nat.le_of_ble_eq_true rfl) (by omega) (c_OF_isSecond (d - 1) (by omega) U I s (by omega)) ?_
      rintro _ _ _ ⟨v7, rfl, rfl, rfl, f6⟩
      show ov_R u d ov_m96 22 [(0, ov_r 0), (1, ov_i x), (2, ov_i y), (3, ov_i way), (4, ov_i s), (5, ov_i v3)] [ov_i v7] z h (P_OF_green_0 z h x y way s)
      have f8 : (v7 = 0 ∨ v7 = 1) ∧ (v7 = 1 → 0 ≤ s ∧ s ≤ 1000000) := f6
      clear f6
      refine ov_ifeq (tgt := 38) d_96_22 (by decide) (by omega) (fun c9 => ?_) (fun c9 => ?_)
      · skip
        refine ov_blk (ls2 := [(0, ov_r 0), (1, ov_i x), (2, ov_i y), (3, ov_i way), (4, ov_i s), (5, ov_i v3)]) (st2 := [ov_i (-1)]) (pc2 := 39) b_96_38_1 rfl rfl ?_
        exact ov_reti (st := []) d_96_39 rfl ⟨_, rfl, rfl, rfl, trivial⟩
      · skip
        refine ov_blk (ls2 := [(0, ov_r 0), (1, ov_i x), (2, ov_i y), (3, ov_i way), (4, ov_i s), (5, ov_i v3)]) (st2 := [ov_r 0]) (pc2 := 26) b_96_25_1 rfl rfl ?_
        refine ov_getf (v := ov_r 58) d_96_26 fl_OF_78 (zb_0 I) (zs_0 I) (congrArg ov_r e1) ?_
        refine ov_blk (ls2 := [(0, ov_r 0), (1, ov_i x), (2, ov_i y), (3, ov_i way), (4, ov_i s), (5, ov_i v3)]) (st2 := [ov_i way, ov_i v3, ov_r 58]) (pc2 := 32) b_96_29_2 rfl rfl ?_
        refine ov_cV (as := [ov_i v3, ov_i way]) (st := []) (d2 := d - 1) d_96_32 lk_OF_158 rfl (Nat.le_of_ble_eq_true rfl) (c := 9) (zb_58 I) (zs_58 I) ⟨by decide, rfl⟩ (by omega) (c_Town_isOpen_58 (d - 1) (by omega) U I v3 way (by omega) (by omega) (by omega)) ?_
        rintro _ _ _ ⟨v11, rfl, rfl, rfl, f10⟩
        show ov_R u d ov_m96 35 [(0, ov_r 0), (1, ov_i x), (2, ov_i y), (3, ov_i way), (4, ov_i s), (5, ov_i v3)] [ov_i v11] z h (P_OF_green_0 z h x y way s)
        have f12 : (v11 = 0 ∨ v11 = 1) ∧ (v11 = 1 → (way = 0 ∧ v3 ≤ 52) ∨ (way = 1 ∧ v3 ≤ 47)) := f10
        clear f10
        refine ov_ifne (tgt := 40) d_96_35 (by decide) (by omega) (fun c13 => ?_) (fun c13 => ?_)
        · skip
          refine ov_blk (ls2 := [(0, ov_r 0), (1, ov_i x), (2, ov_i y), (3, ov_i way), (4, ov_i s), (5, ov_i v3)]) (st2 := [ov_r 0]) (pc2 := 41) b_96_40_1 rfl rfl ?_
          refine ov_getf (v := ov_r 58) d_96_41 fl_OF_78 (zb_0 I) (zs_0 I) (congrArg ov_r e1) ?_
          refine ov_getf (v := ov_r 59) d_96_44 fl_OF_139 (zb_58 I) (zs_58 I) (congrArg ov_r (rg_58_2 I)) ?_
          refine ov_blk (ls2 := [(0, ov_r 0), (1, ov_i x), (2, ov_i y), (3, ov_i way), (4, ov_i s), (5, ov_i v3)]) (st2 := [ov_i v3, ov_r 59]) (pc2 := 49) b_96_47_1 rfl rfl ?_
          refine ov_iald d_96_49 (zb_59 I) (zs_59 I) (by omega) ?_
          have g14 := ra_59 I v3
          refine ov_blk (ls2 := [(0, ov_r 0), (1, ov_i x), (2, ov_i y), (3, ov_i way), (4, ov_i s), (5, ov_i v3)]) (st2 := [ov_i 2, ov_i (h 59 v3)]) (pc2 := 51) b_96_50_1 rfl rfl ?_
          refine ov_icne (tgt := 65) d_96_51 (by decide) (by omega) (by omega) (fun c15 => ?_) (fun c15 => ?_)
          · skip
            refine ov_blk (ls2 := [(0, ov_r 0), (1, ov_i x), (2, ov_i y), (3, ov_i way), (4, ov_i s), (5, ov_i v3)]) (st2 := [ov_r 0]) (pc2 := 66) b_96_65_1 rfl rfl ?_
            refine ov_getf (v := ov_r 58) d_96_66 fl_OF_78 (zb_0 I) (zs_0 I) (congrArg ov_r e1) ?_
            refine ov_blk (ls2 := [(0, ov_r 0), (1, ov_i x), (2, ov_i y), (3, ov_i way), (4, ov_i s), (5, ov_i v3)]) (st2 := [ov_i s, ov_i way, ov_i v3, ov_r 58]) (pc2 := 74) b_96_69_3 rfl rfl ?_
            refine ov_cV (as := [ov_i v3, ov_i way, ov_i s]) (st := []) (d2 := d - 1) d_96_74 lk_OF_162 rfl (Nat.le_of_ble_eq_true rfl) (c := 9) (zb_58 I) (zs_58 I) ⟨by decide, rfl⟩ (by omega) (c_Town_waitFor_58 (d - 1) (by omega) U I v3 way s (by omega) (by omega) (by omega) (by omega)) ?_
            rintro _ _ _ ⟨v17, rfl, rfl, rfl, f16⟩
            show ov_R u d ov_m96 77 [(0, ov_r 0), (1, ov_i x), (2, ov_i y), (3, ov_i way), (4, ov_i s), (5, ov_i v3)] [ov_i v17] z h (P_OF_green_0 z h x y way s)
            have f18 : 0 ≤ v17 ∧ v17 ≤ 60 := f16
            clear f16
            refine ov_ifne (tgt := 84) d_96_77 (by decide) (by omega) (fun c19 => ?_) (fun c19 => ?_)
            · skip
              refine ov_blk (ls2 := [(0, ov_r 0), (1, ov_i x), (2, ov_i y), (3, ov_i way), (4, ov_i s), (5, ov_i v3)]) (st2 := [ov_i 0]) (pc2 := 85) b_96_84_1 rfl rfl ?_
              exact ov_reti (st := []) d_96_85 rfl ⟨_, rfl, rfl, rfl, trivial⟩
            · skip
              refine ov_blk (ls2 := [(0, ov_r 0), (1, ov_i x), (2, ov_i y), (3, ov_i way), (4, ov_i s), (5, ov_i v3)]) (st2 := [ov_i 1]) (pc2 := 81) b_96_80_1 rfl rfl ?_
              refine ov_goto (tgt := 85) d_96_81 (by decide) ?_
              exact ov_reti (st := []) d_96_85 rfl ⟨_, rfl, rfl, rfl, trivial⟩
          · skip
            refine ov_blk (ls2 := [(0, ov_r 0), (1, ov_i x), (2, ov_i y), (3, ov_i way), (4, ov_i s), (5, ov_i v3)]) (st2 := [ov_i 1, ov_i way]) (pc2 := 56) b_96_54_2 rfl rfl ?_
            refine ov_icne (tgt := 63) d_96_56 (by decide) (by omega) (by omega) (fun c20 => ?_) (fun c20 => ?_)
            · skip
              refine ov_blk (ls2 := [(0, ov_r 0), (1, ov_i x), (2, ov_i y), (3, ov_i way), (4, ov_i s), (5, ov_i v3)]) (st2 := [ov_i 0]) (pc2 := 64) b_96_63_1 rfl rfl ?_
              exact ov_reti (st := []) d_96_64 rfl ⟨_, rfl, rfl, rfl, trivial⟩
            · skip
              refine ov_blk (ls2 := [(0, ov_r 0), (1, ov_i x), (2, ov_i y), (3, ov_i way), (4, ov_i s), (5, ov_i v3)]) (st2 := [ov_i 1]) (pc2 := 60) b_96_59_1 rfl rfl ?_
              refine ov_goto (tgt := 64) d_96_60 (by decide) ?_
              exact ov_reti (st := []) d_96_64 rfl ⟨_, rfl, rfl, rfl, trivial⟩
        · skip
          refine ov_blk (ls2 := [(0, ov_r 0), (1, ov_i x), (2, ov_i y), (3, ov_i way), (4, ov_i s), (5, ov_i v3)]) (st2 := [ov_i (-1)]) (pc2 := 39) b_96_38_1 rfl rfl ?_
          exact ov_reti (st := []) d_96_39 rfl ⟨_, rfl, rfl, rfl, trivial⟩
  · skip
    refine ov_getf (v := ov_r 70) d_96_1 fl_OF_78 (zb_0 I) (zs_0 I) (congrArg ov_r e1) ?_
    refine ov_blk (ls2 := [(0, ov_r 0), (1, ov_i x), (2, ov_i y), (3, ov_i way), (4, ov_i s)]) (st2 := [ov_i y, ov_i x, ov_r 70]) (pc2 := 6) b_96_4_2 rfl rfl ?_
    refine ov_cV (as := [ov_i x, ov_i y]) (st := []) (d2 := d - 1) d_96_6 lk_OF_131 rfl (Nat.le_of_ble_eq_true rfl) (c := 9) (zb_70 I) (zs_70 I) ⟨by decide, rfl⟩ (by omega) (c_Town_corner_70 (d - 1) (by omega) U I x y (by omega) (by omega)) ?_
    rintro _ _ _ ⟨v22, rfl, rfl, rfl, f21⟩
    show ov_R u d ov_m96 9 [(0, ov_r 0), (1, ov_i x), (2, ov_i y), (3, ov_i way), (4, ov_i s)] [ov_i v22] z h (P_OF_green_0 z h x y way s)
    have f23 : v22 = -1 ∨ (0 ≤ x ∧ x < (h 70 0) ∧ 0 ≤ y ∧ y < (h 70 1) ∧ v22 = y * 6 + x ∧ (h 70 0) ≤ 6 ∧ (h 70 1) ≤ 9) := f21
    clear f21
    refine ov_blk (ls2 := [(0, ov_r 0), (1, ov_i x), (2, ov_i y), (3, ov_i way), (4, ov_i s), (5, ov_i v22)]) (st2 := [ov_i (-1), ov_i v22]) (pc2 := 14) b_96_9_3 rfl rfl ?_
    refine ov_iceq (tgt := 38) d_96_14 (by decide) (by omega) (by omega) (fun c24 => ?_) (fun c24 => ?_)
    · skip
      refine ov_blk (ls2 := [(0, ov_r 0), (1, ov_i x), (2, ov_i y), (3, ov_i way), (4, ov_i s), (5, ov_i v22)]) (st2 := [ov_i (-1)]) (pc2 := 39) b_96_38_1 rfl rfl ?_
      exact ov_reti (st := []) d_96_39 rfl ⟨_, rfl, rfl, rfl, trivial⟩
    · skip
      refine ov_blk (ls2 := [(0, ov_r 0), (1, ov_i x), (2, ov_i y), (3, ov_i way), (4, ov_i s), (5, ov_i v22)]) (st2 := [ov_i s]) (pc2 := 19) b_96_17_1 rfl rfl ?_
      refine ov_cS (as := [ov_i s]) (st := []) (d2 := d - 1) d_96_19 lk_OF_155 rfl (Nat.le_of_ble_eq_true rfl) (by omega) (c_OF_isSecond (d - 1) (by omega) U I s (by omega)) ?_
      rintro _ _ _ ⟨v26, rfl, rfl, rfl, f25⟩
      show ov_R u d ov_m96 22 [(0, ov_r 0), (1, ov_i x), (2, ov_i y), (3, ov_i way), (4, ov_i s), (5, ov_i v22)] [ov_i v26] z h (P_OF_green_0 z h x y way s)
      have f27 : (v26 = 0 ∨ v26 = 1) ∧ (v26 = 1 → 0 ≤ s ∧ s ≤ 1000000) := f25
      clear f25
      refine ov_ifeq (tgt := 38) d_96_22 (by decide) (by omega) (fun c28 => ?_) (fun c28 => ?_)
      · skip
        refine ov_blk (ls2 := [(0, ov_r 0), (1, ov_i x), (2, ov_i y), (3, ov_i way), (4, ov_i s), (5, ov_i v22)]) (st2 := [ov_i (-1)]) (pc2 := 39) b_96_38_1 rfl rfl ?_
        exact ov_reti (st := []) d_96_39 rfl ⟨_, rfl, rfl, rfl, trivial⟩
      · skip
        refine ov_blk (ls2 := [(0, ov_r 0), (1, ov_i x), (2, ov_i y), (3, ov_i way), (4, ov_i s), (5, ov_i v22)]) (st2 := [ov_r 0]) (pc2 := 26) b_96_25_1 rfl rfl ?_
        refine ov_getf (v := ov_r 70) d_96_26 fl_OF_78 (zb_0 I) (zs_0 I) (congrArg ov_r e1) ?_
        refine ov_blk (ls2 := [(0, ov_r 0), (1, ov_i x), (2, ov_i y), (3, ov_i way), (4, ov_i s), (5, ov_i v22)]) (st2 := [ov_i way, ov_i v22, ov_r 70]) (pc2 := 32) b_96_29_2 rfl rfl ?_
        refine ov_cV (as := [ov_i v22, ov_i way]) (st := []) (d2 := d - 1) d_96_32 lk_OF_158 rfl (Nat.le_of_ble_eq_true rfl) (c := 9) (zb_70 I) (zs_70 I) ⟨by decide, rfl⟩ (by omega) (c_Town_isOpen_70 (d - 1) (by omega) U I v22 way (by omega) (by omega) (by omega)) ?_
        rintro _ _ _ ⟨v30, rfl, rfl, rfl, f29⟩
        show ov_R u d ov_m96 35 [(0, ov_r 0), (1, ov_i x), (2, ov_i y), (3, ov_i way), (4, ov_i s), (5, ov_i v22)] [ov_i v30] z h (P_OF_green_0 z h x y way s)
        have f31 : (v30 = 0 ∨ v30 = 1) ∧ (v30 = 1 → (way = 0 ∧ v22 ≤ 52) ∨ (way = 1 ∧ v22 ≤ 47)) := f29
        clear f29
        refine ov_ifne (tgt := 40) d_96_35 (by decide) (by omega) (fun c32 => ?_) (fun c32 => ?_)
        · skip
          refine ov_blk (ls2 := [(0, ov_r 0), (1, ov_i x), (2, ov_i y), (3, ov_i way), (4, ov_i s), (5, ov_i v22)]) (st2 := [ov_r 0]) (pc2 := 41) b_96_40_1 rfl rfl ?_
          refine ov_getf (v := ov_r 70) d_96_41 fl_OF_78 (zb_0 I) (zs_0 I) (congrArg ov_r e1) ?_
          refine ov_getf (v := ov_r 71) d_96_44 fl_OF_139 (zb_70 I) (zs_70 I) (congrArg ov_r (rg_70_2 I)) ?_
          refine ov_blk (ls2 := [(0, ov_r 0), (1, ov_i x), (2, ov_i y), (3, ov_i way), (4, ov_i s), (5, ov_i v22)]) (st2 := [ov_i v22, ov_r 71]) (pc2 := 49) b_96_47_1 rfl rfl ?_
          refine ov_iald d_96_49 (zb_71 I) (zs_71 I) (by omega) ?_
          have g33 := ra_71 I v22
          refine ov_blk (ls2 := [(0, ov_r 0), (1, ov_i x), (2, ov_i y), (3, ov_i way), (4, ov_i s), (5, ov_i v22)]) (st2 := [ov_i 2, ov_i (h 71 v22)]) (pc2 := 51) b_96_50_1 rfl rfl ?_
          refine ov_icne (tgt := 65) d_96_51 (by decide) (by omega) (by omega) (fun c34 => ?_) (fun c34 => ?_)
          · skip
            refine ov_blk (ls2 := [(0, ov_r 0), (1, ov_i x), (2, ov_i y), (3, ov_i way), (4, ov_i s), (5, ov_i v22)]) (st2 := [ov_r 0]) (pc2 := 66) b_96_65_1 rfl rfl ?_
            refine ov_getf (v := ov_r 70) d_96_66 fl_OF_78 (zb_0 I) (zs_0 I) (congrArg ov_r e1) ?_
            refine ov_blk (ls2 := [(0, ov_r 0), (1, ov_i x), (2, ov_i y), (3, ov_i way), (4, ov_i s), (5, ov_i v22)]) (st2 := [ov_i s, ov_i way, ov_i v22, ov_r 70]) (pc2 := 74) b_96_69_3 rfl rfl ?_
            refine ov_cV (as := [ov_i v22, ov_i way, ov_i s]) (st := []) (d2 := d - 1) d_96_74 lk_OF_162 rfl (Nat.le_of_ble_eq_true rfl) (c := 9) (zb_70 I) (zs_70 I) ⟨by decide, rfl⟩ (by omega) (c_Town_waitFor_70 (d - 1) (by omega) U I v22 way s (by omega) (by omega) (by omega) (by omega)) ?_
            rintro _ _ _ ⟨v36, rfl, rfl, rfl, f35⟩
            show ov_R u d ov_m96 77 [(0, ov_r 0), (1, ov_i x), (2, ov_i y), (3, ov_i way), (4, ov_i s), (5, ov_i v22)] [ov_i v36] z h (P_OF_green_0 z h x y way s)
            have f37 : 0 ≤ v36 ∧ v36 ≤ 60 := f35
            clear f35
            refine ov_ifne (tgt := 84) d_96_77 (by decide) (by omega) (fun c38 => ?_) (fun c38 => ?_)
            · skip
              refine ov_blk (ls2 := [(0, ov_r 0), (1, ov_i x), (2, ov_i y), (3, ov_i way), (4, ov_i s), (5, ov_i v22)]) (st2 := [ov_i 0]) (pc2 := 85) b_96_84_1 rfl rfl ?_
              exact ov_reti (st := []) d_96_85 rfl ⟨_, rfl, rfl, rfl, trivial⟩
            · skip
              refine ov_blk (ls2 := [(0, ov_r 0), (1, ov_i x), (2, ov_i y), (3, ov_i way), (4, ov_i s), (5, ov_i v22)]) (st2 := [ov_i 1]) (pc2 := 81) b_96_80_1 rfl rfl ?_
              refine ov_goto (tgt := 85) d_96_81 (by decide) ?_
              exact ov_reti (st := []) d_96_85 rfl ⟨_, rfl, rfl, rfl, trivial⟩
          · skip
            refine ov_blk (ls2 := [(0, ov_r 0), (1, ov_i x), (2, ov_i y), (3, ov_i way), (4, ov_i s), (5, ov_i v22)]) (st2 := [ov_i 1, ov_i way]) (pc2 := 56) b_96_54_2 rfl rfl ?_
            refine ov_icne (tgt := 63) d_96_56 (by decide) (by omega) (by omega) (fun c39 => ?_) (fun c39 => ?_)
            · skip
              refine ov_blk (ls2 := [(0, ov_r 0), (1, ov_i x), (2, ov_i y), (3, ov_i way), (4, ov_i s), (5, ov_i v22)]) (st2 := [ov_i 0]) (pc2 := 64) b_96_63_1 rfl rfl ?_
              exact ov_reti (st := []) d_96_64 rfl ⟨_, rfl, rfl, rfl, trivial⟩
            · skip
              refine ov_blk (ls2 := [(0, ov_r 0), (1, ov_i x), (2, ov_i y), (3, ov_i way), (4, ov_i s), (5, ov_i v22)]) (st2 := [ov_i 1]) (pc2 := 60) b_96_59_1 rfl rfl ?_
              refine ov_goto (tgt := 64) d_96_60 (by decide) ?_
              exact ov_reti (st := []) d_96_64 rfl ⟨_, rfl, rfl, rfl, trivial⟩
        · skip
          refine ov_blk (ls2 := [(0, ov_r 0), (1, ov_i x), (2, ov_i y), (3, ov_i way), (4, ov_i s), (5, ov_i v22)]) (st2 := [ov_i (-1)]) (pc2 := 39) b_96_38_1 rfl rfl ?_
          exact ov_reti (st := []) d_96_39 rfl ⟨_, rfl, rfl, rfl, trivial⟩
abbrev P_OF_until_0 (z : ov_Z) (h : ov_H) (x : Int) (y : Int) (way : Int) (s : Int) : Option ov_V → ov_Z → ov_H → Prop := fun r0 z' h' => ∃ r : Int, r0 = some (ov_i r) ∧ z = z' ∧ h = h' ∧ (True)
set_option maxHeartbeats 4000000 in
theorem c_OF_until_0 {u : ov_U} {z : ov_Z} {h : ov_H} (d : Nat) (hd : 2 ≤ d) (U : ov_cap u) (I : ov_I z h) (x : Int) (y : Int) (way : Int) (s : Int) (g_x : ov_g x) (g_y : ov_g y) (g_way : ov_g way) (g_s : ov_g s) : ov_T u d ov_m101 [ov_r 0, ov_i x, ov_i y, ov_i way, ov_i s] z h (P_OF_until_0 z h x y way s) := by
  refine ov_en rfl (Nat.le_of_ble_eq_true rfl) ?_
  show ov_R u d ov_m101 0 [(0, ov_r 0), (1, ov_i x), (2, ov_i y), (3, ov_i way), (4, ov_i s)] [] z h (P_OF_until_0 z h x y way s)
  refine ov_blk (ls2 := [(0, ov_r 0), (1, ov_i x), (2, ov_i y), (3, ov_i way), (4, ov_i s)]) (st2 := [ov_r 0]) (pc2 := 1) b_101_0_1 rfl rfl ?_
  rcases rg_0_10 I with e1 | e1
  · skip
    refine ov_getf (v := ov_r 58) d_101_1 fl_OF_78 (zb_0 I) (zs_0 I) (congrArg ov_r e1) ?_
    refine ov_blk (ls2 := [(0, ov_r 0), (1, ov_i x), (2, ov_i y), (3, ov_i way), (4, ov_i s)]) (st2 := [ov_i y, ov_i x, ov_r 58]) (pc2 := 6) b_101_4_2 rfl rfl ?_
    refine ov_cV (as := [ov_i x, ov_i y]) (st := []) (d2 := d - 1) d_101_6 lk_OF_131 rfl (Nat.le_of_ble_eq_true rfl) (c := 9) (zb_58 I) (zs_58 I) ⟨by decide, rfl⟩ (by omega) (c_Town_corner_58 (d - 1) (by omega) U I x y (by omega) (by omega)) ?_
    rintro _ _ _ ⟨v3, rfl, rfl, rfl, f2⟩
    show ov_R u d ov_m101 9 [(0, ov_r 0), (1, ov_i x), (2, ov_i y), (3, ov_i way), (4, ov_i s)] [ov_i v3] z h (P_OF_until_0 z h x y way s)
    have f4 : v3 = -1 ∨ (0 ≤ x ∧ x < (h 58 0) ∧ 0 ≤ y ∧ y < (h 58 1) ∧ v3 = y * 6 + x ∧ (h 58 0) ≤ 6 ∧ (h 58 1) ≤ 9) := f2
    clear f2
    refine ov_blk (ls2 := [(0, ov_r 0), (1, ov_i x), (2, ov_i y), (3, ov_i way), (4, ov_i s), (5, ov_i v3)]) (st2 := [ov_i (-1), ov_i v3]) (pc2 := 14) b_101_9_3 rfl rfl ?_
    refine ov_iceq (tgt := 38) d_101_14 (by decide) (by omega) (by omega) (fun c5 => ?_) (fun c5 => ?_)
    · skip
      refine ov_blk (ls2 := [(0, ov_r 0), (1, ov_i x), (2, ov_i y), (3, ov_i way), (4, ov_i s), (5, ov_i v3)]) (st2 := [ov_i (-1)]) (pc2 := 39) b_101_38_1 rfl rfl ?_
      exact ov_reti (st := []) d_101_39 rfl ⟨_, rfl, rfl, rfl, trivial⟩
    · skip
      refine ov_blk (ls2 := [(0, ov_r 0), (1, ov_i x), (2, ov_i y), (3, ov_i way), (4, ov_i s), (5, ov_i v3)]) (st2 := [ov_i s]) (pc2 := 19) b_101_17_1 rfl rfl ?_
      refine ov_cS (as := [ov_i s]) (st := []) (d2 := d - 1) d_101_19 lk_OF_155 rfl (Nat.le_of_ble_eq_true rfl) (by omega) (c_OF_isSecond (d - 1) (by omega) U I s (by omega)) ?_
      rintro _ _ _ ⟨v7, rfl, rfl, rfl, f6⟩
      show ov_R u d ov_m101 22 [(0, ov_r 0), (1, ov_i x), (2, ov_i y), (3, ov_i way), (4, ov_i s), (5, ov_i v3)] [ov_i v7] z h (P_OF_until_0 z h x y way s)
      have f8 : (v7 = 0 ∨ v7 = 1) ∧ (v7 = 1 → 0 ≤ s ∧ s ≤ 1000000) := f6
      clear f6
      refine ov_ifeq (tgt := 38) d_101_22 (by decide) (by omega) (fun c9 => ?_) (fun c9 => ?_)
      · skip
        refine ov_blk (ls2 := [(0, ov_r 0), (1, ov_i x), (2, ov_i y), (3, ov_i way), (4, ov_i s), (5, ov_i v3)]) (st2 := [ov_i (-1)]) (pc2 := 39) b_101_38_1 rfl rfl ?_
        exact ov_reti (st := []) d_101_39 rfl ⟨_, rfl, rfl, rfl, trivial⟩
      · skip
        refine ov_blk (ls2 := [(0, ov_r 0), (1, ov_i x), (2, ov_i y), (3, ov_i way), (4, ov_i s), (5, ov_i v3)]) (st2 := [ov_r 0]) (pc2 := 26) b_101_25_1 rfl rfl ?_
        refine ov_getf (v := ov_r 58) d_101_26 fl_OF_78 (zb_0 I) (zs_0 I) (congrArg ov_r e1) ?_
        refine ov_blk (ls2 := [(0, ov_r 0), (1, ov_i x), (2, ov_i y), (3, ov_i way), (4, ov_i s), (5, ov_i v3)]) (st2 := [ov_i way, ov_i v3, ov_r 58]) (pc2 := 32) b_101_29_2 rfl rfl ?_
        refine ov_cV (as := [ov_i v3, ov_i way]) (st := []) (d2 := d - 1) d_101_32 lk_OF_158 rfl (Nat.le_of_ble_eq_true rfl) (c := 9) (zb_58 I) (zs_58 I) ⟨by decide, rfl⟩ (by omega) (c_Town_isOpen_58 (d - 1) (by omega) U I v3 way (by omega) (by omega) (by omega)) ?_
        rintro _ _ _ ⟨v11, rfl, rfl, rfl, f10⟩
        show ov_R u d ov_m101 35 [(0, ov_r 0), (1, ov_i x), (2, ov_i y), (3, ov_i way), (4, ov_i s), (5, ov_i v3)] [ov_i v11] z h (P_OF_until_0 z h x y way s)
        have f12 : (v11 = 0 ∨ v11 = 1) ∧ (v11 = 1 → (way = 0 ∧ v3 ≤ 52) ∨ (way = 1 ∧ v3 ≤ 47)) := f10
        clear f10
        refine ov_ifne (tgt := 40) d_101_35 (by decide) (by omega) (fun c13 => ?_) (fun c13 => ?_)
        · skip
          refine ov_blk (ls2 := [(0, ov_r 0), (1, ov_i x), (2, ov_i y), (3, ov_i way), (4, ov_i s), (5, ov_i v3)]) (st2 := [ov_r 0]) (pc2 := 41) b_101_40_1 rfl rfl ?_
          refine ov_getf (v := ov_r 58) d_101_41 fl_OF_78 (zb_0 I) (zs_0 I) (congrArg ov_r e1) ?_
          refine ov_blk (ls2 := [(0, ov_r 0), (1, ov_i x), (2, ov_i y), (3, ov_i way), (4, ov_i s), (5, ov_i v3)]) (st2 := [ov_i s, ov_i way, ov_i v3, ov_r 58]) (pc2 := 49) b_101_44_3 rfl rfl ?_
          refine ov_cV (as := [ov_i v3, ov_i way, ov_i s]) (st := []) (d2 := d - 1) d_101_49 lk_OF_162 rfl (Nat.le_of_ble_eq_true rfl) (c := 9) (zb_58 I) (zs_58 I) ⟨by decide, rfl⟩ (by omega) (c_Town_waitFor_58 (d - 1) (by omega) U I v3 way s (by omega) (by omega) (by omega) (by omega)) ?_
          rintro _ _ _ ⟨v15, rfl, rfl, rfl, f14⟩
          show ov_R u d ov_m101 52 [(0, ov_r 0), (1, ov_i x), (2, ov_i y), (3, ov_i way), (4, ov_i s), (5, ov_i v3)] [ov_i v15] z h (P_OF_until_0 z h x y way s)
          have f16 : 0 ≤ v15 ∧ v15 ≤ 60 := f14
          clear f14
          exact ov_reti (st := []) d_101_52 rfl ⟨_, rfl, rfl, rfl, trivial⟩
        · skip
          refine ov_blk (ls2 := [(0, ov_r 0), (1, ov_i x), (2, ov_i y), (3, ov_i way), (4, ov_i s), (5, ov_i v3)]) (st2 := [ov_i (-1)]) (pc2 := 39) b_101_38_1 rfl rfl ?_
          exact ov_reti (st := []) d_101_39 rfl ⟨_, rfl, rfl, rfl, trivial⟩
  · skip
    refine ov_getf (v := ov_r 70) d_101_1 fl_OF_78 (zb_0 I) (zs_0 I) (congrArg ov_r e1) ?_
    refine ov_blk (ls2 := [(0, ov_r 0), (1, ov_i x), (2, ov_i y), (3, ov_i way), (4, ov_i s)]) (st2 := [ov_i y, ov_i x, ov_r 70]) (pc2 := 6) b_101_4_2 rfl rfl ?_
    refine ov_cV (as := [ov_i x, ov_i y]) (st := []) (d2 := d - 1) d_101_6 lk_OF_131 rfl (Nat.le_of_ble_eq_true rfl) (c := 9) (zb_70 I) (zs_70 I) ⟨by decide, rfl⟩ (by omega) (c_Town_corner_70 (d - 1) (by omega) U I x y (by omega) (by omega)) ?_
    rintro _ _ _ ⟨v18, rfl, rfl, rfl, f17⟩
    show ov_R u d ov_m101 9 [(0, ov_r 0), (1, ov_i x), (2, ov_i y), (3, ov_i way), (4, ov_i s)] [ov_i v18] z h (P_OF_until_0 z h x y way s)
    have f19 : v18 = -1 ∨ (0 ≤ x ∧ x < (h 70 0) ∧ 0 ≤ y ∧ y < (h 70 1) ∧ v18 = y * 6 + x ∧ (h 70 0) ≤ 6 ∧ (h 70 1) ≤ 9) := f17
    clear f17
    refine ov_blk (ls2 := [(0, ov_r 0), (1, ov_i x), (2, ov_i y), (3, ov_i way), (4, ov_i s), (5, ov_i v18)]) (st2 := [ov_i (-1), ov_i v18]) (pc2 := 14) b_101_9_3 rfl rfl ?_
    refine ov_iceq (tgt := 38) d_101_14 (by decide) (by omega) (by omega) (fun c20 => ?_) (fun c20 => ?_)
    · skip
      refine ov_blk (ls2 := [(0, ov_r 0), (1, ov_i x), (2, ov_i y), (3, ov_i way), (4, ov_i s), (5, ov_i v18)]) (st2 := [ov_i (-1)]) (pc2 := 39) b_101_38_1 rfl rfl ?_
      exact ov_reti (st := []) d_101_39 rfl ⟨_, rfl, rfl, rfl, trivial⟩
    · skip
      refine ov_blk (ls2 := [(0, ov_r 0), (1, ov_i x), (2, ov_i y), (3, ov_i way), (4, ov_i s), (5, ov_i v18)]) (st2 := [ov_i s]) (pc2 := 19) b_101_17_1 rfl rfl ?_
      refine ov_cS (as := [ov_i s]) (st := []) (d2 := d - 1) d_101_19 lk_OF_155 rfl (Nat.le_of_ble_eq_true rfl) (by omega) (c_OF_isSecond (d - 1) (by omega) U I s (by omega)) ?_
      rintro _ _ _ ⟨v22, rfl, rfl, rfl, f21⟩
      show ov_R u d ov_m101 22 [(0, ov_r 0), (1, ov_i x), (2, ov_i y), (3, ov_i way), (4, ov_i s), (5, ov_i v18)] [ov_i v22] z h (P_OF_until_0 z h x y way s)
      have f23 : (v22 = 0 ∨ v22 = 1) ∧ (v22 = 1 → 0 ≤ s ∧ s ≤ 1000000) := f21
      clear f21
      refine ov_ifeq (tgt := 38) d_101_22 (by decide) (by omega) (fun c24 => ?_) (fun c24 => ?_)
      · skip
        refine ov_blk (ls2 := [(0, ov_r 0), (1, ov_i x), (2, ov_i y), (3, ov_i way), (4, ov_i s), (5, ov_i v18)]) (st2 := [ov_i (-1)]) (pc2 := 39) b_101_38_1 rfl rfl ?_
        exact ov_reti (st := []) d_101_39 rfl ⟨_, rfl, rfl, rfl, trivial⟩
      · skip
        refine ov_blk (ls2 := [(0, ov_r 0), (1, ov_i x), (2, ov_i y), (3, ov_i way), (4, ov_i s), (5, ov_i v18)]) (st2 := [ov_r 0]) (pc2 := 26) b_101_25_1 rfl rfl ?_
        refine ov_getf (v := ov_r 70) d_101_26 fl_OF_78 (zb_0 I) (zs_0 I) (congrArg ov_r e1) ?_
        refine ov_blk (ls2 := [(0, ov_r 0), (1, ov_i x), (2, ov_i y), (3, ov_i way), (4, ov_i s), (5, ov_i v18)]) (st2 := [ov_i way, ov_i v18, ov_r 70]) (pc2 := 32) b_101_29_2 rfl rfl ?_
        refine ov_cV (as := [ov_i v18, ov_i way]) (st := []) (d2 := d - 1) d_101_32 lk_OF_158 rfl (Nat.le_of_ble_eq_true rfl) (c := 9) (zb_70 I) (zs_70 I) ⟨by decide, rfl⟩ (by omega) (c_Town_isOpen_70 (d - 1) (by omega) U I v18 way (by omega) (by omega) (by omega)) ?_
        rintro _ _ _ ⟨v26, rfl, rfl, rfl, f25⟩
        show ov_R u d ov_m101 35 [(0, ov_r 0), (1, ov_i x), (2, ov_i y), (3, ov_i way), (4, ov_i s), (5, ov_i v18)] [ov_i v26] z h (P_OF_until_0 z h x y way s)
        have f27 : (v26 = 0 ∨ v26 = 1) ∧ (v26 = 1 → (way = 0 ∧ v18 ≤ 52) ∨ (way = 1 ∧ v18 ≤ 47)) := f25
        clear f25
        refine ov_ifne (tgt := 40) d_101_35 (by decide) (by omega) (fun c28 => ?_) (fun c28 => ?_)
        · skip
          refine ov_blk (ls2 := [(0, ov_r 0), (1, ov_i x), (2, ov_i y), (3, ov_i way), (4, ov_i s), (5, ov_i v18)]) (st2 := [ov_r 0]) (pc2 := 41) b_101_40_1 rfl rfl ?_
          refine ov_getf (v := ov_r 70) d_101_41 fl_OF_78 (zb_0 I) (zs_0 I) (congrArg ov_r e1) ?_
          refine ov_blk (ls2 := [(0, ov_r 0), (1, ov_i x), (2, ov_i y), (3, ov_i way), (4, ov_i s), (5, ov_i v18)]) (st2 := [ov_i s, ov_i way, ov_i v18, ov_r 70]) (pc2 := 49) b_101_44_3 rfl rfl ?_
          refine ov_cV (as := [ov_i v18, ov_i way, ov_i s]) (st := []) (d2 := d - 1) d_101_49 lk_OF_162 rfl (Nat.le_of_ble_eq_true rfl) (c := 9) (zb_70 I) (zs_70 I) ⟨by decide, rfl⟩ (by omega) (c_Town_waitFor_70 (d - 1) (by omega) U I v18 way s (by omega) (by omega) (by omega) (by omega)) ?_
          rintro _ _ _ ⟨v30, rfl, rfl, rfl, f29⟩
          show ov_R u d ov_m101 52 [(0, ov_r 0), (1, ov_i x), (2, ov_i y), (3, ov_i way), (4, ov_i s), (5, ov_i v18)] [ov_i v30] z h (P_OF_until_0 z h x y way s)
          have f31 : 0 ≤ v30 ∧ v30 ≤ 60 := f29
          clear f29
          exact ov_reti (st := []) d_101_52 rfl ⟨_, rfl, rfl, rfl, trivial⟩
        · skip
          refine ov_blk (ls2 := [(0, ov_r 0), (1, ov_i x), (2, ov_i y), (3, ov_i way), (4, ov_i s), (5, ov_i v18)]) (st2 := [ov_i (-1)]) (pc2 := 39) b_101_38_1 rfl rfl ?_
          exact ov_reti (st := []) d_101_39 rfl ⟨_, rfl, rfl, rfl, trivial⟩
abbrev P_OF_go_0 (z : ov_Z) (h : ov_H) (way : Int) (run : Int) : Option ov_V → ov_Z → ov_H → Prop := fun r0 z' h' => ∃ r : Int, r0 = some (ov_i r) ∧ ov_I z' h' ∧ (h' 36 7 = h 36 7 ∧ h' 1 1 = h 1 1 ∧ h' 90 2 = h 90 2 ∧ h' 0 10 = h 0 10 ∧ h' 0 11 = h 0 11 ∧ h' 0 12 = h 0 12 ∧ h' 0 13 = h 0 13 ∧ h' 3 1 = h 3 1 ∧ h' 36 8 = h 36 8 ∧ h' 46 3 = h 46 3 ∧ h' 46 4 = h 46 4 ∧ h' 49 4 = h 49 4 ∧ h' 49 5 = h 49 5)
set_option maxHeartbeats 4000000 in
theorem c_OF_go_0 {u : ov_U} {z : ov_Z} {h : ov_H} (d : Nat) (hd : 2 ≤ d) (U : ov_cap u) (I : ov_I z h) (way : Int) (run : Int) (g_way : ov_g way) (g_run : run = 0 ∨ run = 1) : ov_T u d ov_m102 [ov_r 0, ov_i way, ov_i run] z h (P_OF_go_0 z h way run) := by
  refine ov_en rfl (Nat.le_of_ble_eq_true rfl) ?_
  show ov_R u d ov_m102 0 [(0, ov_r 0), (1, ov_i way), (2, ov_i run)] [] z h (P_OF_go_0 z h way run)
  refine ov_blk (ls2 := [(0, ov_r 0), (1, ov_i way), (2, ov_i run)]) (st2 := [ov_r 0]) (pc2 := 1) b_102_0_1 rfl rfl ?_
  rcases rg_0_10 I with e1 | e1
  · skip
    refine ov_getf (v := ov_r 58) d_102_1 fl_OF_78 (zb_0 I) (zs_0 I) (congrArg ov_r e1) ?_
    refine ov_blk (ls2 := [(0, ov_r 0), (1, ov_i way), (2, ov_i run)]) (st2 := [ov_r 0, ov_r 58]) (pc2 := 5) b_102_4_1 rfl rfl ?_
    refine ov_getf (v := ov_r 4) d_102_5 fl_OF_28 (zb_0 I) (zs_0 I) (congrArg ov_r (rg_0_2 I)) ?_
    refine ov_getf (v := ov_i (h 4 0)) d_102_8 fl_OF_166 (zb_4 I) (zs_4 I) rfl ?_
    have g2 := rg_4_0 I
    refine ov_blk (ls2 := [(0, ov_r 0), (1, ov_i way), (2, ov_i run)]) (st2 := [ov_i way, ov_i (h 4 0), ov_r 58]) (pc2 := 12) b_102_11_1 rfl rfl ?_
    refine ov_cV (as := [ov_i (h 4 0), ov_i way]) (st := []) (d2 := d - 1) d_102_12 lk_OF_158 rfl (Nat.le_of_ble_eq_true rfl) (c := 9) (zb_58 I) (zs_58 I) ⟨by decide, rfl⟩ (by omega) (c_Town_isOpen_58 (d - 1) (by omega) U I (h 4 0) way (by omega) (by omega) (by omega)) ?_
    rintro _ _ _ ⟨v4, rfl, rfl, rfl, f3⟩
    show ov_R u d ov_m102 15 [(0, ov_r 0), (1, ov_i way), (2, ov_i run)] [ov_i v4] z h (P_OF_go_0 z h way run)
    have f5 : (v4 = 0 ∨ v4 = 1) ∧ (v4 = 1 → (way = 0 ∧ (h 4 0) ≤ 52) ∨ (way = 1 ∧ (h 4 0) ≤ 47)) := f3
    clear f3
    refine ov_ifeq (tgt := 29) d_102_15 (by decide) (by omega) (fun c6 => ?_) (fun c6 => ?_)
    · skip
      refine ov_blk (ls2 := [(0, ov_r 0), (1, ov_i way), (2, ov_i run)]) (st2 := [ov_i (-1)]) (pc2 := 30) b_102_29_1 rfl rfl ?_
      exact ov_reti (st := []) d_102_30 rfl ⟨_, rfl, I, (by show (h 36 7) = (h 36 7) ∧ (h 1 1) = (h 1 1) ∧ (h 90 2) = (h 90 2) ∧ (h 0 10) = (h 0 10) ∧ (h 0 11) = (h 0 11) ∧ (h 0 12) = (h 0 12) ∧ (h 0 13) = (h 0 13) ∧ (h 3 1) = (h 3 1) ∧ (h 36 8) = (h 36 8) ∧ (h 46 3) = (h 46 3) ∧ (h 46 4) = (h 46 4) ∧ (h 49 4) = (h 49 4) ∧ (h 49 5) = (h 49 5); omega)⟩
    · skip
      refine ov_blk (ls2 := [(0, ov_r 0), (1, ov_i way), (2, ov_i run)]) (st2 := [ov_i run]) (pc2 := 19) b_102_18_1 rfl rfl ?_
      refine ov_ifeq (tgt := 31) d_102_19 (by decide) (by omega) (fun c7 => ?_) (fun c7 => ?_)
      · skip
        refine ov_blk (ls2 := [(0, ov_r 0), (1, ov_i way), (2, ov_i run)]) (st2 := [ov_r 0]) (pc2 := 32) b_102_31_1 rfl rfl ?_
        refine ov_getf (v := ov_r 9) d_102_32 fl_OF_35 (zb_0 I) (zs_0 I) (congrArg ov_r (rg_0_3 I)) ?_
        refine ov_blk (ls2 := [(0, ov_r 0), (1, ov_i way), (2, ov_i run)]) (st2 := [ov_r 0, ov_r 9]) (pc2 := 36) b_102_35_1 rfl rfl ?_
        refine ov_getf (v := ov_r 4) d_102_36 fl_OF_28 (zb_0 I) (zs_0 I) (congrArg ov_r (rg_0_2 I)) ?_
        refine ov_cV (as := [ov_r 4]) (st := []) (d2 := d - 1) d_102_39 lk_OF_172 rfl (Nat.le_of_ble_eq_true rfl) (c := 3) (zb_9 I) (zs_9 I) ⟨by decide, rfl⟩ (by omega) (c_History_keep_9_4 (d - 1) (by omega) U I) ?_
        rintro _ z9 h10 ⟨rfl, I11, f8⟩
        show ov_R u d ov_m102 42 [(0, ov_r 0), (1, ov_i way), (2, ov_i run)] [] z9 h10 (P_OF_go_0 z h way run)
        have f12 : (h10 36 7) = (h 36 7) ∧ (h10 1 1) = (h 1 1) ∧ (h10 90 2) = (h 90 2) ∧ (h10 0 10) = (h 0 10) ∧ (h10 0 11) = (h 0 11) ∧ (h10 0 12) = (h 0 12) ∧ (h10 0 13) = (h 0 13) ∧ (h10 3 1) = (h 3 1) ∧ (h10 36 8) = (h 36 8) ∧ (h10 46 3) = (h 46 3) ∧ (h10 46 4) = (h 46 4) ∧ (h10 49 4) = (h 49 4) ∧ (h10 49 5) = (h 49 5) := f8
        clear f8
        have e13 : h10 0 10 = 58 := by omega
        refine ov_blk (ls2 := [(0, ov_r 0), (1, ov_i way), (2, ov_i run)]) (st2 := [ov_r 0]) (pc2 := 43) b_102_42_1 rfl rfl ?_
        refine ov_getf (v := ov_r 58) d_102_43 fl_OF_78 (zb_0 I11) (zs_0 I11) (congrArg ov_r e13) ?_
        refine ov_getf (v := ov_r 64) d_102_46 fl_OF_176 (zb_58 I11) (zs_58 I11) (congrArg ov_r (rg_58_7 I11)) ?_
        refine ov_blk (ls2 := [(0, ov_r 0), (1, ov_i way), (2, ov_i run)]) (st2 := [ov_i run, ov_r 64]) (pc2 := 50) b_102_49_1 rfl rfl ?_
        refine ov_ifeq (tgt := 57) d_102_50 (by decide) (by omega) (fun c14 => ?_) (fun c14 => ?_)
        · skip
          refine ov_blk (ls2 := [(0, ov_r 0), (1, ov_i way), (2, ov_i run)]) (st2 := [ov_i 0, ov_r 64]) (pc2 := 58) b_102_57_1 rfl rfl ?_
          refine ov_iald d_102_58 (zb_64 I11) (zs_64 I11) (by omega) ?_
          have g15 := ra_64 I11 0
          refine ov_blk (ls2 := [(0, ov_r 0), (1, ov_i way), (2, ov_i run), (3, ov_i (h10 64 0))]) (st2 := [ov_r 0]) (pc2 := 61) b_102_59_2 rfl rfl ?_
          refine ov_getf (v := ov_r 4) d_102_61 fl_OF_28 (zb_0 I11) (zs_0 I11) (congrArg ov_r (rg_0_2 I11)) ?_
          refine ov_blk (ls2 := [(0, ov_r 0), (1, ov_i way), (2, ov_i run), (3, ov_i (h10 64 0))]) (st2 := [ov_r 4, ov_r 4]) (pc2 := 65) b_102_64_1 rfl rfl ?_
          refine ov_getf (v := ov_i (h10 4 1)) d_102_65 fl_OF_179 (zb_4 I11) (zs_4 I11) rfl ?_
          have g16 := rg_4_1 I11
          refine ov_blk (ls2 := [(0, ov_r 0), (1, ov_i way), (2, ov_i run), (3, ov_i (h10 64 0))]) (st2 := [ov_r 0, ov_i (h10 4 1), ov_r 4]) (pc2 := 69) b_102_68_1 rfl rfl ?_
          refine ov_getf (v := ov_r 58) d_102_69 fl_OF_78 (zb_0 I11) (zs_0 I11) (congrArg ov_r e13) ?_
          refine ov_blk (ls2 := [(0, ov_r 0), (1, ov_i way), (2, ov_i run), (3, ov_i (h10 64 0))]) (st2 := [ov_r 0, ov_r 58, ov_i (h10 4 1), ov_r 4]) (pc2 := 73) b_102_72_1 rfl rfl ?_
          refine ov_getf (v := ov_r 4) d_102_73 fl_OF_28 (zb_0 I11) (zs_0 I11) (congrArg ov_r (rg_0_2 I11)) ?_
          refine ov_getf (v := ov_i (h10 4 0)) d_102_76 fl_OF_166 (zb_4 I11) (zs_4 I11) rfl ?_
          have g17 := rg_4_0 I11
          refine ov_blk (ls2 := [(0, ov_r 0), (1, ov_i way), (2, ov_i run), (3, ov_i (h10 64 0))]) (st2 := [ov_r 0, ov_i way, ov_i (h10 4 0), ov_r 58, ov_i (h10 4 1), ov_r 4]) (pc2 := 81) b_102_79_2 rfl rfl ?_
          refine ov_getf (v := ov_r 4) d_102_81 fl_OF_28 (zb_0 I11) (zs_0 I11) (congrArg ov_r (rg_0_2 I11)) ?_
          refine ov_getf (v := ov_i (h10 4 1)) d_102_84 fl_OF_179 (zb_4 I11) (zs_4 I11) rfl ?_
          refine ov_cV (as := [ov_i (h10 4 0), ov_i way, ov_i (h10 4 1)]) (st := [ov_i (h10 4 1), ov_r 4]) (d2 := d - 1) d_102_87 lk_OF_162 rfl (Nat.le_of_ble_eq_true rfl) (c := 9) (zb_58 I11) (zs_58 I11) ⟨by decide, rfl⟩ (by omega) (c_Town_waitFor_58 (d - 1) (by omega) U I11 (h10 4 0) way (h10 4 1) (by omega) (by omega) (by omega) (by omega)) ?_
          rintro _ _ _ ⟨v20, rfl, rfl, rfl, f19⟩
          show ov_R u d ov_m102 90 [(0, ov_r 0), (1, ov_i way), (2, ov_i run), (3, ov_i (h10 64 0))] [ov_i v20, ov_i (h10 4 1), ov_r 4] z9 h10 (P_OF_go_0 z h way run)
          have f21 : 0 ≤ v20 ∧ v20 ≤ 60 := f19
          clear f19
          refine ov_blk (ls2 := [(0, ov_r 0), (1, ov_i way), (2, ov_i run), (3, ov_i (h10 64 0))]) (st2 := [ov_i (v20 + (h10 64 0)), ov_i (h10 4 1), ov_r 4]) (pc2 := 92) b_102_90_2 rfl rfl ?_
          refine ov_havw (fun w22 gw22 qw22 => ?_)
          refine ov_blk (ls2 := [(0, ov_r 0), (1, ov_i way), (2, ov_i run), (3, ov_i (h10 64 0))]) (st2 := [ov_i ((h10 4 1) + w22), ov_r 4]) (pc2 := 93) b_102_92_1 rfl rfl ?_
          refine ov_havw (fun w23 gw23 qw23 => ?_)
          refine ov_putf (x := w23) d_102_93 fl_OF_179 (zb_4 I11) (zs_4 I11) rfl nk_0 rfl ?_
          have I24 := up_4_1 (x := w23) I11 (by omega)
          refine ov_blk (ls2 := [(0, ov_r 0), (1, ov_i way), (2, ov_i run), (3, ov_i (h10 64 0))]) (st2 := [ov_r 0]) (pc2 := 97) b_102_96_1 rfl rfl ?_
          refine ov_getf (v := ov_r 4) d_102_97 fl_OF_28 (zb_0 I24) (zs_0 I24) (congrArg ov_r (rg_0_2 I24)) ?_
          refine ov_blk (ls2 := [(0, ov_r 0), (1, ov_i way), (2, ov_i run), (3, ov_i (h10 64 0))]) (st2 := [ov_r 0, ov_r 4]) (pc2 := 101) b_102_100_1 rfl rfl ?_
          refine ov_getf (v := ov_r 58) d_102_101 fl_OF_78 (zb_0 I24) (zs_0 I24) (congrArg ov_r e13) ?_
          refine ov_blk (ls2 := [(0, ov_r 0), (1, ov_i way), (2, ov_i run), (3, ov_i (h10 64 0))]) (st2 := [ov_r 0, ov_r 58, ov_r 4]) (pc2 := 105) b_102_104_1 rfl rfl ?_
          refine ov_getf (v := ov_r 4) d_102_105 fl_OF_28 (zb_0 I24) (zs_0 I24) (congrArg ov_r (rg_0_2 I24)) ?_
          refine ov_getf (v := ov_i (h10 4 0)) d_102_108 fl_OF_166 (zb_4 I24) (zs_4 I24) rfl ?_
          refine ov_blk (ls2 := [(0, ov_r 0), (1, ov_i way), (2, ov_i run), (3, ov_i (h10 64 0))]) (st2 := [ov_i way, ov_i (h10 4 0), ov_r 58, ov_r 4]) (pc2 := 112) b_102_111_1 rfl rfl ?_
          refine ov_cV (as := [ov_i (h10 4 0), ov_i way]) (st := [ov_r 4]) (d2 := d - 1) d_102_112 lk_OF_182 rfl (Nat.le_of_ble_eq_true rfl) (c := 9) (zb_58 I24) (zs_58 I24) ⟨by decide, rfl⟩ (by omega) (c_Town_after_58 (d - 1) (by omega) U I24 (h10 4 0) way (by omega) (by omega) (by omega)) ?_
          rintro _ _ _ ⟨v27, rfl, rfl, rfl, f26⟩
          show ov_R u d ov_m102 115 [(0, ov_r 0), (1, ov_i way), (2, ov_i run), (3, ov_i (h10 64 0))] [ov_i v27, ov_r 4] z9 (ov_up h10 4 1 w23) (P_OF_go_0 z h way run)
          have f28 : (way = 0 → v27 = (h10 4 0) + 1) ∧ (¬ way = 0 → v27 = (h10 4 0) + 6) := f26
          clear f26
          refine ov_putf (x := v27) d_102_115 fl_OF_166 (zb_4 I24) (zs_4 I24) rfl nk_0 rfl ?_
          have I29 := up_4_0 (x := v27) I24 (by omega)
          refine ov_blk (ls2 := [(0, ov_r 0), (1, ov_i way), (2, ov_i run), (3, ov_i (h10 64 0))]) (st2 := [ov_r 0]) (pc2 := 119) b_102_118_1 rfl rfl ?_
          refine ov_getf (v := ov_r 4) d_102_119 fl_OF_28 (zb_0 I29) (zs_0 I29) (congrArg ov_r (rg_0_2 I29)) ?_
          refine ov_blk (ls2 := [(0, ov_r 0), (1, ov_i way), (2, ov_i run), (3, ov_i (h10 64 0))]) (st2 := [ov_r 4, ov_r 4]) (pc2 := 123) b_102_122_1 rfl rfl ?_
          refine ov_getf (v := ov_i (h10 4 2)) d_102_123 fl_OF_185 (zb_4 I29) (zs_4 I29) rfl ?_
          have g30 := rg_4_2 I11
          refine ov_blk (ls2 := [(0, ov_r 0), (1, ov_i way), (2, ov_i run), (3, ov_i (h10 64 0))]) (st2 := [ov_i run, ov_i (h10 4 2), ov_r 4]) (pc2 := 127) b_102_126_1 rfl rfl ?_
          refine ov_ifeq (tgt := 134) d_102_127 (by decide) (by omega) (fun c31 => ?_) (fun c31 => ?_)
          · skip
            refine ov_blk (ls2 := [(0, ov_r 0), (1, ov_i way), (2, ov_i run), (3, ov_i (h10 64 0))]) (st2 := [ov_i ((h10 4 2) + 0), ov_r 4]) (pc2 := 136) b_102_134_2 rfl rfl ?_
            refine ov_havw (fun w32 gw32 qw32 => ?_)
            refine ov_putf (x := w32) d_102_136 fl_OF_185 (zb_4 I29) (zs_4 I29) rfl nk_0 rfl ?_
            have I33 := up_4_2 (x := w32) I29 (by omega)
            refine ov_blk (ls2 := [(0, ov_r 0), (1, ov_i way), (2, ov_i run), (3, ov_i (h10 64 0))]) (st2 := [ov_r 0]) (pc2 := 140) b_102_139_1 rfl rfl ?_
            refine ov_getf (v := ov_r 4) d_102_140 fl_OF_28 (zb_0 I33) (zs_0 I33) (congrArg ov_r (rg_0_2 I33)) ?_
            refine ov_getf (v := ov_i w23) d_102_143 fl_OF_179 (zb_4 I33) (zs_4 I33) rfl ?_
            exact ov_reti (st := []) d_102_146 rfl ⟨_, rfl, I33, (by show (h10 36 7) = (h 36 7) ∧ (h10 1 1) = (h 1 1) ∧ (h10 90 2) = (h 90 2) ∧ (h10 0 10) = (h 0 10) ∧ (h10 0 11) = (h 0 11) ∧ (h10 0 12) = (h 0 12) ∧ (h10 0 13) = (h 0 13) ∧ (h10 3 1) = (h 3 1) ∧ (h10 36 8) = (h 36 8) ∧ (h10 46 3) = (h 46 3) ∧ (h10 46 4) = (h 46 4) ∧ (h10 49 4) = (h 49 4) ∧ (h10 49 5) = (h 49 5); omega)⟩
          · skip
            refine ov_blk (ls2 := [(0, ov_r 0), (1, ov_i way), (2, ov_i run), (3, ov_i (h10 64 0))]) (st2 := [ov_i 1, ov_i (h10 4 2), ov_r 4]) (pc2 := 131) b_102_130_1 rfl rfl ?_
            refine ov_goto (tgt := 135) d_102_131 (by decide) ?_
            refine ov_blk (ls2 := [(0, ov_r 0), (1, ov_i way), (2, ov_i run), (3, ov_i (h10 64 0))]) (st2 := [ov_i ((h10 4 2) + 1), ov_r 4]) (pc2 := 136) b_102_135_1 rfl rfl ?_
            refine ov_havw (fun w34 gw34 qw34 => ?_)
            refine ov_putf (x := w34) d_102_136 fl_OF_185 (zb_4 I29) (zs_4 I29) rfl nk_0 rfl ?_
            have I35 := up_4_2 (x := w34) I29 (by omega)
            refine ov_blk (ls2 := [(0, ov_r 0), (1, ov_i way), (2, ov_i run), (3, ov_i (h10 64 0))]) (st2 := [ov_r 0]) (pc2 := 140) b_102_139_1 rfl rfl ?_
            refine ov_getf (v := ov_r 4) d_102_140 fl_OF_28 (zb_0 I35) (zs_0 I35) (congrArg ov_r (rg_0_2 I35)) ?_
            refine ov_getf (v := ov_i w23) d_102_143 fl_OF_179 (zb_4 I35) (zs_4 I35) rfl ?_
            exact ov_reti (st := []) d_102_146 rfl ⟨_, rfl, I35, (by show (h10 36 7) = (h 36 7) ∧ (h10 1 1) = (h 1 1) ∧ (h10 90 2) = (h 90 2) ∧ (h10 0 10) = (h 0 10) ∧ (h10 0 11) = (h 0 11) ∧ (h10 0 12) = (h 0 12) ∧ (h10 0 13) = (h 0 13) ∧ (h10 3 1) = (h 3 1) ∧ (h10 36 8) = (h 36 8) ∧ (h10 46 3) = (h 46 3) ∧ (h10 46 4) = (h 46 4) ∧ (h10 49 4) = (h 49 4) ∧ (h10 49 5) = (h 49 5); omega)⟩
        · skip
          refine ov_blk (ls2 := [(0, ov_r 0), (1, ov_i way), (2, ov_i run)]) (st2 := [ov_i 1, ov_r 64]) (pc2 := 54) b_102_53_1 rfl rfl ?_
          refine ov_goto (tgt := 58) d_102_54 (by decide) ?_
          refine ov_iald d_102_58 (zb_64 I11) (zs_64 I11) (by omega) ?_
          have g36 := ra_64 I11 1
          refine ov_blk (ls2 := [(0, ov_r 0), (1, ov_i way), (2, ov_i run), (3, ov_i (h10 64 1))]) (st2 := [ov_r 0]) (pc2 := 61) b_102_59_2 rfl rfl ?_
          refine ov_getf (v := ov_r 4) d_102_61 fl_OF_28 (zb_0 I11) (zs_0 I11) (congrArg ov_r (rg_0_2 I11)) ?_
          refine ov_blk (ls2 := [(0, ov_r 0), (1, ov_i way), (2, ov_i run), (3, ov_i (h10 64 1))]) (st2 := [ov_r 4, ov_r 4]) (pc2 := 65) b_102_64_1 rfl rfl ?_
          refine ov_getf (v := ov_i (h10 4 1)) d_102_65 fl_OF_179 (zb_4 I11) (zs_4 I11) rfl ?_
          have g37 := rg_4_1 I11
          refine ov_blk (ls2 := [(0, ov_r 0), (1, ov_i way), (2, ov_i run), (3, ov_i (h10 64 1))]) (st2 := [ov_r 0, ov_i (h10 4 1), ov_r 4]) (pc2 := 69) b_102_68_1 rfl rfl ?_
          refine ov_getf (v := ov_r 58) d_102_69 fl_OF_78 (zb_0 I11) (zs_0 I11) (congrArg ov_r e13) ?_
          refine ov_blk (ls2 := [(0, ov_r 0), (1, ov_i way), (2, ov_i run), (3, ov_i (h10 64 1))]) (st2 := [ov_r 0, ov_r 58, ov_i (h10 4 1), ov_r 4]) (pc2 := 73) b_102_72_1 rfl rfl ?_
          refine ov_getf (v := ov_r 4) d_102_73 fl_OF_28 (zb_0 I11) (zs_0 I11) (congrArg ov_r (rg_0_2 I11)) ?_
          refine ov_getf (v := ov_i (h10 4 0)) d_102_76 fl_OF_166 (zb_4 I11) (zs_4 I11) rfl ?_
          have g38 := rg_4_0 I11
          refine ov_blk (ls2 := [(0, ov_r 0), (1, ov_i way), (2, ov_i run), (3, ov_i (h10 64 1))]) (st2 := [ov_r 0, ov_i way, ov_i (h10 4 0), ov_r 58, ov_i (h10 4 1), ov_r 4]) (pc2 := 81) b_102_79_2 rfl rfl ?_
          refine ov_getf (v := ov_r 4) d_102_81 fl_OF_28 (zb_0 I11) (zs_0 I11) (congrArg ov_r (rg_0_2 I11)) ?_
          refine ov_getf (v := ov_i (h10 4 1)) d_102_84 fl_OF_179 (zb_4 I11) (zs_4 I11) rfl ?_
          refine ov_cV (as := [ov_i (h10 4 0), ov_i way, ov_i (h10 4 1)]) (st := [ov_i (h10 4 1), ov_r 4]) (d2 := d - 1) d_102_87 lk_OF_162 rfl (Nat.le_of_ble_eq_true rfl) (c := 9) (zb_58 I11) (zs_58 I11) ⟨by decide, rfl⟩ (by omega) (c_Town_waitFor_58 (d - 1) (by omega) U I11 (h10 4 0) way (h10 4 1) (by omega) (by omega) (by omega) (by omega)) ?_
          rintro _ _ _ ⟨v41, rfl, rfl, rfl, f40⟩
          show ov_R u d ov_m102 90 [(0, ov_r 0), (1, ov_i way), (2, ov_i run), (3, ov_i (h10 64 1))] [ov_i v41, ov_i (h10 4 1), ov_r 4] z9 h10 (P_OF_go_0 z h way run)
          have f42 : 0 ≤ v41 ∧ v41 ≤ 60 := f40
          clear f40
          refine ov_blk (ls2 := [(0, ov_r 0), (1, ov_i way), (2, ov_i run), (3, ov_i (h10 64 1))]) (st2 := [ov_i (v41 + (h10 64 1)), ov_i (h10 4 1), ov_r 4]) (pc2 := 92) b_102_90_2 rfl rfl ?_
          refine ov_havw (fun w43 gw43 qw43 => ?_)
          refine ov_blk (ls2 := [(0, ov_r 0), (1, ov_i way), (2, ov_i run), (3, ov_i (h10 64 1))]) (st2 := [ov_i ((h10 4 1) + w43), ov_r 4]) (pc2 := 93) b_102_92_1 rfl rfl ?_
          refine ov_havw (fun w44 gw44 qw44 => ?_)
          refine ov_putf (x := w44) d_102_93 fl_OF_179 (zb_4 I11) (zs_4 I11) rfl nk_0 rfl ?_
          have I45 := up_4_1 (x := w44) I11 (by omega)
          refine ov_blk (ls2 := [(0, ov_r 0), (1, ov_i way), (2, ov_i run), (3, ov_i (h10 64 1))]) (st2 := [ov_r 0]) (pc2 := 97) b_102_96_1 rfl rfl ?_
          refine ov_getf (v := ov_r 4) d_102_97 fl_OF_28 (zb_0 I45) (zs_0 I45) (congrArg ov_r (rg_0_2 I45)) ?_
          refine ov_blk (ls2 := [(0, ov_r 0), (1, ov_i way), (2, ov_i run), (3, ov_i (h10 64 1))]) (st2 := [ov_r 0, ov_r 4]) (pc2 := 101) b_102_100_1 rfl rfl ?_
          refine ov_getf (v := ov_r 58) d_102_101 fl_OF_78 (zb_0 I45) (zs_0 I45) (congrArg ov_r e13) ?_
          refine ov_blk (ls2 := [(0, ov_r 0), (1, ov_i way), (2, ov_i run), (3, ov_i (h10 64 1))]) (st2 := [ov_r 0, ov_r 58, ov_r 4]) (pc2 := 105) b_102_104_1 rfl rfl ?_
          refine ov_getf (v := ov_r 4) d_102_105 fl_OF_28 (zb_0 I45) (zs_0 I45) (congrArg ov_r (rg_0_2 I45)) ?_
          refine ov_getf (v := ov_i (h10 4 0)) d_102_108 fl_OF_166 (zb_4 I45) (zs_4 I45) rfl ?_
          refine ov_blk (ls2 := [(0, ov_r 0), (1, ov_i way), (2, ov_i run), (3, ov_i (h10 64 1))]) (st2 := [ov_i way, ov_i (h10 4 0), ov_r 58, ov_r 4]) (pc2 := 112) b_102_111_1 rfl rfl ?_
          refine ov_cV (as := [ov_i (h10 4 0), ov_i way]) (st := [ov_r 4]) (d2 := d - 1) d_102_112 lk_OF_182 rfl (Nat.le_of_ble_eq_true rfl) (c := 9) (zb_58 I45) (zs_58 I45) ⟨by decide, rfl⟩ (by omega) (c_Town_after_58 (d - 1) (by omega) U I45 (h10 4 0) way (by omega) (by omega) (by omega)) ?_
          rintro _ _ _ ⟨v48, rfl, rfl, rfl, f47⟩
          show ov_R u d ov_m102 115 [(0, ov_r 0), (1, ov_i way), (2, ov_i run), (3, ov_i (h10 64 1))] [ov_i v48, ov_r 4] z9 (ov_up h10 4 1 w44) (P_OF_go_0 z h way run)
          have f49 : (way = 0 → v48 = (h10 4 0) + 1) ∧ (¬ way = 0 → v48 = (h10 4 0) + 6) := f47
          clear f47
          refine ov_putf (x := v48) d_102_115 fl_OF_166 (zb_4 I45) (zs_4 I45) rfl nk_0 rfl ?_
          have I50 := up_4_0 (x := v48) I45 (by omega)
          refine ov_blk (ls2 := [(0, ov_r 0), (1, ov_i way), (2, ov_i run), (3, ov_i (h10 64 1))]) (st2 := [ov_r 0]) (pc2 := 119) b_102_118_1 rfl rfl ?_
          refine ov_getf (v := ov_r 4) d_102_119 fl_OF_28 (zb_0 I50) (zs_0 I50) (congrArg ov_r (rg_0_2 I50)) ?_
          refine ov_blk (ls2 := [(0, ov_r 0), (1, ov_i way), (2, ov_i run), (3, ov_i (h10 64 1))]) (st2 := [ov_r 4, ov_r 4]) (pc2 := 123) b_102_122_1 rfl rfl ?_
          refine ov_getf (v := ov_i (h10 4 2)) d_102_123 fl_OF_185 (zb_4 I50) (zs_4 I50) rfl ?_
          have g51 := rg_4_2 I11
          refine ov_blk (ls2 := [(0, ov_r 0), (1, ov_i way), (2, ov_i run), (3, ov_i (h10 64 1))]) (st2 := [ov_i run, ov_i (h10 4 2), ov_r 4]) (pc2 := 127) b_102_126_1 rfl rfl ?_
          refine ov_ifeq (tgt := 134) d_102_127 (by decide) (by omega) (fun c52 => ?_) (fun c52 => ?_)
          · skip
            refine ov_blk (ls2 := [(0, ov_r 0), (1, ov_i way), (2, ov_i run), (3, ov_i (h10 64 1))]) (st2 := [ov_i ((h10 4 2) + 0), ov_r 4]) (pc2 := 136) b_102_134_2 rfl rfl ?_
            refine ov_havw (fun w53 gw53 qw53 => ?_)
            refine ov_putf (x := w53) d_102_136 fl_OF_185 (zb_4 I50) (zs_4 I50) rfl nk_0 rfl ?_
            have I54 := up_4_2 (x := w53) I50 (by omega)
            refine ov_blk (ls2 := [(0, ov_r 0), (1, ov_i way), (2, ov_i run), (3, ov_i (h10 64 1))]) (st2 := [ov_r 0]) (pc2 := 140) b_102_139_1 rfl rfl ?_
            refine ov_getf (v := ov_r 4) d_102_140 fl_OF_28 (zb_0 I54) (zs_0 I54) (congrArg ov_r (rg_0_2 I54)) ?_
            refine ov_getf (v := ov_i w44) d_102_143 fl_OF_179 (zb_4 I54) (zs_4 I54) rfl ?_
            exact ov_reti (st := []) d_102_146 rfl ⟨_, rfl, I54, (by show (h10 36 7) = (h 36 7) ∧ (h10 1 1) = (h 1 1) ∧ (h10 90 2) = (h 90 2) ∧ (h10 0 10) = (h 0 10) ∧ (h10 0 11) = (h 0 11) ∧ (h10 0 12) = (h 0 12) ∧ (h10 0 13) = (h 0 13) ∧ (h10 3 1) = (h 3 1) ∧ (h10 36 8) = (h 36 8) ∧ (h10 46 3) = (h 46 3) ∧ (h10 46 4) = (h 46 4) ∧ (h10 49 4) = (h 49 4) ∧ (h10 49 5) = (h 49 5); omega)⟩
          · skip
            refine ov_blk (ls2 := [(0, ov_r 0), (1, ov_i way), (2, ov_i run), (3, ov_i (h10 64 1))]) (st2 := [ov_i 1, ov_i (h10 4 2), ov_r 4]) (pc2 := 131) b_102_130_1 rfl rfl ?_
            refine ov_goto (tgt := 135) d_102_131 (by decide) ?_
            refine ov_blk (ls2 := [(0, ov_r 0), (1, ov_i way), (2, ov_i run), (3, ov_i (h10 64 1))]) (st2 := [ov_i ((h10 4 2) + 1), ov_r 4]) (pc2 := 136) b_102_135_1 rfl rfl ?_
            refine ov_havw (fun w55 gw55 qw55 => ?_)
            refine ov_putf (x := w55) d_102_136 fl_OF_185 (zb_4 I50) (zs_4 I50) rfl nk_0 rfl ?_
            have I56 := up_4_2 (x := w55) I50 (by omega)
            refine ov_blk (ls2 := [(0, ov_r 0), (1, ov_i way), (2, ov_i run), (3, ov_i (h10 64 1))]) (st2 := [ov_r 0]) (pc2 := 140) b_102_139_1 rfl rfl ?_
            refine ov_getf (v := ov_r 4) d_102_140 fl_OF_28 (zb_0 I56) (zs_0 I56) (congrArg ov_r (rg_0_2 I56)) ?_
            refine ov_getf (v := ov_i w44) d_102_143 fl_OF_179 (zb_4 I56) (zs_4 I56) rfl ?_
            exact ov_reti (st := []) d_102_146 rfl ⟨_, rfl, I56, (by show (h10 36 7) = (h 36 7) ∧ (h10 1 1) = (h 1 1) ∧ (h10 90 2) = (h 90 2) ∧ (h10 0 10) = (h 0 10) ∧ (h10 0 11) = (h 0 11) ∧ (h10 0 12) = (h 0 12) ∧ (h10 0 13) = (h 0 13) ∧ (h10 3 1) = (h 3 1) ∧ (h10 36 8) = (h 36 8) ∧ (h10 46 3) = (h 46 3) ∧ (h10 46 4) = (h 46 4) ∧ (h10 49 4) = (h 49 4) ∧ (h10 49 5) = (h 49 5); omega)⟩
      · skip
        refine ov_blk (ls2 := [(0, ov_r 0), (1, ov_i way), (2, ov_i run)]) (st2 := [ov_r 0]) (pc2 := 23) b_102_22_1 rfl rfl ?_
        refine ov_cV (as := []) (st := []) (d2 := d - 1) d_102_23 lk_OF_168 rfl (Nat.le_of_ble_eq_true rfl) (c := 0) (zb_0 I) (zs_0 I) ⟨by decide, rfl⟩ (by omega) (c_OF_runsLeft_0 (d - 1) (by omega) U I) ?_
        rintro _ _ _ ⟨v58, rfl, rfl, rfl, f57⟩
        show ov_R u d ov_m102 26 [(0, ov_r 0), (1, ov_i way), (2, ov_i run)] [ov_i v58] z h (P_OF_go_0 z h way run)
        have f59 : -2147483648 ≤ v58 ∧ v58 ≤ 2147483647 := f57
        clear f57
        refine ov_ifgt (tgt := 31) d_102_26 (by decide) (by omega) (fun c60 => ?_) (fun c60 => ?_)
        · skip
          refine ov_blk (ls2 := [(0, ov_r 0), (1, ov_i way), (2, ov_i run)]) (st2 := [ov_r 0]) (pc2 := 32) b_102_31_1 rfl rfl ?_
          refine ov_getf (v := ov_r 9) d_102_32 fl_OF_35 (zb_0 I) (zs_0 I) (congrArg ov_r (rg_0_3 I)) ?_
          refine ov_blk (ls2 := [(0, ov_r 0), (1, ov_i way), (2, ov_i run)]) (st2 := [ov_r 0, ov_r 9]) (pc2 := 36) b_102_35_1 rfl rfl ?_
          refine ov_getf (v := ov_r 4) d_102_36 fl_OF_28 (zb_0 I) (zs_0 I) (congrArg ov_r (rg_0_2 I)) ?_
          refine ov_cV (as := [ov_r 4]) (st := []) (d2 := d - 1) d_102_39 lk_OF_172 rfl (Nat.le_of_ble_eq_true rfl) (c := 3) (zb_9 I) (zs_9 I) ⟨by decide, rfl⟩ (by omega) (c_History_keep_9_4 (d - 1) (by omega) U I) ?_
          rintro _ z62 h63 ⟨rfl, I64, f61⟩
          show ov_R u d ov_m102 42 [(0, ov_r 0), (1, ov_i way), (2, ov_i run)] [] z62 h63 (P_OF_go_0 z h way run)
          have f65 : (h63 36 7) = (h 36 7) ∧ (h63 1 1) = (h 1 1) ∧ (h63 90 2) = (h 90 2) ∧ (h63 0 10) = (h 0 10) ∧ (h63 0 11) = (h 0 11) ∧ (h63 0 12) = (h 0 12) ∧ (h63 0 13) = (h 0 13) ∧ (h63 3 1) = (h 3 1) ∧ (h63 36 8) = (h 36 8) ∧ (h63 46 3) = (h 46 3) ∧ (h63 46 4) = (h 46 4) ∧ (h63 49 4) = (h 49 4) ∧ (h63 49 5) = (h 49 5) := f61
          clear f61
          have e66 : h63 0 10 = 58 := by omega
          refine ov_blk (ls2 := [(0, ov_r 0), (1, ov_i way), (2, ov_i run)]) (st2 := [ov_r 0]) (pc2 := 43) b_102_42_1 rfl rfl ?_
          refine ov_getf (v := ov_r 58) d_102_43 fl_OF_78 (zb_0 I64) (zs_0 I64) (congrArg ov_r e66) ?_
          refine ov_getf (v := ov_r 64) d_102_46 fl_OF_176 (zb_58 I64) (zs_58 I64) (congrArg ov_r (rg_58_7 I64)) ?_
          refine ov_blk (ls2 := [(0, ov_r 0), (1, ov_i way), (2, ov_i run)]) (st2 := [ov_i run, ov_r 64]) (pc2 := 50) b_102_49_1 rfl rfl ?_
          refine ov_ifeq (tgt := 57) d_102_50 (by decide) (by omega) (fun c67 => ?_) (fun c67 => ?_)
          · skip
            refine ov_blk (ls2 := [(0, ov_r 0), (1, ov_i way), (2, ov_i run)]) (st2 := [ov_i 0, ov_r 64]) (pc2 := 58) b_102_57_1 rfl rfl ?_
            refine ov_iald d_102_58 (zb_64 I64) (zs_64 I64) (by omega) ?_
            have g68 := ra_64 I64 0
            refine ov_blk (ls2 := [(0, ov_r 0), (1, ov_i way), (2, ov_i run), (3, ov_i (h63 64 0))]) (st2 := [ov_r 0]) (pc2 := 61) b_102_59_2 rfl rfl ?_
            refine ov_getf (v := ov_r 4) d_102_61 fl_OF_28 (zb_0 I64) (zs_0 I64) (congrArg ov_r (rg_0_2 I64)) ?_
            refine ov_blk (ls2 := [(0, ov_r 0), (1, ov_i way), (2, ov_i run), (3, ov_i (h63 64 0))]) (st2 := [ov_r 4, ov_r 4]) (pc2 := 65) b_102_64_1 rfl rfl ?_
            refine ov_getf (v := ov_i (h63 4 1)) d_102_65 fl_OF_179 (zb_4 I64) (zs_4 I64) rfl ?_
            have g69 := rg_4_1 I64
            refine ov_blk (ls2 := [(0, ov_r 0), (1, ov_i way), (2, ov_i run), (3, ov_i (h63 64 0))]) (st2 := [ov_r 0, ov_i (h63 4 1), ov_r 4]) (pc2 := 69) b_102_68_1 rfl rfl ?_
            refine ov_getf (v := ov_r 58) d_102_69 fl_OF_78 (zb_0 I64) (zs_0 I64) (congrArg ov_r e66) ?_
            refine ov_blk (ls2 := [(0, ov_r 0), (1, ov_i way), (2, ov_i run), (3, ov_i (h63 64 0))]) (st2 := [ov_r 0, ov_r 58, ov_i (h63 4 1), ov_r 4]) (pc2 := 73) b_102_72_1 rfl rfl ?_
            refine ov_getf (v := ov_r 4) d_102_73 fl_OF_28 (zb_0 I64) (zs_0 I64) (congrArg ov_r (rg_0_2 I64)) ?_
            refine ov_getf (v := ov_i (h63 4 0)) d_102_76 fl_OF_166 (zb_4 I64) (zs_4 I64) rfl ?_
            have g70 := rg_4_0 I64
            refine ov_blk (ls2 := [(0, ov_r 0), (1, ov_i way), (2, ov_i run), (3, ov_i (h63 64 0))]) (st2 := [ov_r 0, ov_i way, ov_i (h63 4 0), ov_r 58, ov_i (h63 4 1), ov_r 4]) (pc2 := 81) b_102_79_2 rfl rfl ?_
            refine ov_getf (v := ov_r 4) d_102_81 fl_OF_28 (zb_0 I64) (zs_0 I64) (congrArg ov_r (rg_0_2 I64)) ?_
            refine ov_getf (v := ov_i (h63 4 1)) d_102_84 fl_OF_179 (zb_4 I64) (zs_4 I64) rfl ?_
            refine ov_cV (as := [ov_i (h63 4 0), ov_i way, ov_i (h63 4 1)]) (st := [ov_i (h63 4 1), ov_r 4]) (d2 := d - 1) d_102_87 lk_OF_162 rfl (Nat.le_of_ble_eq_true rfl) (c := 9) (zb_58 I64) (zs_58 I64) ⟨by decide, rfl⟩ (by omega) (c_Town_waitFor_58 (d - 1) (by omega) U I64 (h63 4 0) way (h63 4 1) (by omega) (by omega) (by omega) (by omega)) ?_
            rintro _ _ _ ⟨v73, rfl, rfl, rfl, f72⟩
            show ov_R u d ov_m102 90 [(0, ov_r 0), (1, ov_i way), (2, ov_i run), (3, ov_i (h63 64 0))] [ov_i v73, ov_i (h63 4 1), ov_r 4] z62 h63 (P_OF_go_0 z h way run)
            have f74 : 0 ≤ v73 ∧ v73 ≤ 60 := f72
            clear f72
            refine ov_blk (ls2 := [(0, ov_r 0), (1, ov_i way), (2, ov_i run), (3, ov_i (h63 64 0))]) (st2 := [ov_i (v73 + (h63 64 0)), ov_i (h63 4 1), ov_r 4]) (pc2 := 92) b_102_90_2 rfl rfl ?_
            refine ov_havw (fun w75 gw75 qw75 => ?_)
            refine ov_blk (ls2 := [(0, ov_r 0), (1, ov_i way), (2, ov_i run), (3, ov_i (h63 64 0))]) (st2 := [ov_i ((h63 4 1) + w75), ov_r 4]) (pc2 := 93) b_102_92_1 rfl rfl ?_
            refine ov_havw (fun w76 gw76 qw76 => ?_)
            refine ov_putf (x := w76) d_102_93 fl_OF_179 (zb_4 I64) (zs_4 I64) rfl nk_0 rfl ?_
            have I77 := up_4_1 (x := w76) I64 (by omega)
            refine ov_blk (ls2 := [(0, ov_r 0), (1, ov_i way), (2, ov_i run), (3, ov_i (h63 64 0))]) (st2 := [ov_r 0]) (pc2 := 97) b_102_96_1 rfl rfl ?_
            refine ov_getf (v := ov_r 4) d_102_97 fl_OF_28 (zb_0 I77) (zs_0 I77) (congrArg ov_r (rg_0_2 I77)) ?_
            refine ov_blk (ls2 := [(0, ov_r 0), (1, ov_i way), (2, ov_i run), (3, ov_i (h63 64 0))]) (st2 := [ov_r 0, ov_r 4]) (pc2 := 101) b_102_100_1 rfl rfl ?_
            refine ov_getf (v := ov_r 58) d_102_101 fl_OF_78 (zb_0 I77) (zs_0 I77) (congrArg ov_r e66) ?_
            refine ov_blk (ls2 := [(0, ov_r 0), (1, ov_i way), (2, ov_i run), (3, ov_i (h63 64 0))]) (st2 := [ov_r 0, ov_r 58, ov_r 4]) (pc2 := 105) b_102_104_1 rfl rfl ?_
            refine ov_getf (v := ov_r 4) d_102_105 fl_OF_28 (zb_0 I77) (zs_0 I77) (congrArg ov_r (rg_0_2 I77)) ?_
            refine ov_getf (v := ov_i (h63 4 0)) d_102_108 fl_OF_166 (zb_4 I77) (zs_4 I77) rfl ?_
            refine ov_blk (ls2 := [(0, ov_r 0), (1, ov_i way), (2, ov_i run), (3, ov_i (h63 64 0))]) (st2 := [ov_i way, ov_i (h63 4 0), ov_r 58, ov_r 4]) (pc2 := 112) b_102_111_1 rfl rfl ?_
            refine ov_cV (as := [ov_i (h63 4 0), ov_i way]) (st := [ov_r 4]) (d2 := d - 1) d_102_112 lk_OF_182 rfl (Nat.le_of_ble_eq_true rfl) (c := 9) (zb_58 I77) (zs_58 I77) ⟨by decide, rfl⟩ (by omega) (c_Town_after_58 (d - 1) (by omega) U I77 (h63 4 0) way (by omega) (by omega) (by omega)) ?_
            rintro _ _ _ ⟨v80, rfl, rfl, rfl, f79⟩
            show ov_R u d ov_m102 115 [(0, ov_r 0), (1, ov_i way), (2, ov_i run), (3, ov_i (h63 64 0))] [ov_i v80, ov_r 4] z62 (ov_up h63 4 1 w76) (P_OF_go_0 z h way run)
            have f81 : (way = 0 → v80 = (h63 4 0) + 1) ∧ (¬ way = 0 → v80 = (h63 4 0) + 6) := f79
            clear f79
            refine ov_putf (x := v80) d_102_115 fl_OF_166 (zb_4 I77) (zs_4 I77) rfl nk_0 rfl ?_
            have I82 := up_4_0 (x := v80) I77 (by omega)
            refine ov_blk (ls2 := [(0, ov_r 0), (1, ov_i way), (2, ov_i run), (3, ov_i (h63 64 0))]) (st2 := [ov_r 0]) (pc2 := 119) b_102_118_1 rfl rfl ?_
            refine ov_getf (v := ov_r 4) d_102_119 fl_OF_28 (zb_0 I82) (zs_0 I82) (congrArg ov_r (rg_0_2 I82)) ?_
            refine ov_blk (ls2 := [(0, ov_r 0), (1, ov_i way), (2, ov_i run), (3, ov_i (h63 64 0))]) (st2 := [ov_r 4, ov_r 4]) (pc2 := 123) b_102_122_1 rfl rfl ?_
            refine ov_getf (v := ov_i (h63 4 2)) d_102_123 fl_OF_185 (zb_4 I82) (zs_4 I82) rfl ?_
            have g83 := rg_4_2 I64
            refine ov_blk (ls2 := [(0, ov_r 0), (1, ov_i way), (2, ov_i run), (3, ov_i (h63 64 0))]) (st2 := [ov_i run, ov_i (h63 4 2), ov_r 4]) (pc2 := 127) b_102_126_1 rfl rfl ?_
            refine ov_ifeq (tgt := 134) d_102_127 (by decide) (by omega) (fun c84 => ?_) (fun c84 => ?_)
            · skip
              refine ov_blk (ls2 := [(0, ov_r 0), (1, ov_i way), (2, ov_i run), (3, ov_i (h63 64 0))]) (st2 := [ov_i ((h63 4 2) + 0), ov_r 4]) (pc2 := 136) b_102_134_2 rfl rfl ?_
              refine ov_havw (fun w85 gw85 qw85 => ?_)
              refine ov_putf (x := w85) d_102_136 fl_OF_185 (zb_4 I82) (zs_4 I82) rfl nk_0 rfl ?_
              have I86 := up_4_2 (x := w85) I82 (by omega)
              refine ov_blk (ls2 := [(0, ov_r 0), (1, ov_i way), (2, ov_i run), (3, ov_i (h63 64 0))]) (st2 := [ov_r 0]) (pc2 := 140) b_102_139_1 rfl rfl ?_
              refine ov_getf (v := ov_r 4) d_102_140 fl_OF_28 (zb_0 I86) (zs_0 I86) (congrArg ov_r (rg_0_2 I86)) ?_
              refine ov_getf (v := ov_i w76) d_102_143 fl_OF_179 (zb_4 I86) (zs_4 I86) rfl ?_
              exact ov_reti (st := []) d_102_146 rfl ⟨_, rfl, I86, (by show (h63 36 7) = (h 36 7) ∧ (h63 1 1) = (h 1 1) ∧ (h63 90 2) = (h 90 2) ∧ (h63 0 10) = (h 0 10) ∧ (h63 0 11) = (h 0 11) ∧ (h63 0 12) = (h 0 12) ∧ (h63 0 13) = (h 0 13) ∧ (h63 3 1) = (h 3 1) ∧ (h63 36 8) = (h 36 8) ∧ (h63 46 3) = (h 46 3) ∧ (h63 46 4) = (h 46 4) ∧ (h63 49 4) = (h 49 4) ∧ (h63 49 5) = (h 49 5); omega)⟩
            · skip
              refine ov_blk (ls2 := [(0, ov_r 0), (1, ov_i way), (2, ov_i run), (3, ov_i (h63 64 0))]) (st2 := [ov_i 1, ov_i (h63 4 2), ov_r 4]) (pc2 := 131) b_102_130_1 rfl rfl ?_
              refine ov_goto (tgt := 135) d_102_131 (by decide) ?_
              refine ov_blk (ls2 := [(0, ov_r 0), (1, ov_i way), (2, ov_i run), (3, ov_i (h63 64 0))]) (st2 := [ov_i ((h63 4 2) + 1), ov_r 4]) (pc2 := 136) b_102_135_1 rfl rfl ?_
              refine ov_havw (fun w87 gw87 qw87 => ?_)
              refine ov_putf (x := w87) d_102_136 fl_OF_185 (zb_4 I82) (zs_4 I82) rfl nk_0 rfl ?_
              have I88 := up_4_2 (x := w87) I82 (by omega)
              refine ov_blk (ls2 := [(0, ov_r 0), (1, ov_i way), (2, ov_i run), (3, ov_i (h63 64 0))]) (st2 := [ov_r 0]) (pc2 := 140) b_102_139_1 rfl rfl ?_
              refine ov_getf (v := ov_r 4) d_102_140 fl_OF_28 (zb_0 I88) (zs_0 I88) (congrArg ov_r (rg_0_2 I88)) ?_
              refine ov_getf (v := ov_i w76) d_102_143 fl_OF_179 (zb_4 I88) (zs_4 I88) rfl ?_
              exact ov_reti (st := []) d_102_146 rfl ⟨_, rfl, I88, (by show (h63 36 7) = (h 36 7) ∧ (h63 1 1) = (h 1 1) ∧ (h63 90 2) = (h 90 2) ∧ (h63 0 10) = (h 0 10) ∧ (h63 0 11) = (h 0 11) ∧ (h63 0 12) = (h 0 12) ∧ (h63 0 13) = (h 0 13) ∧ (h63 3 1) = (h 3 1) ∧ (h63 36 8) = (h 36 8) ∧ (h63 46 3) = (h 46 3) ∧ (h63 46 4) = (h 46 4) ∧ (h63 49 4) = (h 49 4) ∧ (h63 49 5) = (h 49 5); omega)⟩
          · skip
            refine ov_blk (ls2 := [(0, ov_r 0), (1, ov_i way), (2, ov_i run)]) (st2 := [ov_i 1, ov_r 64]) (pc2 := 54) b_102_53_1 rfl rfl ?_
            refine ov_goto (tgt := 58) d_102_54 (by decide) ?_
            refine ov_iald d_102_58 (zb_64 I64) (zs_64 I64) (by omega) ?_
            have g89 := ra_64 I64 1
            refine ov_blk (ls2 := [(0, ov_r 0), (1, ov_i way), (2, ov_i run), (3, ov_i (h63 64 1))]) (st2 := [ov_r 0]) (pc2 := 61) b_102_59_2 rfl rfl ?_
            refine ov_getf (v := ov_r 4) d_102_61 fl_OF_28 (zb_0 I64) (zs_0 I64) (congrArg ov_r (rg_0_2 I64)) ?_
            refine ov_blk (ls2 := [(0, ov_r 0), (1, ov_i way), (2, ov_i run), (3, ov_i (h63 64 1))]) (st2 := [ov_r 4, ov_r 4]) (pc2 := 65) b_102_64_1 rfl rfl ?_
            refine ov_getf (v := ov_i (h63 4 1)) d_102_65 fl_OF_179 (zb_4 I64) (zs_4 I64) rfl ?_
            have g90 := rg_4_1 I64
            refine ov_blk (ls2 := [(0, ov_r 0), (1, ov_i way), (2, ov_i run), (3, ov_i (h63 64 1))]) (st2 := [ov_r 0, ov_i (h63 4 1), ov_r 4]) (pc2 := 69) b_102_68_1 rfl rfl ?_
            refine ov_getf (v := ov_r 58) d_102_69 fl_OF_78 (zb_0 I64) (zs_0 I64) (congrArg ov_r e66) ?_
            refine ov_blk (ls2 := [(0, ov_r 0), (1, ov_i way), (2, ov_i run), (3, ov_i (h63 64 1))]) (st2 := [ov_r 0, ov_r 58, ov_i (h63 4 1), ov_r 4]) (pc2 := 73) b_102_72_1 rfl rfl ?_
            refine ov_getf (v := ov_r 4) d_102_73 fl_OF_28 (zb_0 I64) (zs_0 I64) (congrArg ov_r (rg_0_2 I64)) ?_
            refine ov_getf (v := ov_i (h63 4 0)) d_102_76 fl_OF_166 (zb_4 I64) (zs_4 I64) rfl ?_
            have g91 := rg_4_0 I64
            refine ov_blk (ls2 := [(0, ov_r 0), (1, ov_i way), (2, ov_i run), (3, ov_i (h63 64 1))]) (st2 := [ov_r 0, ov_i way, ov_i (h63 4 0), ov_r 58, ov_i (h63 4 1), ov_r 4]) (pc2 := 81) b_102_79_2 rfl rfl ?_
            refine ov_getf (v := ov_r 4) d_102_81 fl_OF_28 (zb_0 I64) (zs_0 I64) (congrArg ov_r (rg_0_2 I64)) ?_
            refine ov_getf (v := ov_i (h63 4 1)) d_102_84 fl_OF_179 (zb_4 I64) (zs_4 I64) rfl ?_
            refine ov_cV (as := [ov_i (h63 4 0), ov_i way, ov_i (h63 4 1)]) (st := [ov_i (h63 4 1), ov_r 4]) (d2 := d - 1) d_102_87 lk_OF_162 rfl (Nat.le_of_ble_eq_true rfl) (c := 9) (zb_58 I64) (zs_58 I64) ⟨by decide, rfl⟩ (by omega) (c_Town_waitFor_58 (d - 1) (by omega) U I64 (h63 4 0) way (h63 4 1) (by omega) (by omega) (by omega) (by omega)) ?_
            rintro _ _ _ ⟨v94, rfl, rfl, rfl, f93⟩
            show ov_R u d ov_m102 90 [(0, ov_r 0), (1, ov_i way), (2, ov_i run), (3, ov_i (h63 64 1))] [ov_i v94, ov_i (h63 4 1), ov_r 4] z62 h63 (P_OF_go_0 z h way run)
            have f95 : 0 ≤ v94 ∧ v94 ≤ 60 := f93
            clear f93
            refine ov_blk (ls2 := [(0, ov_r 0), (1, ov_i way), (2, ov_i run), (3, ov_i (h63 64 1))]) (st2 := [ov_i (v94 + (h63 64 1)), ov_i (h63 4 1), ov_r 4]) (pc2 := 92) b_102_90_2 rfl rfl ?_
            refine ov_havw (fun w96 gw96 qw96 => ?_)
            refine ov_blk (ls2 := [(0, ov_r 0), (1, ov_i way), (2, ov_i run), (3, ov_i (h63 64 1))]) (st2 := [ov_i ((h63 4 1) + w96), ov_r 4]) (pc2 := 93) b_102_92_1 rfl rfl ?_
            refine ov_havw (fun w97 gw97 qw97 => ?_)
            refine ov_putf (x := w97) d_102_93 fl_OF_179 (zb_4 I64) (zs_4 I64) rfl nk_0 rfl ?_
            have I98 := up_4_1 (x := w97) I64 (by omega)
            refine ov_blk (ls2 := [(0, ov_r 0), (1, ov_i way), (2, ov_i run), (3, ov_i (h63 64 1))]) (st2 := [ov_r 0]) (pc2 := 97) b_102_96_1 rfl rfl ?_
            refine ov_getf (v := ov_r 4) d_102_97 fl_OF_28 (zb_0 I98) (zs_0 I98) (congrArg ov_r (rg_0_2 I98)) ?_
            refine ov_blk (ls2 := [(0, ov_r 0), (1, ov_i way), (2, ov_i run), (3, ov_i (h63 64 1))]) (st2 := [ov_r 0, ov_r 4]) (pc2 := 101) b_102_100_1 rfl rfl ?_
            refine ov_getf (v := ov_r 58) d_102_101 fl_OF_78 (zb_0 I98) (zs_0 I98) (congrArg ov_r e66) ?_
            refine ov_blk (ls2 := [(0, ov_r 0), (1, ov_i way), (2, ov_i run), (3, ov_i (h63 64 1))]) (st2 := [ov_r 0, ov_r 58, ov_r 4]) (pc2 := 105) b_102_104_1 rfl rfl ?_
            refine ov_getf (v := ov_r 4) d_102_105 fl_OF_28 (zb_0 I98) (zs_0 I98) (congrArg ov_r (rg_0_2 I98)) ?_
            refine ov_getf (v := ov_i (h63 4 0)) d_102_108 fl_OF_166 (zb_4 I98) (zs_4 I98) rfl ?_
            refine ov_blk (ls2 := [(0, ov_r 0), (1, ov_i way), (2, ov_i run), (3, ov_i (h63 64 1))]) (st2 := [ov_i way, ov_i (h63 4 0), ov_r 58, ov_r 4]) (pc2 := 112) b_102_111_1 rfl rfl ?_
            refine ov_cV (as := [ov_i (h63 4 0), ov_i way]) (st := [ov_r 4]) (d2 := d - 1) d_102_112 lk_OF_182 rfl (Nat.le_of_ble_eq_true rfl) (c := 9) (zb_58 I98) (zs_58 I98) ⟨by decide, rfl⟩ (by omega) (c_Town_after_58 (d - 1) (by omega) U I98 (h63 4 0) way (by omega) (by omega) (by omega)) ?_
            rintro _ _ _ ⟨v101, rfl, rfl, rfl, f100⟩
            show ov_R u d ov_m102 115 [(0, ov_r 0), (1, ov_i way), (2, ov_i run), (3, ov_i (h63 64 1))] [ov_i v101, ov_r 4] z62 (ov_up h63 4 1 w97) (P_OF_go_0 z h way run)
            have f102 : (way = 0 → v101 = (h63 4 0) + 1) ∧ (¬ way = 0 → v101 = (h63 4 0) + 6) := f100
            clear f100
            refine ov_putf (x := v101) d_102_115 fl_OF_166 (zb_4 I98) (zs_4 I98) rfl nk_0 rfl ?_
            have I103 := up_4_0 (x := v101) I98 (by omega)
            refine ov_blk (ls2 := [(0, ov_r 0), (1, ov_i way), (2, ov_i run), (3, ov_i (h63 64 1))]) (st2 := [ov_r 0]) (pc2 := 119) b_102_118_1 rfl rfl ?_
            refine ov_getf (v := ov_r 4) d_102_119 fl_OF_28 (zb_0 I103) (zs_0 I103) (congrArg ov_r (rg_0_2 I103)) ?_
            refine ov_blk (ls2 := [(0, ov_r 0), (1, ov_i way), (2, ov_i run), (3, ov_i (h63 64 1))]) (st2 := [ov_r 4, ov_r 4]) (pc2 := 123) b_102_122_1 rfl rfl ?_
            refine ov_getf (v := ov_i (h63 4 2)) d_102_123 fl_OF_185 (zb_4 I103) (zs_4 I103) rfl ?_
            have g104 := rg_4_2 I64
            refine ov_blk (ls2 := [(0, ov_r 0), (1, ov_i way), (2, ov_i run), (3, ov_i (h63 64 1))]) (st2 := [ov_i run, ov_i (h63 4 2), ov_r 4]) (pc2 := 127) b_102_126_1 rfl rfl ?_
            refine ov_ifeq (tgt := 134) d_102_127 (by decide) (by omega) (fun c105 => ?_) (fun c105 => ?_)
            · skip
              refine ov_blk (ls2 := [(0, ov_r 0), (1, ov_i way), (2, ov_i run), (3, ov_i (h63 64 1))]) (st2 := [ov_i ((h63 4 2) + 0), ov_r 4]) (pc2 := 136) b_102_134_2 rfl rfl ?_
              refine ov_havw (fun w106 gw106 qw106 => ?_)
              refine ov_putf (x := w106) d_102_136 fl_OF_185 (zb_4 I103) (zs_4 I103) rfl nk_0 rfl ?_
              have I107 := up_4_2 (x := w106) I103 (by omega)
              refine ov_blk (ls2 := [(0, ov_r 0), (1, ov_i way), (2, ov_i run), (3, ov_i (h63 64 1))]) (st2 := [ov_r 0]) (pc2 := 140) b_102_139_1 rfl rfl ?_
              refine ov_getf (v := ov_r 4) d_102_140 fl_OF_28 (zb_0 I107) (zs_0 I107) (congrArg ov_r (rg_0_2 I107)) ?_
              refine ov_getf (v := ov_i w97) d_102_143 fl_OF_179 (zb_4 I107) (zs_4 I107) rfl ?_
              exact ov_reti (st := []) d_102_146 rfl ⟨_, rfl, I107, (by show (h63 36 7) = (h 36 7) ∧ (h63 1 1) = (h 1 1) ∧ (h63 90 2) = (h 90 2) ∧ (h63 0 10) = (h 0 10) ∧ (h63 0 11) = (h 0 11) ∧ (h63 0 12) = (h 0 12) ∧ (h63 0 13) = (h 0 13) ∧ (h63 3 1) = (h 3 1) ∧ (h63 36 8) = (h 36 8) ∧ (h63 46 3) = (h 46 3) ∧ (h63 46 4) = (h 46 4) ∧ (h63 49 4) = (h 49 4) ∧ (h63 49 5) = (h 49 5); omega)⟩
            · skip
              refine ov_blk (ls2 := [(0, ov_r 0), (1, ov_i way), (2, ov_i run), (3, ov_i (h63 64 1))]) (st2 := [ov_i 1, ov_i (h63 4 2), ov_r 4]) (pc2 := 131) b_102_130_1 rfl rfl ?_
              refine ov_goto (tgt := 135) d_102_131 (by decide) ?_
              refine ov_blk (ls2 := [(0, ov_r 0), (1, ov_i way), (2, ov_i run), (3, ov_i (h63 64 1))]) (st2 := [ov_i ((h63 4 2) + 1), ov_r 4]) (pc2 := 136) b_102_135_1 rfl rfl ?_
              refine ov_havw (fun w108 gw108 qw108 => ?_)
              refine ov_putf (x := w108) d_102_136 fl_OF_185 (zb_4 I103) (zs_4 I103) rfl nk_0 rfl ?_
              have I109 := up_4_2 (x := w108) I103 (by omega)
              refine ov_blk (ls2 := [(0, ov_r 0), (1, ov_i way), (2, ov_i run), (3, ov_i (h63 64 1))]) (st2 := [ov_r 0]) (pc2 := 140) b_102_139_1 rfl rfl ?_
              refine ov_getf (v := ov_r 4) d_102_140 fl_OF_28 (zb_0 I109) (zs_0 I109) (congrArg ov_r (rg_0_2 I109)) ?_
              refine ov_getf (v := ov_i w97) d_102_143 fl_OF_179 (zb_4 I109) (zs_4 I109) rfl ?_
              exact ov_reti (st := []) d_102_146 rfl ⟨_, rfl, I109, (by show (h63 36 7) = (h 36 7) ∧ (h63 1 1) = (h 1 1) ∧ (h63 90 2) = (h 90 2) ∧ (h63 0 10) = (h 0 10) ∧ (h63 0 11) = (h 0 11) ∧ (h63 0 12) = (h 0 12) ∧ (h63 0 13) = (h 0 13) ∧ (h63 3 1) = (h 3 1) ∧ (h63 36 8) = (h 36 8) ∧ (h63 46 3) = (h 46 3) ∧ (h63 46 4) = (h 46 4) ∧ (h63 49 4) = (h 49 4) ∧ (h63 49 5) = (h 49 5); omega)⟩
        · skip
          refine ov_blk (ls2 := [(0, ov_r 0), (1, ov_i way), (2, ov_i run)]) (st2 := [ov_i (-1)]) (pc2 := 30) b_102_29_1 rfl rfl ?_
          exact ov_reti (st := []) d_102_30 rfl ⟨_, rfl, I, (by show (h 36 7) = (h 36 7) ∧ (h 1 1) = (h 1 1) ∧ (h 90 2) = (h 90 2) ∧ (h 0 10) = (h 0 10) ∧ (h 0 11) = (h 0 11) ∧ (h 0 12) = (h 0 12) ∧ (h 0 13) = (h 0 13) ∧ (h 3 1) = (h 3 1) ∧ (h 36 8) = (h 36 8) ∧ (h 46 3) = (h 46 3) ∧ (h 46 4) = (h 46 4) ∧ (h 49 4) = (h 49 4) ∧ (h 49 5) = (h 49 5); omega)⟩
  · skip
    refine ov_getf (v := ov_r 70) d_102_1 fl_OF_78 (zb_0 I) (zs_0 I) (congrArg ov_r e1) ?_
    refine ov_blk (ls2 := [(0, ov_r 0), (1, ov_i way), (2, ov_i run)]) (st2 := [ov_r 0, ov_r 70]) (pc2 := 5) b_102_4_1 rfl rfl ?_
    refine ov_getf (v := ov_r 4) d_102_5 fl_OF_28 (zb_0 I) (zs_0 I) (congrArg ov_r (rg_0_2 I)) ?_
    refine ov_getf (v := ov_i (h 4 0)) d_102_8 fl_OF_166 (zb_4 I) (zs_4 I) rfl ?_
    have g110 := rg_4_0 I
    refine ov_blk (ls2 := [(0, ov_r 0), (1, ov_i way), (2, ov_i run)]) (st2 := [ov_i way, ov_i (h 4 0), ov_r 70]) (pc2 := 12) b_102_11_1 rfl rfl ?_
    refine ov_cV (as := [ov_i (h 4 0), ov_i way]) (st := []) (d2 := d - 1) d_102_12 lk_OF_158 rfl (Nat.le_of_ble_eq_true rfl) (c := 9) (zb_70 I) (zs_70 I) ⟨by decide, rfl⟩ (by omega) (c_Town_isOpen_70 (d - 1) (by omega) U I (h 4 0) way (by omega) (by omega) (by omega)) ?_
    rintro _ _ _ ⟨v112, rfl, rfl, rfl, f111⟩
    show ov_R u d ov_m102 15 [(0, ov_r 0), (1, ov_i way), (2, ov_i run)] [ov_i v112] z h (P_OF_go_0 z h way run)
    have f113 : (v112 = 0 ∨ v112 = 1) ∧ (v112 = 1 → (way = 0 ∧ (h 4 0) ≤ 52) ∨ (way = 1 ∧ (h 4 0) ≤ 47)) := f111
    clear f111
    refine ov_ifeq (tgt := 29) d_102_15 (by decide) (by omega) (fun c114 => ?_) (fun c114 => ?_)
    · skip
      refine ov_blk (ls2 := [(0, ov_r 0), (1, ov_i way), (2, ov_i run)]) (st2 := [ov_i (-1)]) (pc2 := 30) b_102_29_1 rfl rfl ?_
      exact ov_reti (st := []) d_102_30 rfl ⟨_, rfl, I, (by show (h 36 7) = (h 36 7) ∧ (h 1 1) = (h 1 1) ∧ (h 90 2) = (h 90 2) ∧ (h 0 10) = (h 0 10) ∧ (h 0 11) = (h 0 11) ∧ (h 0 12) = (h 0 12) ∧ (h 0 13) = (h 0 13) ∧ (h 3 1) = (h 3 1) ∧ (h 36 8) = (h 36 8) ∧ (h 46 3) = (h 46 3) ∧ (h 46 4) = (h 46 4) ∧ (h 49 4) = (h 49 4) ∧ (h 49 5) = (h 49 5); omega)⟩
    · skip
      refine ov_blk (ls2 := [(0, ov_r 0), (1, ov_i way), (2, ov_i run)]) (st2 := [ov_i run]) (pc2 := 19) b_102_18_1 rfl rfl ?_
      refine ov_ifeq (tgt := 31) d_102_19 (by decide) (by omega) (fun c115 => ?_) (fun c115 => ?_)
      · skip
        refine ov_blk (ls2 := [(0, ov_r 0), (1, ov_i way), (2, ov_i run)]) (st2 := [ov_r 0]) (pc2 := 32) b_102_31_1 rfl rfl ?_
        refine ov_getf (v := ov_r 9) d_102_32 fl_OF_35 (zb_0 I) (zs_0 I) (congrArg ov_r (rg_0_3 I)) ?_
        refine ov_blk (ls2 := [(0, ov_r 0), (1, ov_i way), (2, ov_i run)]) (st2 := [ov_r 0, ov_r 9]) (pc2 := 36) b_102_35_1 rfl rfl ?_
        refine ov_getf (v := ov_r 4) d_102_36 fl_OF_28 (zb_0 I) (zs_0 I) (congrArg ov_r (rg_0_2 I)) ?_
        refine ov_cV (as := [ov_r 4]) (st := []) (d2 := d - 1) d_102_39 lk_OF_172 rfl (Nat.le_of_ble_eq_true rfl) (c := 3) (zb_9 I) (zs_9 I) ⟨by decide, rfl⟩ (by omega) (c_History_keep_9_4 (d - 1) (by omega) U I) ?_
        rintro _ z117 h118 ⟨rfl, I119, f116⟩
        show ov_R u d ov_m102 42 [(0, ov_r 0), (1, ov_i way), (2, ov_i run)] [] z117 h118 (P_OF_go_0 z h way run)
        have f120 : (h118 36 7) = (h 36 7) ∧ (h118 1 1) = (h 1 1) ∧ (h118 90 2) = (h 90 2) ∧ (h118 0 10) = (h 0 10) ∧ (h118 0 11) = (h 0 11) ∧ (h118 0 12) = (h 0 12) ∧ (h118 0 13) = (h 0 13) ∧ (h118 3 1) = (h 3 1) ∧ (h118 36 8) = (h 36 8) ∧ (h118 46 3) = (h 46 3) ∧ (h118 46 4) = (h 46 4) ∧ (h118 49 4) = (h 49 4) ∧ (h118 49 5) = (h 49 5) := f116
        clear f116
        have e121 : h118 0 10 = 70 := by omega
        refine ov_blk (ls2 := [(0, ov_r 0), (1, ov_i way), (2, ov_i run)]) (st2 := [ov_r 0]) (pc2 := 43) b_102_42_1 rfl rfl ?_
        refine ov_getf (v := ov_r 70) d_102_43 fl_OF_78 (zb_0 I119) (zs_0 I119) (congrArg ov_r e121) ?_
        refine ov_getf (v := ov_r 76) d_102_46 fl_OF_176 (zb_70 I119) (zs_70 I119) (congrArg ov_r (rg_70_7 I119)) ?_
        refine ov_blk (ls2 := [(0, ov_r 0), (1, ov_i way), (2, ov_i run)]) (st2 := [ov_i run, ov_r 76]) (pc2 := 50) b_102_49_1 rfl rfl ?_
        refine ov_ifeq (tgt := 57) d_102_50 (by decide) (by omega) (fun c122 => ?_) (fun c122 => ?_)
        · skip
          refine ov_blk (ls2 := [(0, ov_r 0), (1, ov_i way), (2, ov_i run)]) (st2 := [ov_i 0, ov_r 76]) (pc2 := 58) b_102_57_1 rfl rfl ?_
          refine ov_iald d_102_58 (zb_76 I119) (zs_76 I119) (by omega) ?_
          have g123 := ra_76 I119 0
          refine ov_blk (ls2 := [(0, ov_r 0), (1, ov_i way), (2, ov_i run), (3, ov_i (h118 76 0))]) (st2 := [ov_r 0]) (pc2 := 61) b_102_59_2 rfl rfl ?_
          refine ov_getf (v := ov_r 4) d_102_61 fl_OF_28 (zb_0 I119) (zs_0 I119) (congrArg ov_r (rg_0_2 I119)) ?_
          refine ov_blk (ls2 := [(0, ov_r 0), (1, ov_i way), (2, ov_i run), (3, ov_i (h118 76 0))]) (st2 := [ov_r 4, ov_r 4]) (pc2 := 65) b_102_64_1 rfl rfl ?_
          refine ov_getf (v := ov_i (h118 4 1)) d_102_65 fl_OF_179 (zb_4 I119) (zs_4 I119) rfl ?_
          have g124 := rg_4_1 I119
          refine ov_blk (ls2 := [(0, ov_r 0), (1, ov_i way), (2, ov_i run), (3, ov_i (h118 76 0))]) (st2 := [ov_r 0, ov_i (h118 4 1), ov_r 4]) (pc2 := 69) b_102_68_1 rfl rfl ?_
          refine ov_getf (v := ov_r 70) d_102_69 fl_OF_78 (zb_0 I119) (zs_0 I119) (congrArg ov_r e121) ?_
          refine ov_blk (ls2 := [(0, ov_r 0), (1, ov_i way), (2, ov_i run), (3, ov_i (h118 76 0))]) (st2 := [ov_r 0, ov_r 70, ov_i (h118 4 1), ov_r 4]) (pc2 := 73) b_102_72_1 rfl rfl ?_
          refine ov_getf (v := ov_r 4) d_102_73 fl_OF_28 (zb_0 I119) (zs_0 I119) (congrArg ov_r (rg_0_2 I119)) ?_
          refine ov_getf (v := ov_i (h118 4 0)) d_102_76 fl_OF_166 (zb_4 I119) (zs_4 I119) rfl ?_
          have g125 := rg_4_0 I119
          refine ov_blk (ls2 := [(0, ov_r 0), (1, ov_i way), (2, ov_i run), (3, ov_i (h118 76 0))]) (st2 := [ov_r 0, ov_i way, ov_i (h118 4 0), ov_r 70, ov_i (h118 4 1), ov_r 4]) (pc2 := 81) b_102_79_2 rfl rfl ?_
          refine ov_getf (v := ov_r 4) d_102_81 fl_OF_28 (zb_0 I119) (zs_0 I119) (congrArg ov_r (rg_0_2 I119)) ?_
          refine ov_getf (v := ov_i (h118 4 1)) d_102_84 fl_OF_179 (zb_4 I119) (zs_4 I119) rfl ?_
          refine ov_cV (as := [ov_i (h118 4 0), ov_i way, ov_i (h118 4 1)]) (st := [ov_i (h118 4 1), ov_r 4]) (d2 := d - 1) d_102_87 lk_OF_162 rfl (Nat.le_of_ble_eq_true rfl) (c := 9) (zb_70 I119) (zs_70 I119) ⟨by decide, rfl⟩ (by omega) (c_Town_waitFor_70 (d - 1) (by omega) U I119 (h118 4 0) way (h118 4 1) (by omega) (by omega) (by omega) (by omega)) ?_
          rintro _ _ _ ⟨v128, rfl, rfl, rfl, f127⟩
          show ov_R u d ov_m102 90 [(0, ov_r 0), (1, ov_i way), (2, ov_i run), (3, ov_i (h118 76 0))] [ov_i v128, ov_i (h118 4 1), ov_r 4] z117 h118 (P_OF_go_0 z h way run)
          have f129 : 0 ≤ v128 ∧ v128 ≤ 60 := f127
          clear f127
          refine ov_blk (ls2 := [(0, ov_r 0), (1, ov_i way), (2, ov_i run), (3, ov_i (h118 76 0))]) (st2 := [ov_i (v128 + (h118 76 0)), ov_i (h118 4 1), ov_r 4]) (pc2 := 92) b_102_90_2 rfl rfl ?_
          refine ov_havw (fun w130 gw130 qw130 => ?_)
          refine ov_blk (ls2 := [(0, ov_r 0), (1, ov_i way), (2, ov_i run), (3, ov_i (h118 76 0))]) (st2 := [ov_i ((h118 4 1) + w130), ov_r 4]) (pc2 := 93) b_102_92_1 rfl rfl ?_
          refine ov_havw (fun w131 gw131 qw131 => ?_)
          refine ov_putf (x := w131) d_102_93 fl_OF_179 (zb_4 I119) (zs_4 I119) rfl nk_0 rfl ?_
          have I132 := up_4_1 (x := w131) I119 (by omega)
          refine ov_blk (ls2 := [(0, ov_r 0), (1, ov_i way), (2, ov_i run), (3, ov_i (h118 76 0))]) (st2 := [ov_r 0]) (pc2 := 97) b_102_96_1 rfl rfl ?_
          refine ov_getf (v := ov_r 4) d_102_97 fl_OF_28 (zb_0 I132) (zs_0 I132) (congrArg ov_r (rg_0_2 I132)) ?_
          refine ov_blk (ls2 := [(0, ov_r 0), (1, ov_i way), (2, ov_i run), (3, ov_i (h118 76 0))]) (st2 := [ov_r 0, ov_r 4]) (pc2 := 101) b_102_100_1 rfl rfl ?_
          refine ov_getf (v := ov_r 70) d_102_101 fl_OF_78 (zb_0 I132) (zs_0 I132) (congrArg ov_r e121) ?_
          refine ov_blk (ls2 := [(0, ov_r 0), (1, ov_i way), (2, ov_i run), (3, ov_i (h118 76 0))]) (st2 := [ov_r 0, ov_r 70, ov_r 4]) (pc2 := 105) b_102_104_1 rfl rfl ?_
          refine ov_getf (v := ov_r 4) d_102_105 fl_OF_28 (zb_0 I132) (zs_0 I132) (congrArg ov_r (rg_0_2 I132)) ?_
          refine ov_getf (v := ov_i (h118 4 0)) d_102_108 fl_OF_166 (zb_4 I132) (zs_4 I132) rfl ?_
          refine ov_blk (ls2 := [(0, ov_r 0), (1, ov_i way), (2, ov_i run), (3, ov_i (h118 76 0))]) (st2 := [ov_i way, ov_i (h118 4 0), ov_r 70, ov_r 4]) (pc2 := 112) b_102_111_1 rfl rfl ?_
          refine ov_cV (as := [ov_i (h118 4 0), ov_i way]) (st := [ov_r 4]) (d2 := d - 1) d_102_112 lk_OF_182 rfl (Nat.le_of_ble_eq_true rfl) (c := 9) (zb_70 I132) (zs_70 I132) ⟨by decide, rfl⟩ (by omega) (c_Town_after_70 (d - 1) (by omega) U I132 (h118 4 0) way (by omega) (by omega) (by omega)) ?_
          rintro _ _ _ ⟨v135, rfl, rfl, rfl, f134⟩
          show ov_R u d ov_m102 115 [(0, ov_r 0), (1, ov_i way), (2, ov_i run), (3, ov_i (h118 76 0))] [ov_i v135, ov_r 4] z117 (ov_up h118 4 1 w131) (P_OF_go_0 z h way run)
          have f136 : (way = 0 → v135 = (h118 4 0) + 1) ∧ (¬ way = 0 → v135 = (h118 4 0) + 6) := f134
          clear f134
          refine ov_putf (x := v135) d_102_115 fl_OF_166 (zb_4 I132) (zs_4 I132) rfl nk_0 rfl ?_
          have I137 := up_4_0 (x := v135) I132 (by omega)
          refine ov_blk (ls2 := [(0, ov_r 0), (1, ov_i way), (2, ov_i run), (3, ov_i (h118 76 0))]) (st2 := [ov_r 0]) (pc2 := 119) b_102_118_1 rfl rfl ?_
          refine ov_getf (v := ov_r 4) d_102_119 fl_OF_28 (zb_0 I137) (zs_0 I137) (congrArg ov_r (rg_0_2 I137)) ?_
          refine ov_blk (ls2 := [(0, ov_r 0), (1, ov_i way), (2, ov_i run), (3, ov_i (h118 76 0))]) (st2 := [ov_r 4, ov_r 4]) (pc2 := 123) b_102_122_1 rfl rfl ?_
          refine ov_getf (v := ov_i (h118 4 2)) d_102_123 fl_OF_185 (zb_4 I137) (zs_4 I137) rfl ?_
          have g138 := rg_4_2 I119
          refine ov_blk (ls2 := [(0, ov_r 0), (1, ov_i way), (2, ov_i run), (3, ov_i (h118 76 0))]) (st2 := [ov_i run, ov_i (h118 4 2), ov_r 4]) (pc2 := 127) b_102_126_1 rfl rfl ?_
          refine ov_ifeq (tgt := 134) d_102_127 (by decide) (by omega) (fun c139 => ?_) (fun c139 => ?_)
          · skip
            refine ov_blk (ls2 := [(0, ov_r 0), (1, ov_i way), (2, ov_i run), (3, ov_i (h118 76 0))]) (st2 := [ov_i ((h118 4 2) + 0), ov_r 4]) (pc2 := 136) b_102_134_2 rfl rfl ?_
            refine ov_havw (fun w140 gw140 qw140 => ?_)
            refine ov_putf (x := w140) d_102_136 fl_OF_185 (zb_4 I137) (zs_4 I137) rfl nk_0 rfl ?_
            have I141 := up_4_2 (x := w140) I137 (by omega)
            refine ov_blk (ls2 := [(0, ov_r 0), (1, ov_i way), (2, ov_i run), (3, ov_i (h118 76 0))]) (st2 := [ov_r 0]) (pc2 := 140) b_102_139_1 rfl rfl ?_
            refine ov_getf (v := ov_r 4) d_102_140 fl_OF_28 (zb_0 I141) (zs_0 I141) (congrArg ov_r (rg_0_2 I141)) ?_
            refine ov_getf (v := ov_i w131) d_102_143 fl_OF_179 (zb_4 I141) (zs_4 I141) rfl ?_
            exact ov_reti (st := []) d_102_146 rfl ⟨_, rfl, I141, (by show (h118 36 7) = (h 36 7) ∧ (h118 1 1) = (h 1 1) ∧ (h118 90 2) = (h 90 2) ∧ (h118 0 10) = (h 0 10) ∧ (h118 0 11) = (h 0 11) ∧ (h118 0 12) = (h 0 12) ∧ (h118 0 13) = (h 0 13) ∧ (h118 3 1) = (h 3 1) ∧ (h118 36 8) = (h 36 8) ∧ (h118 46 3) = (h 46 3) ∧ (h118 46 4) = (h 46 4) ∧ (h118 49 4) = (h 49 4) ∧ (h118 49 5) = (h 49 5); omega)⟩
          · skip
            refine ov_blk (ls2 := [(0, ov_r 0), (1, ov_i way), (2, ov_i run), (3, ov_i (h118 76 0))]) (st2 := [ov_i 1, ov_i (h118 4 2), ov_r 4]) (pc2 := 131) b_102_130_1 rfl rfl ?_
            refine ov_goto (tgt := 135) d_102_131 (by decide) ?_
            refine ov_blk (ls2 := [(0, ov_r 0), (1, ov_i way), (2, ov_i run), (3, ov_i (h118 76 0))]) (st2 := [ov_i ((h118 4 2) + 1), ov_r 4]) (pc2 := 136) b_102_135_1 rfl rfl ?_
            refine ov_havw (fun w142 gw142 qw142 => ?_)
            refine ov_putf (x := w142) d_102_136 fl_OF_185 (zb_4 I137) (zs_4 I137) rfl nk_0 rfl ?_
            have I143 := up_4_2 (x := w142) I137 (by omega)
            refine ov_blk (ls2 := [(0, ov_r 0), (1, ov_i way), (2, ov_i run), (3, ov_i (h118 76 0))]) (st2 := [ov_r 0]) (pc2 := 140) b_102_139_1 rfl rfl ?_
            refine ov_getf (v := ov_r 4) d_102_140 fl_OF_28 (zb_0 I143) (zs_0 I143) (congrArg ov_r (rg_0_2 I143)) ?_
            refine ov_getf (v := ov_i w131) d_102_143 fl_OF_179 (zb_4 I143) (zs_4 I143) rfl ?_
            exact ov_reti (st := []) d_102_146 rfl ⟨_, rfl, I143, (by show (h118 36 7) = (h 36 7) ∧ (h118 1 1) = (h 1 1) ∧ (h118 90 2) = (h 90 2) ∧ (h118 0 10) = (h 0 10) ∧ (h118 0 11) = (h 0 11) ∧ (h118 0 12) = (h 0 12) ∧ (h118 0 13) = (h 0 13) ∧ (h118 3 1) = (h 3 1) ∧ (h118 36 8) = (h 36 8) ∧ (h118 46 3) = (h 46 3) ∧ (h118 46 4) = (h 46 4) ∧ (h118 49 4) = (h 49 4) ∧ (h118 49 5) = (h 49 5); omega)⟩
        · skip
          refine ov_blk (ls2 := [(0, ov_r 0), (1, ov_i way), (2, ov_i run)]) (st2 := [ov_i 1, ov_r 76]) (pc2 := 54) b_102_53_1 rfl rfl ?_
          refine ov_goto (tgt := 58) d_102_54 (by decide) ?_
          refine ov_iald d_102_58 (zb_76 I119) (zs_76 I119) (by omega) ?_
          have g144 := ra_76 I119 1
          refine ov_blk (ls2 := [(0, ov_r 0), (1, ov_i way), (2, ov_i run), (3, ov_i (h118 76 1))]) (st2 := [ov_r 0]) (pc2 := 61) b_102_59_2 rfl rfl ?_
          refine ov_getf (v := ov_r 4) d_102_61 fl_OF_28 (zb_0 I119) (zs_0 I119) (congrArg ov_r (rg_0_2 I119)) ?_
          refine ov_blk (ls2 := [(0, ov_r 0), (1, ov_i way), (2, ov_i run), (3, ov_i (h118 76 1))]) (st2 := [ov_r 4, ov_r 4]) (pc2 := 65) b_102_64_1 rfl rfl ?_
          refine ov_getf (v := ov_i (h118 4 1)) d_102_65 fl_OF_179 (zb_4 I119) (zs_4 I119) rfl ?_
          have g145 := rg_4_1 I119
          refine ov_blk (ls2 := [(0, ov_r 0), (1, ov_i way), (2, ov_i run), (3, ov_i (h118 76 1))]) (st2 := [ov_r 0, ov_i (h118 4 1), ov_r 4]) (pc2 := 69) b_102_68_1 rfl rfl ?_
          refine ov_getf (v := ov_r 70) d_102_69 fl_OF_78 (zb_0 I119) (zs_0 I119) (congrArg ov_r e121) ?_
          refine ov_blk (ls2 := [(0, ov_r 0), (1, ov_i way), (2, ov_i run), (3, ov_i (h118 76 1))]) (st2 := [ov_r 0, ov_r 70, ov_i (h118 4 1), ov_r 4]) (pc2 := 73) b_102_72_1 rfl rfl ?_
          refine ov_getf (v := ov_r 4) d_102_73 fl_OF_28 (zb_0 I119) (zs_0 I119) (congrArg ov_r (rg_0_2 I119)) ?_
          refine ov_getf (v := ov_i (h118 4 0)) d_102_76 fl_OF_166 (zb_4 I119) (zs_4 I119) rfl ?_
          have g146 := rg_4_0 I119
          refine ov_blk (ls2 := [(0, ov_r 0), (1, ov_i way), (2, ov_i run), (3, ov_i (h118 76 1))]) (st2 := [ov_r 0, ov_i way, ov_i (h118 4 0), ov_r 70, ov_i (h118 4 1), ov_r 4]) (pc2 := 81) b_102_79_2 rfl rfl ?_
          refine ov_getf (v := ov_r 4) d_102_81 fl_OF_28 (zb_0 I119) (zs_0 I119) (congrArg ov_r (rg_0_2 I119)) ?_
          refine ov_getf (v := ov_i (h118 4 1)) d_102_84 fl_OF_179 (zb_4 I119) (zs_4 I119) rfl ?_
          refine ov_cV (as := [ov_i (h118 4 0), ov_i way, ov_i (h118 4 1)]) (st := [ov_i (h118 4 1), ov_r 4]) (d2 := d - 1) d_102_87 lk_OF_162 rfl (Nat.le_of_ble_eq_true rfl) (c := 9) (zb_70 I119) (zs_70 I119) ⟨by decide, rfl⟩ (by omega) (c_Town_waitFor_70 (d - 1) (by omega) U I119 (h118 4 0) way (h118 4 1) (by omega) (by omega) (by omega) (by omega)) ?_
          rintro _ _ _ ⟨v149, rfl, rfl, rfl, f148⟩
          show ov_R u d ov_m102 90 [(0, ov_r 0), (1, ov_i way), (2, ov_i run), (3, ov_i (h118 76 1))] [ov_i v149, ov_i (h118 4 1), ov_r 4] z117 h118 (P_OF_go_0 z h way run)
          have f150 : 0 ≤ v149 ∧ v149 ≤ 60 := f148
          clear f148
          refine ov_blk (ls2 := [(0, ov_r 0), (1, ov_i way), (2, ov_i run), (3, ov_i (h118 76 1))]) (st2 := [ov_i (v149 + (h118 76 1)), ov_i (h118 4 1), ov_r 4]) (pc2 := 92) b_102_90_2 rfl rfl ?_
          refine ov_havw (fun w151 gw151 qw151 => ?_)
          refine ov_blk (ls2 := [(0, ov_r 0), (1, ov_i way), (2, ov_i run), (3, ov_i (h118 76 1))]) (st2 := [ov_i ((h118 4 1) + w151), ov_r 4]) (pc2 := 93) b_102_92_1 rfl rfl ?_
          refine ov_havw (fun w152 gw152 qw152 => ?_)
          refine ov_putf (x := w152) d_102_93 fl_OF_179 (zb_4 I119) (zs_4 I119) rfl nk_0 rfl ?_
          have I153 := up_4_1 (x := w152) I119 (by omega)
          refine ov_blk (ls2 := [(0, ov_r 0), (1, ov_i way), (2, ov_i run), (3, ov_i (h118 76 1))]) (st2 := [ov_r 0]) (pc2 := 97) b_102_96_1 rfl rfl ?_
          refine ov_getf (v := ov_r 4) d_102_97 fl_OF_28 (zb_0 I153) (zs_0 I153) (congrArg ov_r (rg_0_2 I153)) ?_
          refine ov_blk (ls2 := [(0, ov_r 0), (1, ov_i way), (2, ov_i run), (3, ov_i (h118 76 1))]) (st2 := [ov_r 0, ov_r 4]) (pc2 := 101) b_102_100_1 rfl rfl ?_
          refine ov_getf (v := ov_r 70) d_102_101 fl_OF_78 (zb_0 I153) (zs_0 I153) (congrArg ov_r e121) ?_
          refine ov_blk (ls2 := [(0, ov_r 0), (1, ov_i way), (2, ov_i run), (3, ov_i (h118 76 1))]) (st2 := [ov_r 0, ov_r 70, ov_r 4]) (pc2 := 105) b_102_104_1 rfl rfl ?_
          refine ov_getf (v := ov_r 4) d_102_105 fl_OF_28 (zb_0 I153) (zs_0 I153) (congrArg ov_r (rg_0_2 I153)) ?_
          refine ov_getf (v := ov_i (h118 4 0)) d_102_108 fl_OF_166 (zb_4 I153) (zs_4 I153) rfl ?_
          refine ov_blk (ls2 := [(0, ov_r 0), (1, ov_i way), (2, ov_i run), (3, ov_i (h118 76 1))]) (st2 := [ov_i way, ov_i (h118 4 0), ov_r 70, ov_r 4]) (pc2 := 112) b_102_111_1 rfl rfl ?_
          refine ov_cV (as := [ov_i (h118 4 0), ov_i way]) (st := [ov_r 4]) (d2 := d - 1) d_102_112 lk_OF_182 rfl (Nat.le_of_ble_eq_true rfl) (c := 9) (zb_70 I153) (zs_70 I153) ⟨by decide, rfl⟩ (by omega) (c_Town_after_70 (d - 1) (by omega) U I153 (h118 4 0) way (by omega) (by omega) (by omega)) ?_
          rintro _ _ _ ⟨v156, rfl, rfl, rfl, f155⟩
          show ov_R u d ov_m102 115 [(0, ov_r 0), (1, ov_i way), (2, ov_i run), (3, ov_i (h118 76 1))] [ov_i v156, ov_r 4] z117 (ov_up h118 4 1 w152) (P_OF_go_0 z h way run)
          have f157 : (way = 0 → v156 = (h118 4 0) + 1) ∧ (¬ way = 0 → v156 = (h118 4 0) + 6) := f155
          clear f155
          refine ov_putf (x := v156) d_102_115 fl_OF_166 (zb_4 I153) (zs_4 I153) rfl nk_0 rfl ?_
          have I158 := up_4_0 (x := v156) I153 (by omega)
          refine ov_blk (ls2 := [(0, ov_r 0), (1, ov_i way), (2, ov_i run), (3, ov_i (h118 76 1))]) (st2 := [ov_r 0]) (pc2 := 119) b_102_118_1 rfl rfl ?_
          refine ov_getf (v := ov_r 4) d_102_119 fl_OF_28 (zb_0 I158) (zs_0 I158) (congrArg ov_r (rg_0_2 I158)) ?_
          refine ov_blk (ls2 := [(0, ov_r 0), (1, ov_i way), (2, ov_i run), (3, ov_i (h118 76 1))]) (st2 := [ov_r 4, ov_r 4]) (pc2 := 123) b_102_122_1 rfl rfl ?_
          refine ov_getf (v := ov_i (h118 4 2)) d_102_123 fl_OF_185 (zb_4 I158) (zs_4 I158) rfl ?_
          have g159 := rg_4_2 I119
          refine ov_blk (ls2 := [(0, ov_r 0), (1, ov_i way), (2, ov_i run), (3, ov_i (h118 76 1))]) (st2 := [ov_i run, ov_i (h118 4 2), ov_r 4]) (pc2 := 127) b_102_126_1 rfl rfl ?_
          refine ov_ifeq (tgt := 134) d_102_127 (by decide) (by omega) (fun c160 => ?_) (fun c160 => ?_)
          · skip
            refine ov_blk (ls2 := [(0, ov_r 0), (1, ov_i way), (2, ov_i run), (3, ov_i (h118 76 1))]) (st2 := [ov_i ((h118 4 2) + 0), ov_r 4]) (pc2 := 136) b_102_134_2 rfl rfl ?_
            refine ov_havw (fun w161 gw161 qw161 => ?_)
            refine ov_putf (x := w161) d_102_136 fl_OF_185 (zb_4 I158) (zs_4 I158) rfl nk_0 rfl ?_
            have I162 := up_4_2 (x := w161) I158 (by omega)
            refine ov_blk (ls2 := [(0, ov_r 0), (1, ov_i way), (2, ov_i run), (3, ov_i (h118 76 1))]) (st2 := [ov_r 0]) (pc2 := 140) b_102_139_1 rfl rfl ?_
            refine ov_getf (v := ov_r 4) d_102_140 fl_OF_28 (zb_0 I162) (zs_0 I162) (congrArg ov_r (rg_0_2 I162)) ?_
            refine ov_getf (v := ov_i w152) d_102_143 fl_OF_179 (zb_4 I162) (zs_4 I162) rfl ?_
            exact ov_reti (st := []) d_102_146 rfl ⟨_, rfl, I162, (by show (h118 36 7) = (h 36 7) ∧ (h118 1 1) = (h 1 1) ∧ (h118 90 2) = (h 90 2) ∧ (h118 0 10) = (h 0 10) ∧ (h118 0 11) = (h 0 11) ∧ (h118 0 12) = (h 0 12) ∧ (h118 0 13) = (h 0 13) ∧ (h118 3 1) = (h 3 1) ∧ (h118 36 8) = (h 36 8) ∧ (h118 46 3) = (h 46 3) ∧ (h118 46 4) = (h 46 4) ∧ (h118 49 4) = (h 49 4) ∧ (h118 49 5) = (h 49 5); omega)⟩
          · skip
            refine ov_blk (ls2 := [(0, ov_r 0), (1, ov_i way), (2, ov_i run), (3, ov_i (h118 76 1))]) (st2 := [ov_i 1, ov_i (h118 4 2), ov_r 4]) (pc2 := 131) b_102_130_1 rfl rfl ?_
            refine ov_goto (tgt := 135) d_102_131 (by decide) ?_
            refine ov_blk (ls2 := [(0, ov_r 0), (1, ov_i way), (2, ov_i run), (3, ov_i (h118 76 1))]) (st2 := [ov_i ((h118 4 2) + 1), ov_r 4]) (pc2 := 136) b_102_135_1 rfl rfl ?_
            refine ov_havw (fun w163 gw163 qw163 => ?_)
            refine ov_putf (x := w163) d_102_136 fl_OF_185 (zb_4 I158) (zs_4 I158) rfl nk_0 rfl ?_
            have I164 := up_4_2 (x := w163) I158 (by omega)
            refine ov_blk (ls2 := [(0, ov_r 0), (1, ov_i way), (2, ov_i run), (3, ov_i (h118 76 1))]) (st2 := [ov_r 0]) (pc2 := 140) b_102_139_1 rfl rfl ?_
            refine ov_getf (v := ov_r 4) d_102_140 fl_OF_28 (zb_0 I164) (zs_0 I164) (congrArg ov_r (rg_0_2 I164)) ?_
            refine ov_getf (v := ov_i w152) d_102_143 fl_OF_179 (zb_4 I164) (zs_4 I164) rfl ?_
            exact ov_reti (st := []) d_102_146 rfl ⟨_, rfl, I164, (by show (h118 36 7) = (h 36 7) ∧ (h118 1 1) = (h 1 1) ∧ (h118 90 2) = (h 90 2) ∧ (h118 0 10) = (h 0 10) ∧ (h118 0 11) = (h 0 11) ∧ (h118 0 12) = (h 0 12) ∧ (h118 0 13) = (h 0 13) ∧ (h118 3 1) = (h 3 1) ∧ (h118 36 8) = (h 36 8) ∧ (h118 46 3) = (h 46 3) ∧ (h118 46 4) = (h 46 4) ∧ (h118 49 4) = (h 49 4) ∧ (h118 49 5) = (h 49 5); omega)⟩
      · skip
        refine ov_blk (ls2 := [(0, ov_r 0), (1, ov_i way), (2, ov_i run)]) (st2 := [ov_r 0]) (pc2 := 23) b_102_22_1 rfl rfl ?_
        refine ov_cV (as := []) (st := []) (d2 := d - 1) d_102_23 lk_OF_168 rfl (Nat.le_of_ble_eq_true rfl) (c := 0) (zb_0 I) (zs_0 I) ⟨by decide, rfl⟩ (by omega) (c_OF_runsLeft_0 (d - 1) (by omega) U I) ?_
        rintro _ _ _ ⟨v166, rfl, rfl, rfl, f165⟩
        show ov_R u d ov_m102 26 [(0, ov_r 0), (1, ov_i way), (2, ov_i run)] [ov_i v166] z h (P_OF_go_0 z h way run)
        have f167 : -2147483648 ≤ v166 ∧ v166 ≤ 2147483647 := f165
        clear f165
        refine ov_ifgt (tgt := 31) d_102_26 (by decide) (by omega) (fun c168 => ?_) (fun c168 => ?_)
        · skip
          refine ov_blk (ls2 := [(0, ov_r 0), (1, ov_i way), (2, ov_i run)]) (st2 := [ov_r 0]) (pc2 := 32) b_102_31_1 rfl rfl ?_
          refine ov_getf (v := ov_r 9) d_102_32 fl_OF_35 (zb_0 I) (zs_0 I) (congrArg ov_r (rg_0_3 I)) ?_
          refine ov_blk (ls2 := [(0, ov_r 0), (1, ov_i way), (2, ov_i run)]) (st2 := [ov_r 0, ov_r 9]) (pc2 := 36) b_102_35_1 rfl rfl ?_
          refine ov_getf (v := ov_r 4) d_102_36 fl_OF_28 (zb_0 I) (zs_0 I) (congrArg ov_r (rg_0_2 I)) ?_
          refine ov_cV (as := [ov_r 4]) (st := []) (d2 := d - 1) d_102_39 lk_OF_172 rfl (Nat.le_of_ble_eq_true rfl) (c := 3) (zb_9 I) (zs_9 I) ⟨by decide, rfl⟩ (by omega) (c_History_keep_9_4 (d - 1) (by omega) U I) ?_
          rintro _ z170 h171 ⟨rfl, I172, f169⟩
          show ov_R u d ov_m102 42 [(0, ov_r 0), (1, ov_i way), (2, ov_i run)] [] z170 h171 (P_OF_go_0 z h way run)
          have f173 : (h171 36 7) = (h 36 7) ∧ (h171 1 1) = (h 1 1) ∧ (h171 90 2) = (h 90 2) ∧ (h171 0 10) = (h 0 10) ∧ (h171 0 11) = (h 0 11) ∧ (h171 0 12) = (h 0 12) ∧ (h171 0 13) = (h 0 13) ∧ (h171 3 1) = (h 3 1) ∧ (h171 36 8) = (h 36 8) ∧ (h171 46 3) = (h 46 3) ∧ (h171 46 4) = (h 46 4) ∧ (h171 49 4) = (h 49 4) ∧ (h171 49 5) = (h 49 5) := f169
          clear f169
          have e174 : h171 0 10 = 70 := by omega
          refine ov_blk (ls2 := [(0, ov_r 0), (1, ov_i way), (2, ov_i run)]) (st2 := [ov_r 0]) (pc2 := 43) b_102_42_1 rfl rfl ?_
          refine ov_getf (v := ov_r 70) d_102_43 fl_OF_78 (zb_0 I172) (zs_0 I172) (congrArg ov_r e174) ?_
          refine ov_getf (v := ov_r 76) d_102_46 fl_OF_176 (zb_70 I172) (zs_70 I172) (congrArg ov_r (rg_70_7 I172)) ?_
          refine ov_blk (ls2 := [(0, ov_r 0), (1, ov_i way), (2, ov_i run)]) (st2 := [ov_i run, ov_r 76]) (pc2 := 50) b_102_49_1 rfl rfl ?_
          refine ov_ifeq (tgt := 57) d_102_50 (by decide) (by omega) (fun c175 => ?_) (fun c175 => ?_)
          · skip
            refine ov_blk (ls2 := [(0, ov_r 0), (1, ov_i way), (2, ov_i run)]) (st2 := [ov_i 0, ov_r 76]) (pc2 := 58) b_102_57_1 rfl rfl ?_
            refine ov_iald d_102_58 (zb_76 I172) (zs_76 I172) (by omega) ?_
            have g176 := ra_76 I172 0
            refine ov_blk (ls2 := [(0, ov_r 0), (1, ov_i way), (2, ov_i run), (3, ov_i (h171 76 0))]) (st2 := [ov_r 0]) (pc2 := 61) b_102_59_2 rfl rfl ?_
            refine ov_getf (v := ov_r 4) d_102_61 fl_OF_28 (zb_0 I172) (zs_0 I172) (congrArg ov_r (rg_0_2 I172)) ?_
            refine ov_blk (ls2 := [(0, ov_r 0), (1, ov_i way), (2, ov_i run), (3, ov_i (h171 76 0))]) (st2 := [ov_r 4, ov_r 4]) (pc2 := 65) b_102_64_1 rfl rfl ?_
            refine ov_getf (v := ov_i (h171 4 1)) d_102_65 fl_OF_179 (zb_4 I172) (zs_4 I172) rfl ?_
            have g177 := rg_4_1 I172
            refine ov_blk (ls2 := [(0, ov_r 0), (1, ov_i way), (2, ov_i run), (3, ov_i (h171 76 0))]) (st2 := [ov_r 0, ov_i (h171 4 1), ov_r 4]) (pc2 := 69) b_102_68_1 rfl rfl ?_
            refine ov_getf (v := ov_r 70) d_102_69 fl_OF_78 (zb_0 I172) (zs_0 I172) (congrArg ov_r e174) ?_
            refine ov_blk (ls2 := [(0, ov_r 0), (1, ov_i way), (2, ov_i run), (3, ov_i (h171 76 0))]) (st2 := [ov_r 0, ov_r 70, ov_i (h171 4 1), ov_r 4]) (pc2 := 73) b_102_72_1 rfl rfl ?_
            refine ov_getf (v := ov_r 4) d_102_73 fl_OF_28 (zb_0 I172) (zs_0 I172) (congrArg ov_r (rg_0_2 I172)) ?_
            refine ov_getf (v := ov_i (h171 4 0)) d_102_76 fl_OF_166 (zb_4 I172) (zs_4 I172) rfl ?_
            have g178 := rg_4_0 I172
            refine ov_blk (ls2 := [(0, ov_r 0), (1, ov_i way), (2, ov_i run), (3, ov_i (h171 76 0))]) (st2 := [ov_r 0, ov_i way, ov_i (h171 4 0), ov_r 70, ov_i (h171 4 1), ov_r 4]) (pc2 := 81) b_102_79_2 rfl rfl ?_
            refine ov_getf (v := ov_r 4) d_102_81 fl_OF_28 (zb_0 I172) (zs_0 I172) (congrArg ov_r (rg_0_2 I172)) ?_
            refine ov_getf (v := ov_i (h171 4 1)) d_102_84 fl_OF_179 (zb_4 I172) (zs_4 I172) rfl ?_
            refine ov_cV (as := [ov_i (h171 4 0), ov_i way, ov_i (h171 4 1)]) (st := [ov_i (h171 4 1), ov_r 4]) (d2 := d - 1) d_102_87 lk_OF_162 rfl (Nat.le_of_ble_eq_true rfl) (c := 9) (zb_70 I172) (zs_70 I172) ⟨by decide, rfl⟩ (by omega) (c_Town_waitFor_70 (d - 1) (by omega) U I172 (h171 4 0) way (h171 4 1) (by omega) (by omega) (by omega) (by omega)) ?_
            rintro _ _ _ ⟨v181, rfl, rfl, rfl, f180⟩
            show ov_R u d ov_m102 90 [(0, ov_r 0), (1, ov_i way), (2, ov_i run), (3, ov_i (h171 76 0))] [ov_i v181, ov_i (h171 4 1), ov_r 4] z170 h171 (P_OF_go_0 z h way run)
            have f182 : 0 ≤ v181 ∧ v181 ≤ 60 := f180
            clear f180
            refine ov_blk (ls2 := [(0, ov_r 0), (1, ov_i way), (2, ov_i run), (3, ov_i (h171 76 0))]) (st2 := [ov_i (v181 + (h171 76 0)), ov_i (h171 4 1), ov_r 4]) (pc2 := 92) b_102_90_2 rfl rfl ?_
            refine ov_havw (fun w183 gw183 qw183 => ?_)
            refine ov_blk (ls2 := [(0, ov_r 0), (1, ov_i way), (2, ov_i run), (3, ov_i (h171 76 0))]) (st2 := [ov_i ((h171 4 1) + w183), ov_r 4]) (pc2 := 93) b_102_92_1 rfl rfl ?_
            refine ov_havw (fun w184 gw184 qw184 => ?_)
            refine ov_putf (x := w184) d_102_93 fl_OF_179 (zb_4 I172) (zs_4 I172) rfl nk_0 rfl ?_
            have I185 := up_4_1 (x := w184) I172 (by omega)
            refine ov_blk (ls2 := [(0, ov_r 0), (1, ov_i way), (2, ov_i run), (3, ov_i (h171 76 0))]) (st2 := [ov_r 0]) (pc2 := 97) b_102_96_1 rfl rfl ?_
            refine ov_getf (v := ov_r 4) d_102_97 fl_OF_28 (zb_0 I185) (zs_0 I185) (congrArg ov_r (rg_0_2 I185)) ?_
            refine ov_blk (ls2 := [(0, ov_r 0), (1, ov_i way), (2, ov_i run), (3, ov_i (h171 76 0))]) (st2 := [ov_r 0, ov_r 4]) (pc2 := 101) b_102_100_1 rfl rfl ?_
            refine ov_getf (v := ov_r 70) d_102_101 fl_OF_78 (zb_0 I185) (zs_0 I185) (congrArg ov_r e174) ?_
            refine ov_blk (ls2 := [(0, ov_r 0), (1, ov_i way), (2, ov_i run), (3, ov_i (h171 76 0))]) (st2 := [ov_r 0, ov_r 70, ov_r 4]) (pc2 := 105) b_102_104_1 rfl rfl ?_
            refine ov_getf (v := ov_r 4) d_102_105 fl_OF_28 (zb_0 I185) (zs_0 I185) (congrArg ov_r (rg_0_2 I185)) ?_
            refine ov_getf (v := ov_i (h171 4 0)) d_102_108 fl_OF_166 (zb_4 I185) (zs_4 I185) rfl ?_
            refine ov_blk (ls2 := [(0, ov_r 0), (1, ov_i way), (2, ov_i run), (3, ov_i (h171 76 0))]) (st2 := [ov_i way, ov_i (h171 4 0), ov_r 70, ov_r 4]) (pc2 := 112) b_102_111_1 rfl rfl ?_
            refine ov_cV (as := [ov_i (h171 4 0), ov_i way]) (st := [ov_r 4]) (d2 := d - 1) d_102_112 lk_OF_182 rfl (Nat.le_of_ble_eq_true rfl) (c := 9) (zb_70 I185) (zs_70 I185) ⟨by decide, rfl⟩ (by omega) (c_Town_after_70 (d - 1) (by omega) U I185 (h171 4 0) way (by omega) (by omega) (by omega)) ?_
            rintro _ _ _ ⟨v188, rfl, rfl, rfl, f187⟩
            show ov_R u d ov_m102 115 [(0, ov_r 0), (1, ov_i way), (2, ov_i run), (3, ov_i (h171 76 0))] [ov_i v188, ov_r 4] z170 (ov_up h171 4 1 w184) (P_OF_go_0 z h way run)
            have f189 : (way = 0 → v188 = (h171 4 0) + 1) ∧ (¬ way = 0 → v188 = (h171 4 0) + 6) := f187
            clear f187
            refine ov_putf (x := v188) d_102_115 fl_OF_166 (zb_4 I185) (zs_4 I185) rfl nk_0 rfl ?_
            have I190 := up_4_0 (x := v188) I185 (by omega)
            refine ov_blk (ls2 := [(0, ov_r 0), (1, ov_i way), (2, ov_i run), (3, ov_i (h171 76 0))]) (st2 := [ov_r 0]) (pc2 := 119) b_102_118_1 rfl rfl ?_
            refine ov_getf (v := ov_r 4) d_102_119 fl_OF_28 (zb_0 I190) (zs_0 I190) (congrArg ov_r (rg_0_2 I190)) ?_
            refine ov_blk (ls2 := [(0, ov_r 0), (1, ov_i way), (2, ov_i run), (3, ov_i (h171 76 0))]) (st2 := [ov_r 4, ov_r 4]) (pc2 := 123) b_102_122_1 rfl rfl ?_
            refine ov_getf (v := ov_i (h171 4 2)) d_102_123 fl_OF_185 (zb_4 I190) (zs_4 I190) rfl ?_
            have g191 := rg_4_2 I172
            refine ov_blk (ls2 := [(0, ov_r 0), (1, ov_i way), (2, ov_i run), (3, ov_i (h171 76 0))]) (st2 := [ov_i run, ov_i (h171 4 2), ov_r 4]) (pc2 := 127) b_102_126_1 rfl rfl ?_
            refine ov_ifeq (tgt := 134) d_102_127 (by decide) (by omega) (fun c192 => ?_) (fun c192 => ?_)
            · skip
              refine ov_blk (ls2 := [(0, ov_r 0), (1, ov_i way), (2, ov_i run), (3, ov_i (h171 76 0))]) (st2 := [ov_i ((h171 4 2) + 0), ov_r 4]) (pc2 := 136) b_102_134_2 rfl rfl ?_
              refine ov_havw (fun w193 gw193 qw193 => ?_)
              refine ov_putf (x := w193) d_102_136 fl_OF_185 (zb_4 I190) (zs_4 I190) rfl nk_0 rfl ?_
              have I194 := up_4_2 (x := w193) I190 (by omega)
              refine ov_blk (ls2 := [(0, ov_r 0), (1, ov_i way), (2, ov_i run), (3, ov_i (h171 76 0))]) (st2 := [ov_r 0]) (pc2 := 140) b_102_139_1 rfl rfl ?_
              refine ov_getf (v := ov_r 4) d_102_140 fl_OF_28 (zb_0 I194) (zs_0 I194) (congrArg ov_r (rg_0_2 I194)) ?_
              refine ov_getf (v := ov_i w184) d_102_143 fl_OF_179 (zb_4 I194) (zs_4 I194) rfl ?_
              exact ov_reti (st := []) d_102_146 rfl ⟨_, rfl, I194, (by show (h171 36 7) = (h 36 7) ∧ (h171 1 1) = (h 1 1) ∧ (h171 90 2) = (h 90 2) ∧ (h171 0 10) = (h 0 10) ∧ (h171 0 11) = (h 0 11) ∧ (h171 0 12) = (h 0 12) ∧ (h171 0 13) = (h 0 13) ∧ (h171 3 1) = (h 3 1) ∧ (h171 36 8) = (h 36 8) ∧ (h171 46 3) = (h 46 3) ∧ (h171 46 4) = (h 46 4) ∧ (h171 49 4) = (h 49 4) ∧ (h171 49 5) = (h 49 5); omega)⟩
            · skip
              refine ov_blk (ls2 := [(0, ov_r 0), (1, ov_i way), (2, ov_i run), (3, ov_i (h171 76 0))]) (st2 := [ov_i 1, ov_i (h171 4 2), ov_r 4]) (pc2 := 131) b_102_130_1 rfl rfl ?_
              refine ov_goto (tgt := 135) d_102_131 (by decide) ?_
              refine ov_blk (ls2 := [(0, ov_r 0), (1, ov_i way), (2, ov_i run), (3, ov_i (h171 76 0))]) (st2 := [ov_i ((h171 4 2) + 1), ov_r 4]) (pc2 := 136) b_102_135_1 rfl rfl ?_
              refine ov_havw (fun w195 gw195 qw195 => ?_)
              refine ov_putf (x := w195) d_102_136 fl_OF_185 (zb_4 I190) (zs_4 I190) rfl nk_0 rfl ?_
              have I196 := up_4_2 (x := w195) I190 (by omega)
              refine ov_blk (ls2 := [(0, ov_r 0), (1, ov_i way), (2, ov_i run), (3, ov_i (h171 76 0))]) (st2 := [ov_r 0]) (pc2 := 140) b_102_139_1 rfl rfl ?_
              refine ov_getf (v := ov_r 4) d_102_140 fl_OF_28 (zb_0 I196) (zs_0 I196) (congrArg ov_r (rg_0_2 I196)) ?_
              refine ov_getf (v := ov_i w184) d_102_143 fl_OF_179 (zb_4 I196) (zs_4 I196) rfl ?_
              exact ov_reti (st := []) d_102_146 rfl ⟨_, rfl, I196, (by show (h171 36 7) = (h 36 7) ∧ (h171 1 1) = (h 1 1) ∧ (h171 90 2) = (h 90 2) ∧ (h171 0 10) = (h 0 10) ∧ (h171 0 11) = (h 0 11) ∧ (h171 0 12) = (h 0 12) ∧ (h171 0 13) = (h 0 13) ∧ (h171 3 1) = (h 3 1) ∧ (h171 36 8) = (h 36 8) ∧ (h171 46 3) = (h 46 3) ∧ (h171 46 4) = (h 46 4) ∧ (h171 49 4) = (h 49 4) ∧ (h171 49 5) = (h 49 5); omega)⟩
          · skip
            refine ov_blk (ls2 := [(0, ov_r 0), (1, ov_i way), (2, ov_i run)]) (st2 := [ov_i 1, ov_r 76]) (pc2 := 54) b_102_53_1 rfl rfl ?_
            refine ov_goto (tgt := 58) d_102_54 (by decide) ?_
            refine ov_iald d_102_58 (zb_76 I172) (zs_76 I172) (by omega) ?_
            have g197 := ra_76 I172 1
            refine ov_blk (ls2 := [(0, ov_r 0), (1, ov_i way), (2, ov_i run), (3, ov_i (h171 76 1))]) (st2 := [ov_r 0]) (pc2 := 61) b_102_59_2 rfl rfl ?_
            refine ov_getf (v := ov_r 4) d_102_61 fl_OF_28 (zb_0 I172) (zs_0 I172) (congrArg ov_r (rg_0_2 I172)) ?_
            refine ov_blk (ls2 := [(0, ov_r 0), (1, ov_i way), (2, ov_i run), (3, ov_i (h171 76 1))]) (st2 := [ov_r 4, ov_r 4]) (pc2 := 65) b_102_64_1 rfl rfl ?_
            refine ov_getf (v := ov_i (h171 4 1)) d_102_65 fl_OF_179 (zb_4 I172) (zs_4 I172) rfl ?_
            have g198 := rg_4_1 I172
            refine ov_blk (ls2 := [(0, ov_r 0), (1, ov_i way), (2, ov_i run), (3, ov_i (h171 76 1))]) (st2 := [ov_r 0, ov_i (h171 4 1), ov_r 4]) (pc2 := 69) b_102_68_1 rfl rfl ?_
            refine ov_getf (v := ov_r 70) d_102_69 fl_OF_78 (zb_0 I172) (zs_0 I172) (congrArg ov_r e174) ?_
            refine ov_blk (ls2 := [(0, ov_r 0), (1, ov_i way), (2, ov_i run), (3, ov_i (h171 76 1))]) (st2 := [ov_r 0, ov_r 70, ov_i (h171 4 1), ov_r 4]) (pc2 := 73) b_102_72_1 rfl rfl ?_
            refine ov_getf (v := ov_r 4) d_102_73 fl_OF_28 (zb_0 I172) (zs_0 I172) (congrArg ov_r (rg_0_2 I172)) ?_
            refine ov_getf (v := ov_i (h171 4 0)) d_102_76 fl_OF_166 (zb_4 I172) (zs_4 I172) rfl ?_
            have g199 := rg_4_0 I172
            refine ov_blk (ls2 := [(0, ov_r 0), (1, ov_i way), (2, ov_i run), (3, ov_i (h171 76 1))]) (st2 := [ov_r 0, ov_i way, ov_i (h171 4 0), ov_r 70, ov_i (h171 4 1), ov_r 4]) (pc2 := 81) b_102_79_2 rfl rfl ?_
            refine ov_getf (v := ov_r 4) d_102_81 fl_OF_28 (zb_0 I172) (zs_0 I172) (congrArg ov_r (rg_0_2 I172)) ?_
            refine ov_getf (v := ov_i (h171 4 1)) d_102_84 fl_OF_179 (zb_4 I172) (zs_4 I172) rfl ?_
            refine ov_cV (as := [ov_i (h171 4 0), ov_i way, ov_i (h171 4 1)]) (st := [ov_i (h171 4 1), ov_r 4]) (d2 := d - 1) d_102_87 lk_OF_162 rfl (Nat.le_of_ble_eq_true rfl) (c := 9) (zb_70 I172) (zs_70 I172) ⟨by decide, rfl⟩ (by omega) (c_Town_waitFor_70 (d - 1) (by omega) U I172 (h171 4 0) way (h171 4 1) (by omega) (by omega) (by omega) (by omega)) ?_
            rintro _ _ _ ⟨v202, rfl, rfl, rfl, f201⟩
            show ov_R u d ov_m102 90 [(0, ov_r 0), (1, ov_i way), (2, ov_i run), (3, ov_i (h171 76 1))] [ov_i v202, ov_i (h171 4 1), ov_r 4] z170 h171 (P_OF_go_0 z h way run)
            have f203 : 0 ≤ v202 ∧ v202 ≤ 60 := f201
            clear f201
            refine ov_blk (ls2 := [(0, ov_r 0), (1, ov_i way), (2, ov_i run), (3, ov_i (h171 76 1))]) (st2 := [ov_i (v202 + (h171 76 1)), ov_i (h171 4 1), ov_r 4]) (pc2 := 92) b_102_90_2 rfl rfl ?_
            refine ov_havw (fun w204 gw204 qw204 => ?_)
            refine ov_blk (ls2 := [(0, ov_r 0), (1, ov_i way), (2, ov_i run), (3, ov_i (h171 76 1))]) (st2 := [ov_i ((h171 4 1) + w204), ov_r 4]) (pc2 := 93) b_102_92_1 rfl rfl ?_
            refine ov_havw (fun w205 gw205 qw205 => ?_)
            refine ov_putf (x := w205) d_102_93 fl_OF_179 (zb_4 I172) (zs_4 I172) rfl nk_0 rfl ?_
            have I206 := up_4_1 (x := w205) I172 (by omega)
            refine ov_blk (ls2 := [(0, ov_r 0), (1, ov_i way), (2, ov_i run), (3, ov_i (h171 76 1))]) (st2 := [ov_r 0]) (pc2 := 97) b_102_96_1 rfl rfl ?_
            refine ov_getf (v := ov_r 4) d_102_97 fl_OF_28 (zb_0 I206) (zs_0 I206) (congrArg ov_r (rg_0_2 I206)) ?_
            refine ov_blk (ls2 := [(0, ov_r 0), (1, ov_i way), (2, ov_i run), (3, ov_i (h171 76 1))]) (st2 := [ov_r 0, ov_r 4]) (pc2 := 101) b_102_100_1 rfl rfl ?_
            refine ov_getf (v := ov_r 70) d_102_101 fl_OF_78 (zb_0 I206) (zs_0 I206) (congrArg ov_r e174) ?_
            refine ov_blk (ls2 := [(0, ov_r 0), (1, ov_i way), (2, ov_i run), (3, ov_i (h171 76 1))]) (st2 := [ov_r 0, ov_r 70, ov_r 4]) (pc2 := 105) b_102_104_1 rfl rfl ?_
            refine ov_getf (v := ov_r 4) d_102_105 fl_OF_28 (zb_0 I206) (zs_0 I206) (congrArg ov_r (rg_0_2 I206)) ?_
            refine ov_getf (v := ov_i (h171 4 0)) d_102_108 fl_OF_166 (zb_4 I206) (zs_4 I206) rfl ?_
            refine ov_blk (ls2 := [(0, ov_r 0), (1, ov_i way), (2, ov_i run), (3, ov_i (h171 76 1))]) (st2 := [ov_i way, ov_i (h171 4 0), ov_r 70, ov_r 4]) (pc2 := 112) b_102_111_1 rfl rfl ?_
            refine ov_cV (as := [ov_i (h171 4 0), ov_i way]) (st := [ov_r 4]) (d2 := d - 1) d_102_112 lk_OF_182 rfl (Nat.le_of_ble_eq_true rfl) (c := 9) (zb_70 I206) (zs_70 I206) ⟨by decide, rfl⟩ (by omega) (c_Town_after_70 (d - 1) (by omega) U I206 (h171 4 0) way (by omega) (by omega) (by omega)) ?_
            rintro _ _ _ ⟨v209, rfl, rfl, rfl, f208⟩
            show ov_R u d ov_m102 115 [(0, ov_r 0), (1, ov_i way), (2, ov_i run), (3, ov_i (h171 76 1))] [ov_i v209, ov_r 4] z170 (ov_up h171 4 1 w205) (P_OF_go_0 z h way run)
            have f210 : (way = 0 → v209 = (h171 4 0) + 1) ∧ (¬ way = 0 → v209 = (h171 4 0) + 6) := f208
            clear f208
            refine ov_putf (x := v209) d_102_115 fl_OF_166 (zb_4 I206) (zs_4 I206) rfl nk_0 rfl ?_
            have I211 := up_4_0 (x := v209) I206 (by omega)
            refine ov_blk (ls2 := [(0, ov_r 0), (1, ov_i way), (2, ov_i run), (3, ov_i (h171 76 1))]) (st2 := [ov_r 0]) (pc2 := 119) b_102_118_1 rfl rfl ?_
            refine ov_getf (v := ov_r 4) d_102_119 fl_OF_28 (zb_0 I211) (zs_0 I211) (congrArg ov_r (rg_0_2 I211)) ?_
            refine ov_blk (ls2 := [(0, ov_r 0), (1, ov_i way), (2, ov_i run), (3, ov_i (h171 76 1))]) (st2 := [ov_r 4, ov_r 4]) (pc2 := 123) b_102_122_1 rfl rfl ?_
            refine ov_getf (v := ov_i (h171 4 2)) d_102_123 fl_OF_185 (zb_4 I211) (zs_4 I211) rfl ?_
            have g212 := rg_4_2 I172
            refine ov_blk (ls2 := [(0, ov_r 0), (1, ov_i way), (2, ov_i run), (3, ov_i (h171 76 1))]) (st2 := [ov_i run, ov_i (h171 4 2), ov_r 4]) (pc2 := 127) b_102_126_1 rfl rfl ?_
            refine ov_ifeq (tgt := 134) d_102_127 (by decide) (by omega) (fun c213 => ?_) (fun c213 => ?_)
            · skip
              refine ov_blk (ls2 := [(0, ov_r 0), (1, ov_i way), (2, ov_i run), (3, ov_i (h171 76 1))]) (st2 := [ov_i ((h171 4 2) + 0), ov_r 4]) (pc2 := 136) b_102_134_2 rfl rfl ?_
              refine ov_havw (fun w214 gw214 qw214 => ?_)
              refine ov_putf (x := w214) d_102_136 fl_OF_185 (zb_4 I211) (zs_4 I211) rfl nk_0 rfl ?_
              have I215 := up_4_2 (x := w214) I211 (by omega)
              refine ov_blk (ls2 := [(0, ov_r 0), (1, ov_i way), (2, ov_i run), (3, ov_i (h171 76 1))]) (st2 := [ov_r 0]) (pc2 := 140) b_102_139_1 rfl rfl ?_
              refine ov_getf (v := ov_r 4) d_102_140 fl_OF_28 (zb_0 I215) (zs_0 I215) (congrArg ov_r (rg_0_2 I215)) ?_
              refine ov_getf (v := ov_i w205) d_102_143 fl_OF_179 (zb_4 I215) (zs_4 I215) rfl ?_
              exact ov_reti (st := []) d_102_146 rfl ⟨_, rfl, I215, (by show (h171 36 7) = (h 36 7) ∧ (h171 1 1) = (h 1 1) ∧ (h171 90 2) = (h 90 2) ∧ (h171 0 10) = (h 0 10) ∧ (h171 0 11) = (h 0 11) ∧ (h171 0 12) = (h 0 12) ∧ (h171 0 13) = (h 0 13) ∧ (h171 3 1) = (h 3 1) ∧ (h171 36 8) = (h 36 8) ∧ (h171 46 3) = (h 46 3) ∧ (h171 46 4) = (h 46 4) ∧ (h171 49 4) = (h 49 4) ∧ (h171 49 5) = (h 49 5); omega)⟩
            · skip
              refine ov_blk (ls2 := [(0, ov_r 0), (1, ov_i way), (2, ov_i run), (3, ov_i (h171 76 1))]) (st2 := [ov_i 1, ov_i (h171 4 2), ov_r 4]) (pc2 := 131) b_102_130_1 rfl rfl ?_
              refine ov_goto (tgt := 135) d_102_131 (by decide) ?_
              refine ov_blk (ls2 := [(0, ov_r 0), (1, ov_i way), (2, ov_i run), (3, ov_i (h171 76 1))]) (st2 := [ov_i ((h171 4 2) + 1), ov_r 4]) (pc2 := 136) b_102_135_1 rfl rfl ?_
              refine ov_havw (fun w216 gw216 qw216 => ?_)
              refine ov_putf (x := w216) d_102_136 fl_OF_185 (zb_4 I211) (zs_4 I211) rfl nk_0 rfl ?_
              have I217 := up_4_2 (x := w216) I211 (by omega)
              refine ov_blk (ls2 := [(0, ov_r 0), (1, ov_i way), (2, ov_i run), (3, ov_i (h171 76 1))]) (st2 := [ov_r 0]) (pc2 := 140) b_102_139_1 rfl rfl ?_
              refine ov_getf (v := ov_r 4) d_102_140 fl_OF_28 (zb_0 I217) (zs_0 I217) (congrArg ov_r (rg_0_2 I217)) ?_
              refine ov_getf (v := ov_i w205) d_102_143 fl_OF_179 (zb_4 I217) (zs_4 I217) rfl ?_
              exact ov_reti (st := []) d_102_146 rfl ⟨_, rfl, I217, (by show (h171 36 7) = (h 36 7) ∧ (h171 1 1) = (h 1 1) ∧ (h171 90 2) = (h 90 2) ∧ (h171 0 10) = (h 0 10) ∧ (h171 0 11) = (h 0 11) ∧ (h171 0 12) = (h 0 12) ∧ (h171 0 13) = (h 0 13) ∧ (h171 3 1) = (h 3 1) ∧ (h171 36 8) = (h 36 8) ∧ (h171 46 3) = (h 46 3) ∧ (h171 46 4) = (h 46 4) ∧ (h171 49 4) = (h 49 4) ∧ (h171 49 5) = (h 49 5); omega)⟩
        · skip
          refine ov_blk (ls2 := [(0, ov_r 0), (1, ov_i way), (2, ov_i run)]) (st2 := [ov_i (-1)]) (pc2 := 30) b_102_29_1 rfl rfl ?_
          exact ov_reti (st := []) d_102_30 rfl ⟨_, rfl, I, (by show (h 36 7) = (h 36 7) ∧ (h 1 1) = (h 1 1) ∧ (h 90 2) = (h 90 2) ∧ (h 0 10) = (h 0 10) ∧ (h 0 11) = (h 0 11) ∧ (h 0 12) = (h 0 12) ∧ (h 0 13) = (h 0 13) ∧ (h 3 1) = (h 3 1) ∧ (h 36 8) = (h 36 8) ∧ (h 46 3) = (h 46 3) ∧ (h 46 4) = (h 46 4) ∧ (h 49 4) = (h 49 4) ∧ (h 49 5) = (h 49 5); omega)⟩
abbrev P_OF_stay_0 (z : ov_Z) (h : ov_H) (s : Int) : Option ov_V → ov_Z → ov_H → Prop := fun r0 z' h' => ∃ r : Int, r0 = some (ov_i r) ∧ ov_I z' h' ∧ (h' 36 7 = h 36 7 ∧ h' 1 1 = h 1 1 ∧ h' 90 2 = h 90 2 ∧ h' 0 10 = h 0 10 ∧ h' 0 11 = h 0 11 ∧ h' 0 12 = h 0 12 ∧ h' 0 13 = h 0 13 ∧ h' 3 1 = h 3 1 ∧ h' 36 8 = h 36 8 ∧ h' 46 3 = h 46 3 ∧ h' 46 4 = h 46 4 ∧ h' 49 4 = h 49 4 ∧ h' 49 5 = h 49 5)
set_option maxHeartbeats 4000000 in
theorem c_OF_stay_0 {u : ov_U} {z : ov_Z} {h : ov_H} (d : Nat) (hd : 2 ≤ d) (U : ov_cap u) (I : ov_I z h) (s : Int) (g_s : ov_g s) : ov_T u d ov_m105 [ov_r 0, ov_i s] z h (P_OF_stay_0 z h s) := by
  refine ov_en rfl (Nat.le_of_ble_eq_true rfl) ?_
  show ov_R u d ov_m105 0 [(0, ov_r 0), (1, ov_i s)] [] z h (P_OF_stay_0 z h s)
  refine ov_blk (ls2 := [(0, ov_r 0), (1, ov_i s)]) (st2 := [ov_i 1, ov_i s]) (pc2 := 2) b_105_0_2 rfl rfl ?_
  refine ov_iclt (tgt := 12) d_105_2 (by decide) (by omega) (by omega) (fun c1 => ?_) (fun c1 => ?_)
  · skip
    refine ov_blk (ls2 := [(0, ov_r 0), (1, ov_i s)]) (st2 := [ov_i (-1)]) (pc2 := 13) b_105_12_1 rfl rfl ?_
    exact ov_reti (st := []) d_105_13 rfl ⟨_, rfl, I, (by show (h 36 7) = (h 36 7) ∧ (h 1 1) = (h 1 1) ∧ (h 90 2) = (h 90 2) ∧ (h 0 10) = (h 0 10) ∧ (h 0 11) = (h 0 11) ∧ (h 0 12) = (h 0 12) ∧ (h 0 13) = (h 0 13) ∧ (h 3 1) = (h 3 1) ∧ (h 36 8) = (h 36 8) ∧ (h 46 3) = (h 46 3) ∧ (h 46 4) = (h 46 4) ∧ (h 49 4) = (h 49 4) ∧ (h 49 5) = (h 49 5); omega)⟩
  · skip
    refine ov_blk (ls2 := [(0, ov_r 0), (1, ov_i s)]) (st2 := [ov_i 1000, ov_i s]) (pc2 := 9) b_105_5_2 rfl rfl ?_
    refine ov_icle (tgt := 14) d_105_9 (by decide) (by omega) (by omega) (fun c2 => ?_) (fun c2 => ?_)
    · skip
      refine ov_blk (ls2 := [(0, ov_r 0), (1, ov_i s)]) (st2 := [ov_r 0]) (pc2 := 15) b_105_14_1 rfl rfl ?_
      refine ov_getf (v := ov_r 9) d_105_15 fl_OF_35 (zb_0 I) (zs_0 I) (congrArg ov_r (rg_0_3 I)) ?_
      refine ov_blk (ls2 := [(0, ov_r 0), (1, ov_i s)]) (st2 := [ov_r 0, ov_r 9]) (pc2 := 19) b_105_18_1 rfl rfl ?_
      refine ov_getf (v := ov_r 4) d_105_19 fl_OF_28 (zb_0 I) (zs_0 I) (congrArg ov_r (rg_0_2 I)) ?_
      refine ov_cV (as := [ov_r 4]) (st := []) (d2 := d - 1) d_105_22 lk_OF_172 rfl (Nat.le_of_ble_eq_true rfl) (c := 3) (zb_9 I) (zs_9 I) ⟨by decide, rfl⟩ (by omega) (c_History_keep_9_4 (d - 1) (by omega) U I) ?_
      rintro _ z4 h5 ⟨rfl, I6, f3⟩
      show ov_R u d ov_m105 25 [(0, ov_r 0), (1, ov_i s)] [] z4 h5 (P_OF_stay_0 z h s)
      have f7 : (h5 36 7) = (h 36 7) ∧ (h5 1 1) = (h 1 1) ∧ (h5 90 2) = (h 90 2) ∧ (h5 0 10) = (h 0 10) ∧ (h5 0 11) = (h 0 11) ∧ (h5 0 12) = (h 0 12) ∧ (h5 0 13) = (h 0 13) ∧ (h5 3 1) = (h 3 1) ∧ (h5 36 8) = (h 36 8) ∧ (h5 46 3) = (h 46 3) ∧ (h5 46 4) = (h 46 4) ∧ (h5 49 4) = (h 49 4) ∧ (h5 49 5) = (h 49 5) := f3
      clear f3
      refine ov_blk (ls2 := [(0, ov_r 0), (1, ov_i s)]) (st2 := [ov_r 0]) (pc2 := 26) b_105_25_1 rfl rfl ?_
      refine ov_getf (v := ov_r 4) d_105_26 fl_OF_28 (zb_0 I6) (zs_0 I6) (congrArg ov_r (rg_0_2 I6)) ?_
      refine ov_blk (ls2 := [(0, ov_r 0), (1, ov_i s)]) (st2 := [ov_r 4, ov_r 4]) (pc2 := 30) b_105_29_1 rfl rfl ?_
      refine ov_getf (v := ov_i (h5 4 1)) d_105_30 fl_OF_179 (zb_4 I6) (zs_4 I6) rfl ?_
      have g8 := rg_4_1 I6
      refine ov_blk (ls2 := [(0, ov_r 0), (1, ov_i s)]) (st2 := [ov_i ((h5 4 1) + s), ov_r 4]) (pc2 := 35) b_105_33_2 rfl rfl ?_
      refine ov_havw (fun w9 gw9 qw9 => ?_)
      refine ov_putf (x := w9) d_105_35 fl_OF_179 (zb_4 I6) (zs_4 I6) rfl nk_0 rfl ?_
      have I10 := up_4_1 (x := w9) I6 (by omega)
      refine ov_blk (ls2 := [(0, ov_r 0), (1, ov_i s)]) (st2 := [ov_r 0]) (pc2 := 39) b_105_38_1 rfl rfl ?_
      refine ov_getf (v := ov_r 4) d_105_39 fl_OF_28 (zb_0 I10) (zs_0 I10) (congrArg ov_r (rg_0_2 I10)) ?_
      refine ov_getf (v := ov_i w9) d_105_42 fl_OF_179 (zb_4 I10) (zs_4 I10) rfl ?_
      exact ov_reti (st := []) d_105_45 rfl ⟨_, rfl, I10, (by show (h5 36 7) = (h 36 7) ∧ (h5 1 1) = (h 1 1) ∧ (h5 90 2) = (h 90 2) ∧ (h5 0 10) = (h 0 10) ∧ (h5 0 11) = (h 0 11) ∧ (h5 0 12) = (h 0 12) ∧ (h5 0 13) = (h 0 13) ∧ (h5 3 1) = (h 3 1) ∧ (h5 36 8) = (h 36 8) ∧ (h5 46 3) = (h 46 3) ∧ (h5 46 4) = (h 46 4) ∧ (h5 49 4) = (h 49 4) ∧ (h5 49 5) = (h 49 5); omega)⟩
    · skip
      refine ov_blk (ls2 := [(0, ov_r 0), (1, ov_i s)]) (st2 := [ov_i (-1)]) (pc2 := 13) b_105_12_1 rfl rfl ?_
      exact ov_reti (st := []) d_105_13 rfl ⟨_, rfl, I, (by show (h 36 7) = (h 36 7) ∧ (h 1 1) = (h 1 1) ∧ (h 90 2) = (h 90 2) ∧ (h 0 10) = (h 0 10) ∧ (h 0 11) = (h 0 11) ∧ (h 0 12) = (h 0 12) ∧ (h 0 13) = (h 0 13) ∧ (h 3 1) = (h 3 1) ∧ (h 36 8) = (h 36 8) ∧ (h 46 3) = (h 46 3) ∧ (h 46 4) = (h 46 4) ∧ (h 49 4) = (h 49 4) ∧ (h 49 5) = (h 49 5); omega)⟩
abbrev P_OF_look_0 (z : ov_Z) (h : ov_H)  : Option ov_V → ov_Z → ov_H → Prop := fun r0 z' h' => ∃ r : Int, r0 = some (ov_i r) ∧ ov_I z' h' ∧ ((r = 0 ∨ r = 1) ∧ h' 36 7 = h 36 7 ∧ h' 1 1 = h 1 1 ∧ h' 90 2 = h 90 2 ∧ h' 0 10 = h 0 10 ∧ h' 0 11 = h 0 11 ∧ h' 0 12 = h 0 12 ∧ h' 0 13 = h 0 13 ∧ h' 3 1 = h 3 1 ∧ h' 36 8 = h 36 8 ∧ h' 46 3 = h 46 3 ∧ h' 46 4 = h 46 4 ∧ h' 49 4 = h 49 4 ∧ h' 49 5 = h 49 5)
set_option maxHeartbeats 4000000 in
theorem c_OF_look_0 {u : ov_U} {z : ov_Z} {h : ov_H} (d : Nat) (hd : 2 ≤ d) (U : ov_cap u) (I : ov_I z h) : ov_T u d ov_m106 [ov_r 0] z h (P_OF_look_0 z h) := by
  refine ov_en rfl (Nat.le_of_ble_eq_true rfl) ?_
  show ov_R u d ov_m106 0 [(0, ov_r 0)] [] z h (P_OF_look_0 z h)
  refine ov_blk (ls2 := [(0, ov_r 0)]) (st2 := [ov_r 0]) (pc2 := 1) b_106_0_1 rfl rfl ?_
  rcases rg_0_10 I with e1 | e1
  · skip
    refine ov_getf (v := ov_r 58) d_106_1 fl_OF_78 (zb_0 I) (zs_0 I) (congrArg ov_r e1) ?_
    refine ov_getf (v := ov_r 59) d_106_4 fl_OF_139 (zb_58 I) (zs_58 I) (congrArg ov_r (rg_58_2 I)) ?_
    refine ov_blk (ls2 := [(0, ov_r 0)]) (st2 := [ov_r 0, ov_r 59]) (pc2 := 8) b_106_7_1 rfl rfl ?_
    refine ov_getf (v := ov_r 4) d_106_8 fl_OF_28 (zb_0 I) (zs_0 I) (congrArg ov_r (rg_0_2 I)) ?_
    refine ov_getf (v := ov_i (h 4 0)) d_106_11 fl_OF_166 (zb_4 I) (zs_4 I) rfl ?_
    have g2 := rg_4_0 I
    refine ov_iald d_106_14 (zb_59 I) (zs_59 I) (by omega) ?_
    have g3 := ra_59 I (h 4 0)
    refine ov_blk (ls2 := [(0, ov_r 0)]) (st2 := [ov_i 1, ov_i (h 59 (h 4 0))]) (pc2 := 16) b_106_15_1 rfl rfl ?_
    refine ov_icne (tgt := 36) d_106_16 (by decide) (by omega) (by omega) (fun c4 => ?_) (fun c4 => ?_)
    · skip
      refine ov_blk (ls2 := [(0, ov_r 0)]) (st2 := [ov_i 0]) (pc2 := 37) b_106_36_1 rfl rfl ?_
      exact ov_retz (st := []) d_106_37 rfl (by omega) ⟨_, rfl, I, (by show (0 = 0 ∨ 0 = 1) ∧ (h 36 7) = (h 36 7) ∧ (h 1 1) = (h 1 1) ∧ (h 90 2) = (h 90 2) ∧ (h 0 10) = (h 0 10) ∧ (h 0 11) = (h 0 11) ∧ (h 0 12) = (h 0 12) ∧ (h 0 13) = (h 0 13) ∧ (h 3 1) = (h 3 1) ∧ (h 36 8) = (h 36 8) ∧ (h 46 3) = (h 46 3) ∧ (h 46 4) = (h 46 4) ∧ (h 49 4) = (h 49 4) ∧ (h 49 5) = (h 49 5); omega)⟩
    · skip
      refine ov_blk (ls2 := [(0, ov_r 0)]) (st2 := [ov_r 0]) (pc2 := 20) b_106_19_1 rfl rfl ?_
      refine ov_getf (v := ov_r 4) d_106_20 fl_OF_28 (zb_0 I) (zs_0 I) (congrArg ov_r (rg_0_2 I)) ?_
      refine ov_blk (ls2 := [(0, ov_r 0)]) (st2 := [ov_r 0, ov_r 4]) (pc2 := 24) b_106_23_1 rfl rfl ?_
      refine ov_getf (v := ov_r 4) d_106_24 fl_OF_28 (zb_0 I) (zs_0 I) (congrArg ov_r (rg_0_2 I)) ?_
      refine ov_getf (v := ov_i (h 4 0)) d_106_27 fl_OF_166 (zb_4 I) (zs_4 I) rfl ?_
      refine ov_cV (as := [ov_i (h 4 0)]) (st := []) (d2 := d - 1) d_106_30 lk_OF_151 rfl (Nat.le_of_ble_eq_true rfl) (c := 7) (zb_4 I) (zs_4 I) ⟨by decide, rfl⟩ (by omega) (c_State_knows_4 (d - 1) (by omega) U I (h 4 0) (by omega)) ?_
      rintro _ _ _ ⟨v7, rfl, rfl, rfl, f6⟩
      show ov_R u d ov_m106 33 [(0, ov_r 0)] [ov_i v7] z h (P_OF_look_0 z h)
      have f8 : (v7 = 0 ∨ v7 = 1) := f6
      clear f6
      refine ov_ifeq (tgt := 38) d_106_33 (by decide) (by omega) (fun c9 => ?_) (fun c9 => ?_)
      · skip
        refine ov_blk (ls2 := [(0, ov_r 0)]) (st2 := [ov_r 0]) (pc2 := 39) b_106_38_1 rfl rfl ?_
        refine ov_getf (v := ov_r 9) d_106_39 fl_OF_35 (zb_0 I) (zs_0 I) (congrArg ov_r (rg_0_3 I)) ?_
        refine ov_blk (ls2 := [(0, ov_r 0)]) (st2 := [ov_r 0, ov_r 9]) (pc2 := 43) b_106_42_1 rfl rfl ?_
        refine ov_getf (v := ov_r 4) d_106_43 fl_OF_28 (zb_0 I) (zs_0 I) (congrArg ov_r (rg_0_2 I)) ?_
        refine ov_cV (as := [ov_r 4]) (st := []) (d2 := d - 1) d_106_46 lk_OF_172 rfl (Nat.le_of_ble_eq_true rfl) (c := 3) (zb_9 I) (zs_9 I) ⟨by decide, rfl⟩ (by omega) (c_History_keep_9_4 (d - 1) (by omega) U I) ?_
        rintro _ z11 h12 ⟨rfl, I13, f10⟩
        show ov_R u d ov_m106 49 [(0, ov_r 0)] [] z11 h12 (P_OF_look_0 z h)
        have f14 : (h12 36 7) = (h 36 7) ∧ (h12 1 1) = (h 1 1) ∧ (h12 90 2) = (h 90 2) ∧ (h12 0 10) = (h 0 10) ∧ (h12 0 11) = (h 0 11) ∧ (h12 0 12) = (h 0 12) ∧ (h12 0 13) = (h 0 13) ∧ (h12 3 1) = (h 3 1) ∧ (h12 36 8) = (h 36 8) ∧ (h12 46 3) = (h 46 3) ∧ (h12 46 4) = (h 46 4) ∧ (h12 49 4) = (h 49 4) ∧ (h12 49 5) = (h 49 5) := f10
        clear f10
        have e15 : h12 0 10 = 58 := by omega
        refine ov_blk (ls2 := [(0, ov_r 0)]) (st2 := [ov_r 0]) (pc2 := 50) b_106_49_1 rfl rfl ?_
        refine ov_getf (v := ov_r 4) d_106_50 fl_OF_28 (zb_0 I13) (zs_0 I13) (congrArg ov_r (rg_0_2 I13)) ?_
        refine ov_blk (ls2 := [(0, ov_r 0)]) (st2 := [ov_r 4, ov_r 4]) (pc2 := 54) b_106_53_1 rfl rfl ?_
        refine ov_getf (v := ov_l (h12 4 3)) d_106_54 fl_OF_192 (zb_4 I13) (zs_4 I13) rfl ?_
        refine ov_blk (ls2 := [(0, ov_r 0)]) (st2 := [ov_r 0, ov_l 1, ov_l (h12 4 3), ov_r 4]) (pc2 := 59) b_106_57_2 rfl rfl ?_
        refine ov_getf (v := ov_r 4) d_106_59 fl_OF_28 (zb_0 I13) (zs_0 I13) (congrArg ov_r (rg_0_2 I13)) ?_
        refine ov_getf (v := ov_i (h12 4 0)) d_106_62 fl_OF_166 (zb_4 I13) (zs_4 I13) rfl ?_
        have g16 := rg_4_0 I13
        refine ov_blk (ls2 := [(0, ov_r 0)]) (st2 := [ov_l (ov_lor (h12 4 3) (ov_lshl 1 (h12 4 0))), ov_r 4]) (pc2 := 67) b_106_65_2 rfl rfl ?_
        refine ov_putf (x := (ov_lor (h12 4 3) (ov_lshl 1 (h12 4 0)))) d_106_67 fl_OF_192 (zb_4 I13) (zs_4 I13) rfl nk_1 rfl ?_
        have I17 := up_4_3 (x := (ov_lor (h12 4 3) (ov_lshl 1 (h12 4 0)))) I13
        refine ov_blk (ls2 := [(0, ov_r 0)]) (st2 := [ov_i 1]) (pc2 := 71) b_106_70_1 rfl rfl ?_
        exact ov_retz (st := []) d_106_71 rfl (by omega) ⟨_, rfl, I17, (by show (1 = 0 ∨ 1 = 1) ∧ (h12 36 7) = (h 36 7) ∧ (h12 1 1) = (h 1 1) ∧ (h12 90 2) = (h 90 2) ∧ (h12 0 10) = (h 0 10) ∧ (h12 0 11) = (h 0 11) ∧ (h12 0 12) = (h 0 12) ∧ (h12 0 13) = (h 0 13) ∧ (h12 3 1) = (h 3 1) ∧ (h12 36 8) = (h 36 8) ∧ (h12 46 3) = (h 46 3) ∧ (h12 46 4) = (h 46 4) ∧ (h12 49 4) = (h 49 4) ∧ (h12 49 5) = (h 49 5); omega)⟩
      · skip
        refine ov_blk (ls2 := [(0, ov_r 0)]) (st2 := [ov_i 0]) (pc2 := 37) b_106_36_1 rfl rfl ?_
        exact ov_retz (st := []) d_106_37 rfl (by omega) ⟨_, rfl, I, (by show (0 = 0 ∨ 0 = 1) ∧ (h 36 7) = (h 36 7) ∧ (h 1 1) = (h 1 1) ∧ (h 90 2) = (h 90 2) ∧ (h 0 10) = (h 0 10) ∧ (h 0 11) = (h 0 11) ∧ (h 0 12) = (h 0 12) ∧ (h 0 13) = (h 0 13) ∧ (h 3 1) = (h 3 1) ∧ (h 36 8) = (h 36 8) ∧ (h 46 3) = (h 46 3) ∧ (h 46 4) = (h 46 4) ∧ (h 49 4) = (h 49 4) ∧ (h 49 5) = (h 49 5); omega)⟩
  · skip
    refine ov_getf (v := ov_r 70) d_106_1 fl_OF_78 (zb_0 I) (zs_0 I) (congrArg ov_r e1) ?_
    refine ov_getf (v := ov_r 71) d_106_4 fl_OF_139 (zb_70 I) (zs_70 I) (congrArg ov_r (rg_70_2 I)) ?_
    refine ov_blk (ls2 := [(0, ov_r 0)]) (st2 := [ov_r 0, ov_r 71]) (pc2 := 8) b_106_7_1 rfl rfl ?_
    refine ov_getf (v := ov_r 4) d_106_8 fl_OF_28 (zb_0 I) (zs_0 I) (congrArg ov_r (rg_0_2 I)) ?_
    refine ov_getf (v := ov_i (h 4 0)) d_106_11 fl_OF_166 (zb_4 I) (zs_4 I) rfl ?_
    have g18 := rg_4_0 I
    refine ov_iald d_106_14 (zb_71 I) (zs_71 I) (by omega) ?_
    have g19 := ra_71 I (h 4 0)
    refine ov_blk (ls2 := [(0, ov_r 0)]) (st2 := [ov_i 1, ov_i (h 71 (h 4 0))]) (pc2 := 16) b_106_15_1 rfl rfl ?_
    refine ov_icne (tgt := 36) d_106_16 (by decide) (by omega) (by omega) (fun c20 => ?_) (fun c20 => ?_)
    · skip
      refine ov_blk (ls2 := [(0, ov_r 0)]) (st2 := [ov_i 0]) (pc2 := 37) b_106_36_1 rfl rfl ?_
      exact ov_retz (st := []) d_106_37 rfl (by omega) ⟨_, rfl, I, (by show (0 = 0 ∨ 0 = 1) ∧ (h 36 7) = (h 36 7) ∧ (h 1 1) = (h 1 1) ∧ (h 90 2) = (h 90 2) ∧ (h 0 10) = (h 0 10) ∧ (h 0 11) = (h 0 11) ∧ (h 0 12) = (h 0 12) ∧ (h 0 13) = (h 0 13) ∧ (h 3 1) = (h 3 1) ∧ (h 36 8) = (h 36 8) ∧ (h 46 3) = (h 46 3) ∧ (h 46 4) = (h 46 4) ∧ (h 49 4) = (h 49 4) ∧ (h 49 5) = (h 49 5); omega)⟩
    · skip
      refine ov_blk (ls2 := [(0, ov_r 0)]) (st2 := [ov_r 0]) (pc2 := 20) b_106_19_1 rfl rfl ?_
      refine ov_getf (v := ov_r 4) d_106_20 fl_OF_28 (zb_0 I) (zs_0 I) (congrArg ov_r (rg_0_2 I)) ?_
      refine ov_blk (ls2 := [(0, ov_r 0)]) (st2 := [ov_r 0, ov_r 4]) (pc2 := 24) b_106_23_1 rfl rfl ?_
      refine ov_getf (v := ov_r 4) d_106_24 fl_OF_28 (zb_0 I) (zs_0 I) (congrArg ov_r (rg_0_2 I)) ?_
      refine ov_getf (v := ov_i (h 4 0)) d_106_27 fl_OF_166 (zb_4 I) (zs_4 I) rfl ?_
      refine ov_cV (as := [ov_i (h 4 0)]) (st := []) (d2 := d - 1) d_106_30 lk_OF_151 rfl (Nat.le_of_ble_eq_true rfl) (c := 7) (zb_4 I) (zs_4 I) ⟨by decide, rfl⟩ (by omega) (c_State_knows_4 (d - 1) (by omega) U I (h 4 0) (by omega)) ?_
      rintro _ _ _ ⟨v23, rfl, rfl, rfl, f22⟩
      show ov_R u d ov_m106 33 [(0, ov_r 0)] [ov_i v23] z h (P_OF_look_0 z h)
      have f24 : (v23 = 0 ∨ v23 = 1) := f22
      clear f22
      refine ov_ifeq (tgt := 38) d_106_33 (by decide) (by omega) (fun c25 => ?_) (fun c25 => ?_)
      · skip
        refine ov_blk (ls2 := [(0, ov_r 0)]) (st2 := [ov_r 0]) (pc2 := 39) b_106_38_1 rfl rfl ?_
        refine ov_getf (v := ov_r 9) d_106_39 fl_OF_35 (zb_0 I) (zs_0 I) (congrArg ov_r (rg_0_3 I)) ?_
        refine ov_blk (ls2 := [(0, ov_r 0)]) (st2 := [ov_r 0, ov_r 9]) (pc2 := 43) b_106_42_1 rfl rfl ?_
        refine ov_getf (v := ov_r 4) d_106_43 fl_OF_28 (zb_0 I) (zs_0 I) (congrArg ov_r (rg_0_2 I)) ?_
        refine ov_cV (as := [ov_r 4]) (st := []) (d2 := d - 1) d_106_46 lk_OF_172 rfl (Nat.le_of_ble_eq_true rfl) (c := 3) (zb_9 I) (zs_9 I) ⟨by decide, rfl⟩ (by omega) (c_History_keep_9_4 (d - 1) (by omega) U I) ?_
        rintro _ z27 h28 ⟨rfl, I29, f26⟩
        show ov_R u d ov_m106 49 [(0, ov_r 0)] [] z27 h28 (P_OF_look_0 z h)
        have f30 : (h28 36 7) = (h 36 7) ∧ (h28 1 1) = (h 1 1) ∧ (h28 90 2) = (h 90 2) ∧ (h28 0 10) = (h 0 10) ∧ (h28 0 11) = (h 0 11) ∧ (h28 0 12) = (h 0 12) ∧ (h28 0 13) = (h 0 13) ∧ (h28 3 1) = (h 3 1) ∧ (h28 36 8) = (h 36 8) ∧ (h28 46 3) = (h 46 3) ∧ (h28 46 4) = (h 46 4) ∧ (h28 49 4) = (h 49 4) ∧ (h28 49 5) = (h 49 5) := f26
        clear f26
        have e31 : h28 0 10 = 70 := by omega
        refine ov_blk (ls2 := [(0, ov_r 0)]) (st2 := [ov_r 0]) (pc2 := 50) b_106_49_1 rfl rfl ?_
        refine ov_getf (v := ov_r 4) d_106_50 fl_OF_28 (zb_0 I29) (zs_0 I29) (congrArg ov_r (rg_0_2 I29)) ?_
        refine ov_blk (ls2 := [(0, ov_r 0)]) (st2 := [ov_r 4, ov_r 4]) (pc2 := 54) b_106_53_1 rfl rfl ?_
        refine ov_getf (v := ov_l (h28 4 3)) d_106_54 fl_OF_192 (zb_4 I29) (zs_4 I29) rfl ?_
        refine ov_blk (ls2 := [(0, ov_r 0)]) (st2 := [ov_r 0, ov_l 1, ov_l (h28 4 3), ov_r 4]) (pc2 := 59) b_106_57_2 rfl rfl ?_
        refine ov_getf (v := ov_r 4) d_106_59 fl_OF_28 (zb_0 I29) (zs_0 I29) (congrArg ov_r (rg_0_2 I29)) ?_
        refine ov_getf (v := ov_i (h28 4 0)) d_106_62 fl_OF_166 (zb_4 I29) (zs_4 I29) rfl ?_
        have g32 := rg_4_0 I29
        refine ov_blk (ls2 := [(0, ov_r 0)]) (st2 := [ov_l (ov_lor (h28 4 3) (ov_lshl 1 (h28 4 0))), ov_r 4]) (pc2 := 67) b_106_65_2 rfl rfl ?_
        refine ov_putf (x := (ov_lor (h28 4 3) (ov_lshl 1 (h28 4 0)))) d_106_67 fl_OF_192 (zb_4 I29) (zs_4 I29) rfl nk_1 rfl ?_
        have I33 := up_4_3 (x := (ov_lor (h28 4 3) (ov_lshl 1 (h28 4 0)))) I29
        refine ov_blk (ls2 := [(0, ov_r 0)]) (st2 := [ov_i 1]) (pc2 := 71) b_106_70_1 rfl rfl ?_
        exact ov_retz (st := []) d_106_71 rfl (by omega) ⟨_, rfl, I33, (by show (1 = 0 ∨ 1 = 1) ∧ (h28 36 7) = (h 36 7) ∧ (h28 1 1) = (h 1 1) ∧ (h28 90 2) = (h 90 2) ∧ (h28 0 10) = (h 0 10) ∧ (h28 0 11) = (h 0 11) ∧ (h28 0 12) = (h 0 12) ∧ (h28 0 13) = (h 0 13) ∧ (h28 3 1) = (h 3 1) ∧ (h28 36 8) = (h 36 8) ∧ (h28 46 3) = (h 46 3) ∧ (h28 46 4) = (h 46 4) ∧ (h28 49 4) = (h 49 4) ∧ (h28 49 5) = (h 49 5); omega)⟩
      · skip
        refine ov_blk (ls2 := [(0, ov_r 0)]) (st2 := [ov_i 0]) (pc2 := 37) b_106_36_1 rfl rfl ?_
        exact ov_retz (st := []) d_106_37 rfl (by omega) ⟨_, rfl, I, (by show (0 = 0 ∨ 0 = 1) ∧ (h 36 7) = (h 36 7) ∧ (h 1 1) = (h 1 1) ∧ (h 90 2) = (h 90 2) ∧ (h 0 10) = (h 0 10) ∧ (h 0 11) = (h 0 11) ∧ (h 0 12) = (h 0 12) ∧ (h 0 13) = (h 0 13) ∧ (h 3 1) = (h 3 1) ∧ (h 36 8) = (h 36 8) ∧ (h 46 3) = (h 46 3) ∧ (h 46 4) = (h 46 4) ∧ (h 49 4) = (h 49 4) ∧ (h 49 5) = (h 49 5); omega)⟩
abbrev P_OF_undo_0 (z : ov_Z) (h : ov_H)  : Option ov_V → ov_Z → ov_H → Prop := fun r0 z' h' => ∃ r : Int, r0 = some (ov_i r) ∧ ov_I z' h' ∧ ((r = 0 ∨ r = 1) ∧ h' 36 7 = h 36 7 ∧ h' 1 1 = h 1 1 ∧ h' 90 2 = h 90 2 ∧ h' 0 10 = h 0 10 ∧ h' 0 11 = h 0 11 ∧ h' 0 12 = h 0 12 ∧ h' 0 13 = h 0 13 ∧ h' 3 1 = h 3 1 ∧ h' 36 8 = h 36 8 ∧ h' 46 3 = h 46 3 ∧ h' 46 4 = h 46 4 ∧ h' 49 4 = h 49 4 ∧ h' 49 5 = h 49 5)
set_option maxHeartbeats 4000000 in
theorem c_OF_undo_0 {u : ov_U} {z : ov_Z} {h : ov_H} (d : Nat) (hd : 1 ≤ d) (U : ov_cap u) (I : ov_I z h) : ov_T u d ov_m107 [ov_r 0] z h (P_OF_undo_0 z h) := by
  refine ov_en rfl (Nat.le_of_ble_eq_true rfl) ?_
  show ov_R u d ov_m107 0 [(0, ov_r 0)] [] z h (P_OF_undo_0 z h)
  refine ov_blk (ls2 := [(0, ov_r 0)]) (st2 := [ov_r 0]) (pc2 := 1) b_107_0_1 rfl rfl ?_
  refine ov_getf (v := ov_r 9) d_107_1 fl_OF_35 (zb_0 I) (zs_0 I) (congrArg ov_r (rg_0_3 I)) ?_
  refine ov_blk (ls2 := [(0, ov_r 0)]) (st2 := [ov_r 0, ov_r 9]) (pc2 := 5) b_107_4_1 rfl rfl ?_
  refine ov_getf (v := ov_r 4) d_107_5 fl_OF_28 (zb_0 I) (zs_0 I) (congrArg ov_r (rg_0_2 I)) ?_
  refine ov_cV (as := [ov_r 4]) (st := []) (d2 := d - 1) d_107_8 lk_OF_196 rfl (Nat.le_of_ble_eq_true rfl) (c := 3) (zb_9 I) (zs_9 I) ⟨by decide, rfl⟩ (by omega) (c_History_giveBack_9_4 (d - 1) (by omega) U I) ?_
  rintro _ z3 h4 ⟨v2, rfl, I5, f1⟩
  show ov_R u d ov_m107 11 [(0, ov_r 0)] [ov_i v2] z3 h4 (P_OF_undo_0 z h)
  have f6 : (v2 = 0 ∨ v2 = 1) ∧ (h4 36 7) = (h 36 7) ∧ (h4 1 1) = (h 1 1) ∧ (h4 90 2) = (h 90 2) ∧ (h4 0 10) = (h 0 10) ∧ (h4 0 11) = (h 0 11) ∧ (h4 0 12) = (h 0 12) ∧ (h4 0 13) = (h 0 13) ∧ (h4 3 1) = (h 3 1) ∧ (h4 36 8) = (h 36 8) ∧ (h4 46 3) = (h 46 3) ∧ (h4 46 4) = (h 46 4) ∧ (h4 49 4) = (h 49 4) ∧ (h4 49 5) = (h 49 5) := f1
  clear f1
  exact ov_retz (st := []) d_107_11 rfl (by omega) ⟨_, rfl, I5, (by show (v2 = 0 ∨ v2 = 1) ∧ (h4 36 7) = (h 36 7) ∧ (h4 1 1) = (h 1 1) ∧ (h4 90 2) = (h 90 2) ∧ (h4 0 10) = (h 0 10) ∧ (h4 0 11) = (h 0 11) ∧ (h4 0 12) = (h 0 12) ∧ (h4 0 13) = (h 0 13) ∧ (h4 3 1) = (h 3 1) ∧ (h4 36 8) = (h 36 8) ∧ (h4 46 3) = (h 46 3) ∧ (h4 46 4) = (h 46 4) ∧ (h4 49 4) = (h 49 4) ∧ (h4 49 5) = (h 49 5); omega)⟩
abbrev P_OF_judged_0 (z : ov_Z) (h : ov_H)  : Option ov_V → ov_Z → ov_H → Prop := fun r0 z' h' => ∃ r : Int, r0 = some (ov_i r) ∧ z = z' ∧ h = h' ∧ (True)
set_option maxHeartbeats 4000000 in
theorem c_OF_judged_0 {u : ov_U} {z : ov_Z} {h : ov_H} (d : Nat) (hd : 4 ≤ d) (U : ov_cap u) (I : ov_I z h) : ov_T u d ov_m109 [ov_r 0] z h (P_OF_judged_0 z h) := by
  refine ov_en rfl (Nat.le_of_ble_eq_true rfl) ?_
  show ov_R u d ov_m109 0 [(0, ov_r 0)] [] z h (P_OF_judged_0 z h)
  refine ov_blk (ls2 := [(0, ov_r 0)]) (st2 := [ov_r 0]) (pc2 := 1) b_109_0_1 rfl rfl ?_
  rcases rg_0_12 I with e1 | e1
  · skip
    refine ov_getf (v := ov_r 82) d_109_1 fl_OF_88 (zb_0 I) (zs_0 I) (congrArg ov_r e1) ?_
    refine ov_blk (ls2 := [(0, ov_r 0)]) (st2 := [ov_r 0, ov_r 82]) (pc2 := 5) b_109_4_1 rfl rfl ?_
    rcases rg_0_10 I with e2 | e2
    · skip
      refine ov_getf (v := ov_r 58) d_109_5 fl_OF_78 (zb_0 I) (zs_0 I) (congrArg ov_r e2) ?_
      refine ov_cV (as := [ov_r 58]) (st := []) (d2 := d - 1) d_109_8 lk_OF_200 rfl (Nat.le_of_ble_eq_true rfl) (c := 10) (zb_82 I) (zs_82 I) ⟨by decide, rfl⟩ (by omega) (c_Walk_firstWrong_82_58 (d - 1) (by omega) U I) ?_
      rintro _ _ _ ⟨v4, rfl, rfl, rfl, f3⟩
      show ov_R u d ov_m109 11 [(0, ov_r 0)] [ov_i v4] z h (P_OF_judged_0 z h)
      have f5 : -1 ≤ v4 ∧ v4 ≤ 13 := f3
      clear f3
      exact ov_reti (st := []) d_109_11 rfl ⟨_, rfl, rfl, rfl, trivial⟩
    · skip
      refine ov_getf (v := ov_r 70) d_109_5 fl_OF_78 (zb_0 I) (zs_0 I) (congrArg ov_r e2) ?_
      refine ov_cV (as := [ov_r 70]) (st := []) (d2 := d - 1) d_109_8 lk_OF_200 rfl (Nat.le_of_ble_eq_true rfl) (c := 10) (zb_82 I) (zs_82 I) ⟨by decide, rfl⟩ (by omega) (c_Walk_firstWrong_82_70 (d - 1) (by omega) U I) ?_
      rintro _ _ _ ⟨v7, rfl, rfl, rfl, f6⟩
      show ov_R u d ov_m109 11 [(0, ov_r 0)] [ov_i v7] z h (P_OF_judged_0 z h)
      have f8 : -1 ≤ v7 ∧ v7 ≤ 13 := f6
      clear f6
      exact ov_reti (st := []) d_109_11 rfl ⟨_, rfl, rfl, rfl, trivial⟩
  · skip
    refine ov_getf (v := ov_r 86) d_109_1 fl_OF_88 (zb_0 I) (zs_0 I) (congrArg ov_r e1) ?_
    refine ov_blk (ls2 := [(0, ov_r 0)]) (st2 := [ov_r 0, ov_r 86]) (pc2 := 5) b_109_4_1 rfl rfl ?_
    rcases rg_0_10 I with e9 | e9
    · skip
      refine ov_getf (v := ov_r 58) d_109_5 fl_OF_78 (zb_0 I) (zs_0 I) (congrArg ov_r e9) ?_
      refine ov_cV (as := [ov_r 58]) (st := []) (d2 := d - 1) d_109_8 lk_OF_200 rfl (Nat.le_of_ble_eq_true rfl) (c := 10) (zb_86 I) (zs_86 I) ⟨by decide, rfl⟩ (by omega) (c_Walk_firstWrong_86_58 (d - 1) (by omega) U I) ?_
      rintro _ _ _ ⟨v11, rfl, rfl, rfl, f10⟩
      show ov_R u d ov_m109 11 [(0, ov_r 0)] [ov_i v11] z h (P_OF_judged_0 z h)
      have f12 : -1 ≤ v11 ∧ v11 ≤ 13 := f10
      clear f10
      exact ov_reti (st := []) d_109_11 rfl ⟨_, rfl, rfl, rfl, trivial⟩
    · skip
      refine ov_getf (v := ov_r 70) d_109_5 fl_OF_78 (zb_0 I) (zs_0 I) (congrArg ov_r e9) ?_
      refine ov_cV (as := [ov_r 70]) (st := []) (d2 := d - 1) d_109_8 lk_OF_200 rfl (Nat.le_of_ble_eq_true rfl) (c := 10) (zb_86 I) (zs_86 I) ⟨by decide, rfl⟩ (by omega) (c_Walk_firstWrong_86_70 (d - 1) (by omega) U I) ?_
      rintro _ _ _ ⟨v14, rfl, rfl, rfl, f13⟩
      show ov_R u d ov_m109 11 [(0, ov_r 0)] [ov_i v14] z h (P_OF_judged_0 z h)
      have f15 : -1 ≤ v14 ∧ v14 ≤ 13 := f13
      clear f13
      exact ov_reti (st := []) d_109_11 rfl ⟨_, rfl, rfl, rfl, trivial⟩
abbrev P_OF_soonest_0 (z : ov_Z) (h : ov_H) (x : Int) (y : Int) (s : Int) (w : Int) : Option ov_V → ov_Z → ov_H → Prop := fun r0 z' h' => ∃ r : Int, r0 = some (ov_i r) ∧ ov_I z' h' ∧ (h' 36 7 = h 36 7 ∧ h' 1 1 = h 1 1 ∧ h' 90 2 = h 90 2 ∧ h' 0 10 = h 0 10 ∧ h' 0 11 = h 0 11 ∧ h' 0 12 = h 0 12 ∧ h' 0 13 = h 0 13 ∧ h' 3 1 = h 3 1 ∧ h' 36 8 = h 36 8 ∧ h' 46 4 = h 46 4 ∧ h' 49 4 = h 49 4 ∧ h' 49 5 = h 49 5)
set_option maxHeartbeats 4000000 in
theorem c_OF_soonest_0 {u : ov_U} {z : ov_Z} {h : ov_H} (d : Nat) (hd : 21 ≤ d) (U : ov_cap u) (I : ov_I z h) (x : Int) (y : Int) (s : Int) (w : Int) (g_x : ov_g x) (g_y : ov_g y) (g_s : ov_g s) (g_w : ov_g w) : ov_T u d ov_m112 [ov_r 0, ov_i x, ov_i y, ov_i s, ov_i w] z h (P_OF_soonest_0 z h x y s w) := by
  refine ov_en rfl (Nat.le_of_ble_eq_true rfl) ?_
  show ov_R u d ov_m112 0 [(0, ov_r 0), (1, ov_i x), (2, ov_i y), (3, ov_i s), (4, ov_i w)] [] z h (P_OF_soonest_0 z h x y s w)
  refine ov_blk (ls2 := [(0, ov_r 0), (1, ov_i x), (2, ov_i y), (3, ov_i s), (4, ov_i w)]) (st2 := [ov_r 0]) (pc2 := 1) b_112_0_1 rfl rfl ?_
  rcases rg_0_10 I with e1 | e1
  · skip
    refine ov_getf (v := ov_r 58) d_112_1 fl_OF_78 (zb_0 I) (zs_0 I) (congrArg ov_r e1) ?_
    refine ov_blk (ls2 := [(0, ov_r 0), (1, ov_i x), (2, ov_i y), (3, ov_i s), (4, ov_i w)]) (st2 := [ov_i y, ov_i x, ov_r 58]) (pc2 := 6) b_112_4_2 rfl rfl ?_
    refine ov_cV (as := [ov_i x, ov_i y]) (st := []) (d2 := d - 1) d_112_6 lk_OF_131 rfl (Nat.le_of_ble_eq_true rfl) (c := 9) (zb_58 I) (zs_58 I) ⟨by decide, rfl⟩ (by omega) (c_Town_corner_58 (d - 1) (by omega) U I x y (by omega) (by omega)) ?_
    rintro _ _ _ ⟨v3, rfl, rfl, rfl, f2⟩
    show ov_R u d ov_m112 9 [(0, ov_r 0), (1, ov_i x), (2, ov_i y), (3, ov_i s), (4, ov_i w)] [ov_i v3] z h (P_OF_soonest_0 z h x y s w)
    have f4 : v3 = -1 ∨ (0 ≤ x ∧ x < (h 58 0) ∧ 0 ≤ y ∧ y < (h 58 1) ∧ v3 = y * 6 + x ∧ (h 58 0) ≤ 6 ∧ (h 58 1) ≤ 9) := f2
    clear f2
    refine ov_blk (ls2 := [(0, ov_r 0), (1, ov_i x), (2, ov_i y), (3, ov_i s), (4, ov_i w), (5, ov_i v3)]) (st2 := [ov_i (-1), ov_i v3]) (pc2 := 14) b_112_9_3 rfl rfl ?_
    refine ov_iceq (tgt := 37) d_112_14 (by decide) (by omega) (by omega) (fun c5 => ?_) (fun c5 => ?_)
    · skip
      refine ov_blk (ls2 := [(0, ov_r 0), (1, ov_i x), (2, ov_i y), (3, ov_i s), (4, ov_i w), (5, ov_i v3)]) (st2 := [ov_i (-2)]) (pc2 := 39) b_112_37_1 rfl rfl ?_
      exact ov_reti (st := []) d_112_39 rfl ⟨_, rfl, I, (by show (h 36 7) = (h 36 7) ∧ (h 1 1) = (h 1 1) ∧ (h 90 2) = (h 90 2) ∧ (h 0 10) = (h 0 10) ∧ (h 0 11) = (h 0 11) ∧ (h 0 12) = (h 0 12) ∧ (h 0 13) = (h 0 13) ∧ (h 3 1) = (h 3 1) ∧ (h 36 8) = (h 36 8) ∧ (h 46 4) = (h 46 4) ∧ (h 49 4) = (h 49 4) ∧ (h 49 5) = (h 49 5); omega)⟩
    · skip
      refine ov_blk (ls2 := [(0, ov_r 0), (1, ov_i x), (2, ov_i y), (3, ov_i s), (4, ov_i w), (5, ov_i v3)]) (st2 := [ov_i s]) (pc2 := 18) b_112_17_1 rfl rfl ?_
      refine ov_cS (as := [ov_i s]) (st := []) (d2 := d - 1) d_112_18 lk_OF_155 rfl (Nat.le_of_ble_eq_true rfl) (by omega) (c_OF_isSecond (d - 1) (by omega) U I s (by omega)) ?_
      rintro _ _ _ ⟨v7, rfl, rfl, rfl, f6⟩
      show ov_R u d ov_m112 21 [(0, ov_r 0), (1, ov_i x), (2, ov_i y), (3, ov_i s), (4, ov_i w), (5, ov_i v3)] [ov_i v7] z h (P_OF_soonest_0 z h x y s w)
      have f8 : (v7 = 0 ∨ v7 = 1) ∧ (v7 = 1 → 0 ≤ s ∧ s ≤ 1000000) := f6
      clear f6
      refine ov_ifeq (tgt := 37) d_112_21 (by decide) (by omega) (fun c9 => ?_) (fun c9 => ?_)
      · skip
        refine ov_blk (ls2 := [(0, ov_r 0), (1, ov_i x), (2, ov_i y), (3, ov_i s), (4, ov_i w), (5, ov_i v3)]) (st2 := [ov_i (-2)]) (pc2 := 39) b_112_37_1 rfl rfl ?_
        exact ov_reti (st := []) d_112_39 rfl ⟨_, rfl, I, (by show (h 36 7) = (h 36 7) ∧ (h 1 1) = (h 1 1) ∧ (h 90 2) = (h 90 2) ∧ (h 0 10) = (h 0 10) ∧ (h 0 11) = (h 0 11) ∧ (h 0 12) = (h 0 12) ∧ (h 0 13) = (h 0 13) ∧ (h 3 1) = (h 3 1) ∧ (h 36 8) = (h 36 8) ∧ (h 46 4) = (h 46 4) ∧ (h 49 4) = (h 49 4) ∧ (h 49 5) = (h 49 5); omega)⟩
      · skip
        refine ov_blk (ls2 := [(0, ov_r 0), (1, ov_i x), (2, ov_i y), (3, ov_i s), (4, ov_i w), (5, ov_i v3)]) (st2 := [ov_i (-1), ov_i w]) (pc2 := 27) b_112_24_2 rfl rfl ?_
        refine ov_iclt (tgt := 37) d_112_27 (by decide) (by omega) (by omega) (fun c10 => ?_) (fun c10 => ?_)
        · skip
          refine ov_blk (ls2 := [(0, ov_r 0), (1, ov_i x), (2, ov_i y), (3, ov_i s), (4, ov_i w), (5, ov_i v3)]) (st2 := [ov_i (-2)]) (pc2 := 39) b_112_37_1 rfl rfl ?_
          exact ov_reti (st := []) d_112_39 rfl ⟨_, rfl, I, (by show (h 36 7) = (h 36 7) ∧ (h 1 1) = (h 1 1) ∧ (h 90 2) = (h 90 2) ∧ (h 0 10) = (h 0 10) ∧ (h 0 11) = (h 0 11) ∧ (h 0 12) = (h 0 12) ∧ (h 0 13) = (h 0 13) ∧ (h 3 1) = (h 3 1) ∧ (h 36 8) = (h 36 8) ∧ (h 46 4) = (h 46 4) ∧ (h 49 4) = (h 49 4) ∧ (h 49 5) = (h 49 5); omega)⟩
        · skip
          refine ov_blk (ls2 := [(0, ov_r 0), (1, ov_i x), (2, ov_i y), (3, ov_i s), (4, ov_i w), (5, ov_i v3)]) (st2 := [ov_i 13, ov_i w]) (pc2 := 34) b_112_30_2 rfl rfl ?_
          refine ov_iclt (tgt := 40) d_112_34 (by decide) (by omega) (by omega) (fun c11 => ?_) (fun c11 => ?_)
          · skip
            refine ov_blk (ls2 := [(0, ov_r 0), (1, ov_i x), (2, ov_i y), (3, ov_i s), (4, ov_i w), (5, ov_i v3)]) (st2 := [ov_i (-1), ov_i w]) (pc2 := 43) b_112_40_2 rfl rfl ?_
            refine ov_iceq (tgt := 63) d_112_43 (by decide) (by omega) (by omega) (fun c12 => ?_) (fun c12 => ?_)
            · skip
              refine ov_blk (ls2 := [(0, ov_r 0), (1, ov_i x), (2, ov_i y), (3, ov_i s), (4, ov_i w), (5, ov_i v3)]) (st2 := [ov_r 0]) (pc2 := 64) b_112_63_1 rfl rfl ?_
              refine ov_getf (v := ov_r 46) d_112_64 fl_OF_57 (zb_0 I) (zs_0 I) (congrArg ov_r (rg_0_7 I)) ?_
              refine ov_blk (ls2 := [(0, ov_r 0), (1, ov_i x), (2, ov_i y), (3, ov_i s), (4, ov_i w), (5, ov_i v3)]) (st2 := [ov_r 0, ov_r 46]) (pc2 := 68) b_112_67_1 rfl rfl ?_
              refine ov_getf (v := ov_r 58) d_112_68 fl_OF_78 (zb_0 I) (zs_0 I) (congrArg ov_r e1) ?_
              refine ov_blk (ls2 := [(0, ov_r 0), (1, ov_i x), (2, ov_i y), (3, ov_i s), (4, ov_i w), (5, ov_i v3)]) (st2 := [ov_i s, ov_i v3, ov_r 58, ov_r 46]) (pc2 := 74) b_112_71_2 rfl rfl ?_
              refine ov_cV (as := [ov_r 58, ov_i v3, ov_i s]) (st := []) (d2 := d - 1) d_112_74 lk_OF_207 rfl (Nat.le_of_ble_eq_true rfl) (c := 12) (zb_46 I) (zs_46 I) ⟨by decide, rfl⟩ (by omega) (c_Ways_arrival_46_58 (d - 1) (by omega) U I v3 s (by omega) (by omega) (by omega)) ?_
              rintro _ z15 h16 ⟨v14, rfl, I17, f13⟩
              show ov_R u d ov_m112 77 [(0, ov_r 0), (1, ov_i x), (2, ov_i y), (3, ov_i s), (4, ov_i w), (5, ov_i v3)] [ov_i v14] z15 h16 (P_OF_soonest_0 z h x y s w)
              have f18 : -2147483648 ≤ v14 ∧ v14 ≤ 2147483647 ∧ (h16 46 3) = 58 ∧ (h16 36 7) = (h 36 7) ∧ (h16 1 1) = (h 1 1) ∧ (h16 90 2) = (h 90 2) ∧ (h16 0 10) = (h 0 10) ∧ (h16 0 11) = (h 0 11) ∧ (h16 0 12) = (h 0 12) ∧ (h16 0 13) = (h 0 13) ∧ (h16 3 1) = (h 3 1) ∧ (h16 36 8) = (h 36 8) ∧ (h16 46 4) = (h 46 4) ∧ (h16 49 4) = (h 49 4) ∧ (h16 49 5) = (h 49 5) := f13
              clear f13
              have e19 : h16 0 10 = 58 := by omega
              have e20 : h16 46 3 = 58 := by omega
              refine ov_blk (ls2 := [(0, ov_r 0), (1, ov_i x), (2, ov_i y), (3, ov_i s), (4, ov_i w), (5, ov_i v3), (6, ov_i v14)]) (st2 := [ov_i (-1), ov_i v14]) (pc2 := 82) b_112_77_3 rfl rfl ?_
              refine ov_icne (tgt := 90) d_112_82 (by decide) (by omega) (by omega) (fun c21 => ?_) (fun c21 => ?_)
              · skip
                refine ov_blk (ls2 := [(0, ov_r 0), (1, ov_i x), (2, ov_i y), (3, ov_i s), (4, ov_i w), (5, ov_i v3), (6, ov_i v14)]) (st2 := [ov_i v14]) (pc2 := 92) b_112_90_1 rfl rfl ?_
                exact ov_reti (st := []) d_112_92 rfl ⟨_, rfl, I17, (by show (h16 36 7) = (h 36 7) ∧ (h16 1 1) = (h 1 1) ∧ (h16 90 2) = (h 90 2) ∧ (h16 0 10) = (h 0 10) ∧ (h16 0 11) = (h 0 11) ∧ (h16 0 12) = (h 0 12) ∧ (h16 0 13) = (h 0 13) ∧ (h16 3 1) = (h 3 1) ∧ (h16 36 8) = (h 36 8) ∧ (h16 46 4) = (h 46 4) ∧ (h16 49 4) = (h 49 4) ∧ (h16 49 5) = (h 49 5); omega)⟩
              · skip
                refine ov_blk (ls2 := [(0, ov_r 0), (1, ov_i x), (2, ov_i y), (3, ov_i s), (4, ov_i w), (5, ov_i v3), (6, ov_i v14)]) (st2 := [ov_i (-2)]) (pc2 := 87) b_112_85_1 rfl rfl ?_
                refine ov_goto (tgt := 92) d_112_87 (by decide) ?_
                exact ov_reti (st := []) d_112_92 rfl ⟨_, rfl, I17, (by show (h16 36 7) = (h 36 7) ∧ (h16 1 1) = (h 1 1) ∧ (h16 90 2) = (h 90 2) ∧ (h16 0 10) = (h 0 10) ∧ (h16 0 11) = (h 0 11) ∧ (h16 0 12) = (h 0 12) ∧ (h16 0 13) = (h 0 13) ∧ (h16 3 1) = (h 3 1) ∧ (h16 36 8) = (h 36 8) ∧ (h16 46 4) = (h 46 4) ∧ (h16 49 4) = (h 49 4) ∧ (h16 49 5) = (h 49 5); omega)⟩
            · skip
              refine ov_blk (ls2 := [(0, ov_r 0), (1, ov_i x), (2, ov_i y), (3, ov_i s), (4, ov_i w), (5, ov_i v3)]) (st2 := [ov_r 0]) (pc2 := 47) b_112_46_1 rfl rfl ?_
              refine ov_getf (v := ov_r 46) d_112_47 fl_OF_57 (zb_0 I) (zs_0 I) (congrArg ov_r (rg_0_7 I)) ?_
              refine ov_blk (ls2 := [(0, ov_r 0), (1, ov_i x), (2, ov_i y), (3, ov_i s), (4, ov_i w), (5, ov_i v3)]) (st2 := [ov_r 0, ov_r 46]) (pc2 := 51) b_112_50_1 rfl rfl ?_
              refine ov_getf (v := ov_r 58) d_112_51 fl_OF_78 (zb_0 I) (zs_0 I) (congrArg ov_r e1) ?_
              refine ov_blk (ls2 := [(0, ov_r 0), (1, ov_i x), (2, ov_i y), (3, ov_i s), (4, ov_i w), (5, ov_i v3)]) (st2 := [ov_i w, ov_i s, ov_i v3, ov_r 58, ov_r 46]) (pc2 := 59) b_112_54_3 rfl rfl ?_
              refine ov_cV (as := [ov_r 58, ov_i v3, ov_i s, ov_i w]) (st := []) (d2 := d - 1) d_112_59 lk_OF_203 rfl (Nat.le_of_ble_eq_true rfl) (c := 12) (zb_46 I) (zs_46 I) ⟨by decide, rfl⟩ (by omega) (c_Ways_soonestWay_46_58 (d - 1) (by omega) U I v3 s w (by omega) (by omega) (by omega) (by omega)) ?_
              rintro _ z24 h25 ⟨v23, rfl, I26, f22⟩
              show ov_R u d ov_m112 62 [(0, ov_r 0), (1, ov_i x), (2, ov_i y), (3, ov_i s), (4, ov_i w), (5, ov_i v3)] [ov_i v23] z24 h25 (P_OF_soonest_0 z h x y s w)
              have f27 : -2 ≤ v23 ∧ v23 ≤ 1 ∧ (h25 36 7) = (h 36 7) ∧ (h25 1 1) = (h 1 1) ∧ (h25 90 2) = (h 90 2) ∧ (h25 0 10) = (h 0 10) ∧ (h25 0 11) = (h 0 11) ∧ (h25 0 12) = (h 0 12) ∧ (h25 0 13) = (h 0 13) ∧ (h25 3 1) = (h 3 1) ∧ (h25 36 8) = (h 36 8) ∧ (h25 46 4) = (h 46 4) ∧ (h25 49 4) = (h 49 4) ∧ (h25 49 5) = (h 49 5) := f22
              clear f22
              have e28 : h25 0 10 = 58 := by omega
              exact ov_reti (st := []) d_112_62 rfl ⟨_, rfl, I26, (by show (h25 36 7) = (h 36 7) ∧ (h25 1 1) = (h 1 1) ∧ (h25 90 2) = (h 90 2) ∧ (h25 0 10) = (h 0 10) ∧ (h25 0 11) = (h 0 11) ∧ (h25 0 12) = (h 0 12) ∧ (h25 0 13) = (h 0 13) ∧ (h25 3 1) = (h 3 1) ∧ (h25 36 8) = (h 36 8) ∧ (h25 46 4) = (h 46 4) ∧ (h25 49 4) = (h 49 4) ∧ (h25 49 5) = (h 49 5); omega)⟩
          · skip
            refine ov_blk (ls2 := [(0, ov_r 0), (1, ov_i x), (2, ov_i y), (3, ov_i s), (4, ov_i w), (5, ov_i v3)]) (st2 := [ov_i (-2)]) (pc2 := 39) b_112_37_1 rfl rfl ?_
            exact ov_reti (st := []) d_112_39 rfl ⟨_, rfl, I, (by show (h 36 7) = (h 36 7) ∧ (h 1 1) = (h 1 1) ∧ (h 90 2) = (h 90 2) ∧ (h 0 10) = (h 0 10) ∧ (h 0 11) = (h 0 11) ∧ (h 0 12) = (h 0 12) ∧ (h 0 13) = (h 0 13) ∧ (h 3 1) = (h 3 1) ∧ (h 36 8) = (h 36 8) ∧ (h 46 4) = (h 46 4) ∧ (h 49 4) = (h 49 4) ∧ (h 49 5) = (h 49 5); omega)⟩
  · skip
    refine ov_getf (v := ov_r 70) d_112_1 fl_OF_78 (zb_0 I) (zs_0 I) (congrArg ov_r e1) ?_
    refine ov_blk (ls2 := [(0, ov_r 0), (1, ov_i x), (2, ov_i y), (3, ov_i s), (4, ov_i w)]) (st2 := [ov_i y, ov_i x, ov_r 70]) (pc2 := 6) b_112_4_2 rfl rfl ?_
    refine ov_cV (as := [ov_i x, ov_i y]) (st := []) (d2 := d - 1) d_112_6 lk_OF_131 rfl (Nat.le_of_ble_eq_true rfl) (c := 9) (zb_70 I) (zs_70 I) ⟨by decide, rfl⟩ (by omega) (c_Town_corner_70 (d - 1) (by omega) U I x y (by omega) (by omega)) ?_
    rintro _ _ _ ⟨v30, rfl, rfl, rfl, f29⟩
    show ov_R u d ov_m112 9 [(0, ov_r 0), (1, ov_i x), (2, ov_i y), (3, ov_i s), (4, ov_i w)] [ov_i v30] z h (P_OF_soonest_0 z h x y s w)
    have f31 : v30 = -1 ∨ (0 ≤ x ∧ x < (h 70 0) ∧ 0 ≤ y ∧ y < (h 70 1) ∧ v30 = y * 6 + x ∧ (h 70 0) ≤ 6 ∧ (h 70 1) ≤ 9) := f29
    clear f29
    refine ov_blk (ls2 := [(0, ov_r 0), (1, ov_i x), (2, ov_i y), (3, ov_i s), (4, ov_i w), (5, ov_i v30)]) (st2 := [ov_i (-1), ov_i v30]) (pc2 := 14) b_112_9_3 rfl rfl ?_
    refine ov_iceq (tgt := 37) d_112_14 (by decide) (by omega) (by omega) (fun c32 => ?_) (fun c32 => ?_)
    · skip
      refine ov_blk (ls2 := [(0, ov_r 0), (1, ov_i x), (2, ov_i y), (3, ov_i s), (4, ov_i w), (5, ov_i v30)]) (st2 := [ov_i (-2)]) (pc2 := 39) b_112_37_1 rfl rfl ?_
      exact ov_reti (st := []) d_112_39 rfl ⟨_, rfl, I, (by show (h 36 7) = (h 36 7) ∧ (h 1 1) = (h 1 1) ∧ (h 90 2) = (h 90 2) ∧ (h 0 10) = (h 0 10) ∧ (h 0 11) = (h 0 11) ∧ (h 0 12) = (h 0 12) ∧ (h 0 13) = (h 0 13) ∧ (h 3 1) = (h 3 1) ∧ (h 36 8) = (h 36 8) ∧ (h 46 4) = (h 46 4) ∧ (h 49 4) = (h 49 4) ∧ (h 49 5) = (h 49 5); omega)⟩
    · skip
      refine ov_blk (ls2 := [(0, ov_r 0), (1, ov_i x), (2, ov_i y), (3, ov_i s), (4, ov_i w), (5, ov_i v30)]) (st2 := [ov_i s]) (pc2 := 18) b_112_17_1 rfl rfl ?_
      refine ov_cS (as := [ov_i s]) (st := []) (d2 := d - 1) d_112_18 lk_OF_155 rfl (Nat.le_of_ble_eq_true rfl) (by omega) (c_OF_isSecond (d - 1) (by omega) U I s (by omega)) ?_
      rintro _ _ _ ⟨v34, rfl, rfl, rfl, f33⟩
      show ov_R u d ov_m112 21 [(0, ov_r 0), (1, ov_i x), (2, ov_i y), (3, ov_i s), (4, ov_i w), (5, ov_i v30)] [ov_i v34] z h (P_OF_soonest_0 z h x y s w)
      have f35 : (v34 = 0 ∨ v34 = 1) ∧ (v34 = 1 → 0 ≤ s ∧ s ≤ 1000000) := f33
      clear f33
      refine ov_ifeq (tgt := 37) d_112_21 (by decide) (by omega) (fun c36 => ?_) (fun c36 => ?_)
      · skip
        refine ov_blk (ls2 := [(0, ov_r 0), (1, ov_i x), (2, ov_i y), (3, ov_i s), (4, ov_i w), (5, ov_i v30)]) (st2 := [ov_i (-2)]) (pc2 := 39) b_112_37_1 rfl rfl ?_
        exact ov_reti (st := []) d_112_39 rfl ⟨_, rfl, I, (by show (h 36 7) = (h 36 7) ∧ (h 1 1) = (h 1 1) ∧ (h 90 2) = (h 90 2) ∧ (h 0 10) = (h 0 10) ∧ (h 0 11) = (h 0 11) ∧ (h 0 12) = (h 0 12) ∧ (h 0 13) = (h 0 13) ∧ (h 3 1) = (h 3 1) ∧ (h 36 8) = (h 36 8) ∧ (h 46 4) = (h 46 4) ∧ (h 49 4) = (h 49 4) ∧ (h 49 5) = (h 49 5); omega)⟩
      · skip
        refine ov_blk (ls2 := [(0, ov_r 0), (1, ov_i x), (2, ov_i y), (3, ov_i s), (4, ov_i w), (5, ov_i v30)]) (st2 := [ov_i (-1), ov_i w]) (pc2 := 27) b_112_24_2 rfl rfl ?_
        refine ov_iclt (tgt := 37) d_112_27 (by decide) (by omega) (by omega) (fun c37 => ?_) (fun c37 => ?_)
        · skip
          refine ov_blk (ls2 := [(0, ov_r 0), (1, ov_i x), (2, ov_i y), (3, ov_i s), (4, ov_i w), (5, ov_i v30)]) (st2 := [ov_i (-2)]) (pc2 := 39) b_112_37_1 rfl rfl ?_
          exact ov_reti (st := []) d_112_39 rfl ⟨_, rfl, I, (by show (h 36 7) = (h 36 7) ∧ (h 1 1) = (h 1 1) ∧ (h 90 2) = (h 90 2) ∧ (h 0 10) = (h 0 10) ∧ (h 0 11) = (h 0 11) ∧ (h 0 12) = (h 0 12) ∧ (h 0 13) = (h 0 13) ∧ (h 3 1) = (h 3 1) ∧ (h 36 8) = (h 36 8) ∧ (h 46 4) = (h 46 4) ∧ (h 49 4) = (h 49 4) ∧ (h 49 5) = (h 49 5); omega)⟩
        · skip
          refine ov_blk (ls2 := [(0, ov_r 0), (1, ov_i x), (2, ov_i y), (3, ov_i s), (4, ov_i w), (5, ov_i v30)]) (st2 := [ov_i 13, ov_i w]) (pc2 := 34) b_112_30_2 rfl rfl ?_
          refine ov_iclt (tgt := 40) d_112_34 (by decide) (by omega) (by omega) (fun c38 => ?_) (fun c38 => ?_)
          · skip
            refine ov_blk (ls2 := [(0, ov_r 0), (1, ov_i x), (2, ov_i y), (3, ov_i s), (4, ov_i w), (5, ov_i v30)]) (st2 := [ov_i (-1), ov_i w]) (pc2 := 43) b_112_40_2 rfl rfl ?_
            refine ov_iceq (tgt := 63) d_112_43 (by decide) (by omega) (by omega) (fun c39 => ?_) (fun c39 => ?_)
            · skip
              refine ov_blk (ls2 := [(0, ov_r 0), (1, ov_i x), (2, ov_i y), (3, ov_i s), (4, ov_i w), (5, ov_i v30)]) (st2 := [ov_r 0]) (pc2 := 64) b_112_63_1 rfl rfl ?_
              refine ov_getf (v := ov_r 46) d_112_64 fl_OF_57 (zb_0 I) (zs_0 I) (congrArg ov_r (rg_0_7 I)) ?_
              refine ov_blk (ls2 := [(0, ov_r 0), (1, ov_i x), (2, ov_i y), (3, ov_i s), (4, ov_i w), (5, ov_i v30)]) (st2 := [ov_r 0, ov_r 46]) (pc2 := 68) b_112_67_1 rfl rfl ?_
              refine ov_getf (v := ov_r 70) d_112_68 fl_OF_78 (zb_0 I) (zs_0 I) (congrArg ov_r e1) ?_
              refine ov_blk (ls2 := [(0, ov_r 0), (1, ov_i x), (2, ov_i y), (3, ov_i s), (4, ov_i w), (5, ov_i v30)]) (st2 := [ov_i s, ov_i v30, ov_r 70, ov_r 46]) (pc2 := 74) b_112_71_2 rfl rfl ?_
              refine ov_cV (as := [ov_r 70, ov_i v30, ov_i s]) (st := []) (d2 := d - 1) d_112_74 lk_OF_207 rfl (Nat.le_of_ble_eq_true rfl) (c := 12) (zb_46 I) (zs_46 I) ⟨by decide, rfl⟩ (by omega) (c_Ways_arrival_46_70 (d - 1) (by omega) U I v30 s (by omega) (by omega) (by omega)) ?_
              rintro _ z42 h43 ⟨v41, rfl, I44, f40⟩
              show ov_R u d ov_m112 77 [(0, ov_r 0), (1, ov_i x), (2, ov_i y), (3, ov_i s), (4, ov_i w), (5, ov_i v30)] [ov_i v41] z42 h43 (P_OF_soonest_0 z h x y s w)
              have f45 : -2147483648 ≤ v41 ∧ v41 ≤ 2147483647 ∧ (h43 46 3) = 70 ∧ (h43 36 7) = (h 36 7) ∧ (h43 1 1) = (h 1 1) ∧ (h43 90 2) = (h 90 2) ∧ (h43 0 10) = (h 0 10) ∧ (h43 0 11) = (h 0 11) ∧ (h43 0 12) = (h 0 12) ∧ (h43 0 13) = (h 0 13) ∧ (h43 3 1) = (h 3 1) ∧ (h43 36 8) = (h 36 8) ∧ (h43 46 4) = (h 46 4) ∧ (h43 49 4) = (h 49 4) ∧ (h43 49 5) = (h 49 5) := f40
              clear f40
              have e46 : h43 0 10 = 70 := by omega
              have e47 : h43 46 3 = 70 := by omega
              refine ov_blk (ls2 := [(0, ov_r 0), (1, ov_i x), (2, ov_i y), (3, ov_i s), (4, ov_i w), (5, ov_i v30), (6, ov_i v41)]) (st2 := [ov_i (-1), ov_i v41]) (pc2 := 82) b_112_77_3 rfl rfl ?_
              refine ov_icne (tgt := 90) d_112_82 (by decide) (by omega) (by omega) (fun c48 => ?_) (fun c48 => ?_)
              · skip
                refine ov_blk (ls2 := [(0, ov_r 0), (1, ov_i x), (2, ov_i y), (3, ov_i s), (4, ov_i w), (5, ov_i v30), (6, ov_i v41)]) (st2 := [ov_i v41]) (pc2 := 92) b_112_90_1 rfl rfl ?_
                exact ov_reti (st := []) d_112_92 rfl ⟨_, rfl, I44, (by show (h43 36 7) = (h 36 7) ∧ (h43 1 1) = (h 1 1) ∧ (h43 90 2) = (h 90 2) ∧ (h43 0 10) = (h 0 10) ∧ (h43 0 11) = (h 0 11) ∧ (h43 0 12) = (h 0 12) ∧ (h43 0 13) = (h 0 13) ∧ (h43 3 1) = (h 3 1) ∧ (h43 36 8) = (h 36 8) ∧ (h43 46 4) = (h 46 4) ∧ (h43 49 4) = (h 49 4) ∧ (h43 49 5) = (h 49 5); omega)⟩
              · skip
                refine ov_blk (ls2 := [(0, ov_r 0), (1, ov_i x), (2, ov_i y), (3, ov_i s), (4, ov_i w), (5, ov_i v30), (6, ov_i v41)]) (st2 := [ov_i (-2)]) (pc2 := 87) b_112_85_1 rfl rfl ?_
                refine ov_goto (tgt := 92) d_112_87 (by decide) ?_
                exact ov_reti (st := []) d_112_92 rfl ⟨_, rfl, I44, (by show (h43 36 7) = (h 36 7) ∧ (h43 1 1) = (h 1 1) ∧ (h43 90 2) = (h 90 2) ∧ (h43 0 10) = (h 0 10) ∧ (h43 0 11) = (h 0 11) ∧ (h43 0 12) = (h 0 12) ∧ (h43 0 13) = (h 0 13) ∧ (h43 3 1) = (h 3 1) ∧ (h43 36 8) = (h 36 8) ∧ (h43 46 4) = (h 46 4) ∧ (h43 49 4) = (h 49 4) ∧ (h43 49 5) = (h 49 5); omega)⟩
            · skip
              refine ov_blk (ls2 := [(0, ov_r 0), (1, ov_i x), (2, ov_i y), (3, ov_i s), (4, ov_i w), (5, ov_i v30)]) (st2 := [ov_r 0]) (pc2 := 47) b_112_46_1 rfl rfl ?_
              refine ov_getf (v := ov_r 46) d_112_47 fl_OF_57 (zb_0 I) (zs_0 I) (congrArg ov_r (rg_0_7 I)) ?_
              refine ov_blk (ls2 := [(0, ov_r 0), (1, ov_i x), (2, ov_i y), (3, ov_i s), (4, ov_i w), (5, ov_i v30)]) (st2 := [ov_r 0, ov_r 46]) (pc2 := 51) b_112_50_1 rfl rfl ?_
              refine ov_getf (v := ov_r 70) d_112_51 fl_OF_78 (zb_0 I) (zs_0 I) (congrArg ov_r e1) ?_
              refine ov_blk (ls2 := [(0, ov_r 0), (1, ov_i x), (2, ov_i y), (3, ov_i s), (4, ov_i w), (5, ov_i v30)]) (st2 := [ov_i w, ov_i s, ov_i v30, ov_r 70, ov_r 46]) (pc2 := 59) b_112_54_3 rfl rfl ?_
              refine ov_cV (as := [ov_r 70, ov_i v30, ov_i s, ov_i w]) (st := []) (d2 := d - 1) d_112_59 lk_OF_203 rfl (Nat.le_of_ble_eq_true rfl) (c := 12) (zb_46 I) (zs_46 I) ⟨by decide, rfl⟩ (by omega) (c_Ways_soonestWay_46_70 (d - 1) (by omega) U I v30 s w (by omega) (by omega) (by omega) (by omega)) ?_
              rintro _ z51 h52 ⟨v50, rfl, I53, f49⟩
              show ov_R u d ov_m112 62 [(0, ov_r 0), (1, ov_i x), (2, ov_i y), (3, ov_i s), (4, ov_i w), (5, ov_i v30)] [ov_i v50] z51 h52 (P_OF_soonest_0 z h x y s w)
              have f54 : -2 ≤ v50 ∧ v50 ≤ 1 ∧ (h52 36 7) = (h 36 7) ∧ (h52 1 1) = (h 1 1) ∧ (h52 90 2) = (h 90 2) ∧ (h52 0 10) = (h 0 10) ∧ (h52 0 11) = (h 0 11) ∧ (h52 0 12) = (h 0 12) ∧ (h52 0 13) = (h 0 13) ∧ (h52 3 1) = (h 3 1) ∧ (h52 36 8) = (h 36 8) ∧ (h52 46 4) = (h 46 4) ∧ (h52 49 4) = (h 49 4) ∧ (h52 49 5) = (h 49 5) := f49
              clear f49
              have e55 : h52 0 10 = 70 := by omega
              exact ov_reti (st := []) d_112_62 rfl ⟨_, rfl, I53, (by show (h52 36 7) = (h 36 7) ∧ (h52 1 1) = (h 1 1) ∧ (h52 90 2) = (h 90 2) ∧ (h52 0 10) = (h 0 10) ∧ (h52 0 11) = (h 0 11) ∧ (h52 0 12) = (h 0 12) ∧ (h52 0 13) = (h 0 13) ∧ (h52 3 1) = (h 3 1) ∧ (h52 36 8) = (h 36 8) ∧ (h52 46 4) = (h 46 4) ∧ (h52 49 4) = (h 49 4) ∧ (h52 49 5) = (h 49 5); omega)⟩
          · skip
            refine ov_blk (ls2 := [(0, ov_r 0), (1, ov_i x), (2, ov_i y), (3, ov_i s), (4, ov_i w), (5, ov_i v30)]) (st2 := [ov_i (-2)]) (pc2 := 39) b_112_37_1 rfl rfl ?_
            exact ov_reti (st := []) d_112_39 rfl ⟨_, rfl, I, (by show (h 36 7) = (h 36 7) ∧ (h 1 1) = (h 1 1) ∧ (h 90 2) = (h 90 2) ∧ (h 0 10) = (h 0 10) ∧ (h 0 11) = (h 0 11) ∧ (h 0 12) = (h 0 12) ∧ (h 0 13) = (h 0 13) ∧ (h 3 1) = (h 3 1) ∧ (h 36 8) = (h 36 8) ∧ (h 46 4) = (h 46 4) ∧ (h 49 4) = (h 49 4) ∧ (h 49 5) = (h 49 5); omega)⟩
abbrev P_OF_reckoned_0 (z : ov_Z) (h : ov_H) (g : Int) (c : Int) (s : Int) (w : Int) : Option ov_V → ov_Z → ov_H → Prop := fun r0 z' h' => ∃ r : Int, r0 = some (ov_i r) ∧ ov_I z' h' ∧ (-2147483648 ≤ r ∧ r ≤ 2147483647 ∧ (h' 36 7 = 1 → ¬ h' 36 8 = -1) ∧ (¬ r = -1 → ¬ h' 36 8 = -1) ∧ h' 1 1 = h 1 1 ∧ h' 90 2 = h 90 2 ∧ h' 0 10 = h 0 10 ∧ h' 0 11 = h 0 11 ∧ h' 0 12 = h 0 12 ∧ h' 0 13 = h 0 13 ∧ h' 3 1 = h 3 1 ∧ h' 46 3 = h 46 3 ∧ h' 46 4 = h 46 4 ∧ h' 49 4 = h 49 4 ∧ h' 49 5 = h 49 5)
set_option maxHeartbeats 4000000 in
theorem c_OF_reckoned_0 {u : ov_U} {z : ov_Z} {h : ov_H} (d : Nat) (hd : 300 ≤ d) (U : ov_cap u) (I : ov_I z h) (g : Int) (c : Int) (s : Int) (w : Int) (g_g : ov_g g) (g_c : ov_g c) (g_s : ov_g s) (g_w : w = 0 ∨ w = 1) (p0 : -1 ≤ c ∧ c ≤ 53) (p1 : h 36 7 = 1 → ¬ h 36 8 = -1) : ov_T u d ov_m121 [ov_r 0, ov_i g, ov_i c, ov_i s, ov_i w] z h (P_OF_reckoned_0 z h g c s w) := by
  refine ov_en rfl (Nat.le_of_ble_eq_true rfl) ?_
  show ov_R u d ov_m121 0 [(0, ov_r 0), (1, ov_i g), (2, ov_i c), (3, ov_i s), (4, ov_i w)] [] z h (P_OF_reckoned_0 z h g c s w)
  refine ov_blk (ls2 := [(0, ov_r 0), (1, ov_i g), (2, ov_i c), (3, ov_i s), (4, ov_i w)]) (st2 := [ov_i (-1), ov_i c]) (pc2 := 2) b_121_0_2 rfl rfl ?_
  refine ov_iceq (tgt := 20) d_121_2 (by decide) (by omega) (by omega) (fun c1 => ?_) (fun c1 => ?_)
  · skip
    refine ov_blk (ls2 := [(0, ov_r 0), (1, ov_i g), (2, ov_i c), (3, ov_i s), (4, ov_i w)]) (st2 := [ov_i (-1)]) (pc2 := 21) b_121_20_1 rfl rfl ?_
    exact ov_reti (st := []) d_121_21 rfl ⟨_, rfl, I, (by show -2147483648 ≤ (-1) ∧ (-1) ≤ 2147483647 ∧ ((h 36 7) = 1 → ¬ (h 36 8) = -1) ∧ (¬ (-1) = -1 → ¬ (h 36 8) = -1) ∧ (h 1 1) = (h 1 1) ∧ (h 90 2) = (h 90 2) ∧ (h 0 10) = (h 0 10) ∧ (h 0 11) = (h 0 11) ∧ (h 0 12) = (h 0 12) ∧ (h 0 13) = (h 0 13) ∧ (h 3 1) = (h 3 1) ∧ (h 46 3) = (h 46 3) ∧ (h 46 4) = (h 46 4) ∧ (h 49 4) = (h 49 4) ∧ (h 49 5) = (h 49 5); omega)⟩
  · skip
    refine ov_blk (ls2 := [(0, ov_r 0), (1, ov_i g), (2, ov_i c), (3, ov_i s), (4, ov_i w)]) (st2 := [ov_i g, ov_r 0]) (pc2 := 7) b_121_5_2 rfl rfl ?_
    refine ov_cV (as := [ov_i g]) (st := []) (d2 := d - 1) d_121_7 lk_OF_215 rfl (Nat.le_of_ble_eq_true rfl) (c := 0) (zb_0 I) (zs_0 I) ⟨by decide, rfl⟩ (by omega) (c_OF_isGoer_0 (d - 1) (by omega) U I g (by omega)) ?_
    rintro _ _ _ ⟨v3, rfl, rfl, rfl, f2⟩
    show ov_R u d ov_m121 10 [(0, ov_r 0), (1, ov_i g), (2, ov_i c), (3, ov_i s), (4, ov_i w)] [ov_i v3] z h (P_OF_reckoned_0 z h g c s w)
    have f4 : (v3 = 0 ∨ v3 = 1) ∧ (v3 = 1 → 0 ≤ g ∧ g ≤ 7) := f2
    clear f2
    refine ov_ifeq (tgt := 20) d_121_10 (by decide) (by omega) (fun c5 => ?_) (fun c5 => ?_)
    · skip
      refine ov_blk (ls2 := [(0, ov_r 0), (1, ov_i g), (2, ov_i c), (3, ov_i s), (4, ov_i w)]) (st2 := [ov_i (-1)]) (pc2 := 21) b_121_20_1 rfl rfl ?_
      exact ov_reti (st := []) d_121_21 rfl ⟨_, rfl, I, (by show -2147483648 ≤ (-1) ∧ (-1) ≤ 2147483647 ∧ ((h 36 7) = 1 → ¬ (h 36 8) = -1) ∧ (¬ (-1) = -1 → ¬ (h 36 8) = -1) ∧ (h 1 1) = (h 1 1) ∧ (h 90 2) = (h 90 2) ∧ (h 0 10) = (h 0 10) ∧ (h 0 11) = (h 0 11) ∧ (h 0 12) = (h 0 12) ∧ (h 0 13) = (h 0 13) ∧ (h 3 1) = (h 3 1) ∧ (h 46 3) = (h 46 3) ∧ (h 46 4) = (h 46 4) ∧ (h 49 4) = (h 49 4) ∧ (h 49 5) = (h 49 5); omega)⟩
    · skip
      refine ov_blk (ls2 := [(0, ov_r 0), (1, ov_i g), (2, ov_i c), (3, ov_i s), (4, ov_i w)]) (st2 := [ov_i s]) (pc2 := 14) b_121_13_1 rfl rfl ?_
      refine ov_cS (as := [ov_i s]) (st := []) (d2 := d - 1) d_121_14 lk_OF_155 rfl (Nat.le_of_ble_eq_true rfl) (by omega) (c_OF_isSecond (d - 1) (by omega) U I s (by omega)) ?_
      rintro _ _ _ ⟨v7, rfl, rfl, rfl, f6⟩
      show ov_R u d ov_m121 17 [(0, ov_r 0), (1, ov_i g), (2, ov_i c), (3, ov_i s), (4, ov_i w)] [ov_i v7] z h (P_OF_reckoned_0 z h g c s w)
      have f8 : (v7 = 0 ∨ v7 = 1) ∧ (v7 = 1 → 0 ≤ s ∧ s ≤ 1000000) := f6
      clear f6
      refine ov_ifne (tgt := 22) d_121_17 (by decide) (by omega) (fun c9 => ?_) (fun c9 => ?_)
      · skip
        refine ov_blk (ls2 := [(0, ov_r 0), (1, ov_i g), (2, ov_i c), (3, ov_i s), (4, ov_i w)]) (st2 := [ov_r 0]) (pc2 := 23) b_121_22_1 rfl rfl ?_
        refine ov_getf (v := ov_r 36) d_121_23 fl_OF_50 (zb_0 I) (zs_0 I) (congrArg ov_r (rg_0_6 I)) ?_
        refine ov_blk (ls2 := [(0, ov_r 0), (1, ov_i g), (2, ov_i c), (3, ov_i s), (4, ov_i w)]) (st2 := [ov_r 0, ov_r 36]) (pc2 := 27) b_121_26_1 rfl rfl ?_
        rcases rg_0_10 I with e10 | e10
        · skip
          refine ov_getf (v := ov_r 58) d_121_27 fl_OF_78 (zb_0 I) (zs_0 I) (congrArg ov_r e10) ?_
          refine ov_blk (ls2 := [(0, ov_r 0), (1, ov_i g), (2, ov_i c), (3, ov_i s), (4, ov_i w)]) (st2 := [ov_r 0, ov_r 58, ov_r 36]) (pc2 := 31) b_121_30_1 rfl rfl ?_
          refine ov_getf (v := ov_r 4) d_121_31 fl_OF_28 (zb_0 I) (zs_0 I) (congrArg ov_r (rg_0_2 I)) ?_
          refine ov_getf (v := ov_l (h 4 3)) d_121_34 fl_OF_192 (zb_4 I) (zs_4 I) rfl ?_
          refine ov_blk (ls2 := [(0, ov_r 0), (1, ov_i g), (2, ov_i c), (3, ov_i s), (4, ov_i w)]) (st2 := [ov_i w, ov_i g, ov_l (h 4 3), ov_r 58, ov_r 36]) (pc2 := 40) b_121_37_2 rfl rfl ?_
          refine ov_cV (as := [ov_r 58, ov_l (h 4 3), ov_i g, ov_i w]) (st := []) (d2 := d - 1) d_121_40 lk_OF_218 rfl (Nat.le_of_ble_eq_true rfl) (c := 2) (zb_36 I) (zs_36 I) ⟨by decide, rfl⟩ (by omega) (c_Goers_ask_36_58 (d - 1) (by omega) U I (h 4 3) g w (by omega) (by omega) (by omega)) ?_
          rintro _ z12 h13 ⟨rfl, I14, f11⟩
          show ov_R u d ov_m121 43 [(0, ov_r 0), (1, ov_i g), (2, ov_i c), (3, ov_i s), (4, ov_i w)] [] z12 h13 (P_OF_reckoned_0 z h g c s w)
          have f15 : ((h13 36 8) = 58 ∨ (h13 36 8) = 70) ∧ (h13 36 7) = 1 ∧ (h13 1 1) = (h 1 1) ∧ (h13 90 2) = (h 90 2) ∧ (h13 0 10) = (h 0 10) ∧ (h13 0 11) = (h 0 11) ∧ (h13 0 12) = (h 0 12) ∧ (h13 0 13) = (h 0 13) ∧ (h13 3 1) = (h 3 1) ∧ (h13 46 3) = (h 46 3) ∧ (h13 46 4) = (h 46 4) ∧ (h13 49 4) = (h 49 4) ∧ (h13 49 5) = (h 49 5) := f11
          clear f11
          have e16 : h13 0 10 = 58 := by omega
          refine ov_blk (ls2 := [(0, ov_r 0), (1, ov_i g), (2, ov_i c), (3, ov_i s), (4, ov_i w)]) (st2 := [ov_r 0]) (pc2 := 44) b_121_43_1 rfl rfl ?_
          refine ov_getf (v := ov_r 36) d_121_44 fl_OF_50 (zb_0 I14) (zs_0 I14) (congrArg ov_r (rg_0_6 I14)) ?_
          refine ov_blk (ls2 := [(0, ov_r 0), (1, ov_i g), (2, ov_i c), (3, ov_i s), (4, ov_i w)]) (st2 := [ov_i s, ov_i c, ov_r 36]) (pc2 := 49) b_121_47_2 rfl rfl ?_
          rcases rg_36_8 I14 with e17 | e17 | e17
          · omega
          · skip
            refine ov_cV (as := [ov_i c, ov_i s]) (st := []) (d2 := d - 1) d_121_49 lk_OF_222 rfl (Nat.le_of_ble_eq_true rfl) (c := 2) (zb_36 I14) (zs_36 I14) ⟨by decide, rfl⟩ (by omega) (c_Goers_valueAt_36_k36_8_58_all (53 - (c)).toNat (d - 1) (by omega) U I14 c s e17 (by omega) (by omega) (by omega)) ?_
            rintro _ z20 h21 ⟨v19, rfl, I22, f18⟩
            show ov_R u d ov_m121 52 [(0, ov_r 0), (1, ov_i g), (2, ov_i c), (3, ov_i s), (4, ov_i w)] [ov_i v19] z20 h21 (P_OF_reckoned_0 z h g c s w)
            have f23 : -2147483648 ≤ v19 ∧ v19 ≤ 2147483647 ∧ (h21 36 7) = (h13 36 7) ∧ (h21 1 1) = (h13 1 1) ∧ (h21 90 2) = (h13 90 2) ∧ (h21 0 10) = (h13 0 10) ∧ (h21 0 11) = (h13 0 11) ∧ (h21 0 12) = (h13 0 12) ∧ (h21 0 13) = (h13 0 13) ∧ (h21 3 1) = (h13 3 1) ∧ (h21 36 8) = (h13 36 8) ∧ (h21 46 3) = (h13 46 3) ∧ (h21 46 4) = (h13 46 4) ∧ (h21 49 4) = (h13 49 4) ∧ (h21 49 5) = (h13 49 5) := f18
            clear f18
            have e24 : h21 0 10 = 58 := by omega
            have e25 : h21 36 8 = 58 := by omega
            exact ov_reti (st := []) d_121_52 rfl ⟨_, rfl, I22, (by show -2147483648 ≤ v19 ∧ v19 ≤ 2147483647 ∧ ((h21 36 7) = 1 → ¬ (h21 36 8) = -1) ∧ (¬ v19 = -1 → ¬ (h21 36 8) = -1) ∧ (h21 1 1) = (h 1 1) ∧ (h21 90 2) = (h 90 2) ∧ (h21 0 10) = (h 0 10) ∧ (h21 0 11) = (h 0 11) ∧ (h21 0 12) = (h 0 12) ∧ (h21 0 13) = (h 0 13) ∧ (h21 3 1) = (h 3 1) ∧ (h21 46 3) = (h 46 3) ∧ (h21 46 4) = (h 46 4) ∧ (h21 49 4) = (h 49 4) ∧ (h21 49 5) = (h 49 5); omega)⟩
          · skip
            refine ov_cV (as := [ov_i c, ov_i s]) (st := []) (d2 := d - 1) d_121_49 lk_OF_222 rfl (Nat.le_of_ble_eq_true rfl) (c := 2) (zb_36 I14) (zs_36 I14) ⟨by decide, rfl⟩ (by omega) (c_Goers_valueAt_36_k36_8_70_all (53 - (c)).toNat (d - 1) (by omega) U I14 c s e17 (by omega) (by omega) (by omega)) ?_
            rintro _ z28 h29 ⟨v27, rfl, I30, f26⟩
            show ov_R u d ov_m121 52 [(0, ov_r 0), (1, ov_i g), (2, ov_i c), (3, ov_i s), (4, ov_i w)] [ov_i v27] z28 h29 (P_OF_reckoned_0 z h g c s w)
            have f31 : -2147483648 ≤ v27 ∧ v27 ≤ 2147483647 ∧ (h29 36 7) = (h13 36 7) ∧ (h29 1 1) = (h13 1 1) ∧ (h29 90 2) = (h13 90 2) ∧ (h29 0 10) = (h13 0 10) ∧ (h29 0 11) = (h13 0 11) ∧ (h29 0 12) = (h13 0 12) ∧ (h29 0 13) = (h13 0 13) ∧ (h29 3 1) = (h13 3 1) ∧ (h29 36 8) = (h13 36 8) ∧ (h29 46 3) = (h13 46 3) ∧ (h29 46 4) = (h13 46 4) ∧ (h29 49 4) = (h13 49 4) ∧ (h29 49 5) = (h13 49 5) := f26
            clear f26
            have e32 : h29 0 10 = 58 := by omega
            have e33 : h29 36 8 = 70 := by omega
            exact ov_reti (st := []) d_121_52 rfl ⟨_, rfl, I30, (by show -2147483648 ≤ v27 ∧ v27 ≤ 2147483647 ∧ ((h29 36 7) = 1 → ¬ (h29 36 8) = -1) ∧ (¬ v27 = -1 → ¬ (h29 36 8) = -1) ∧ (h29 1 1) = (h 1 1) ∧ (h29 90 2) = (h 90 2) ∧ (h29 0 10) = (h 0 10) ∧ (h29 0 11) = (h 0 11) ∧ (h29 0 12) = (h 0 12) ∧ (h29 0 13) = (h 0 13) ∧ (h29 3 1) = (h 3 1) ∧ (h29 46 3) = (h 46 3) ∧ (h29 46 4) = (h 46 4) ∧ (h29 49 4) = (h 49 4) ∧ (h29 49 5) = (h 49 5); omega)⟩
        · skip
          refine ov_getf (v := ov_r 70) d_121_27 fl_OF_78 (zb_0 I) (zs_0 I) (congrArg ov_r e10) ?_
          refine ov_blk (ls2 := [(0, ov_r 0), (1, ov_i g), (2, ov_i c), (3, ov_i s), (4, ov_i w)]) (st2 := [ov_r 0, ov_r 70, ov_r 36]) (pc2 := 31) b_121_30_1 rfl rfl ?_
          refine ov_getf (v := ov_r 4) d_121_31 fl_OF_28 (zb_0 I) (zs_0 I) (congrArg ov_r (rg_0_2 I)) ?_
          refine ov_getf (v := ov_l (h 4 3)) d_121_34 fl_OF_192 (zb_4 I) (zs_4 I) rfl ?_
          refine ov_blk (ls2 := [(0, ov_r 0), (1, ov_i g), (2, ov_i c), (3, ov_i s), (4, ov_i w)]) (st2 := [ov_i w, ov_i g, ov_l (h 4 3), ov_r 70, ov_r 36]) (pc2 := 40) b_121_37_2 rfl rfl ?_
          refine ov_cV (as := [ov_r 70, ov_l (h 4 3), ov_i g, ov_i w]) (st := []) (d2 := d - 1) d_121_40 lk_OF_218 rfl (Nat.le_of_ble_eq_true rfl) (c := 2) (zb_36 I) (zs_36 I) ⟨by decide, rfl⟩ (by omega) (c_Goers_ask_36_70 (d - 1) (by omega) U I (h 4 3) g w (by omega) (by omega) (by omega)) ?_
          rintro _ z35 h36 ⟨rfl, I37, f34⟩
          show ov_R u d ov_m121 43 [(0, ov_r 0), (1, ov_i g), (2, ov_i c), (3, ov_i s), (4, ov_i w)] [] z35 h36 (P_OF_reckoned_0 z h g c s w)
          have f38 : ((h36 36 8) = 58 ∨ (h36 36 8) = 70) ∧ (h36 36 7) = 1 ∧ (h36 1 1) = (h 1 1) ∧ (h36 90 2) = (h 90 2) ∧ (h36 0 10) = (h 0 10) ∧ (h36 0 11) = (h 0 11) ∧ (h36 0 12) = (h 0 12) ∧ (h36 0 13) = (h 0 13) ∧ (h36 3 1) = (h 3 1) ∧ (h36 46 3) = (h 46 3) ∧ (h36 46 4) = (h 46 4) ∧ (h36 49 4) = (h 49 4) ∧ (h36 49 5) = (h 49 5) := f34
          clear f34
          have e39 : h36 0 10 = 70 := by omega
          refine ov_blk (ls2 := [(0, ov_r 0), (1, ov_i g), (2, ov_i c), (3, ov_i s), (4, ov_i w)]) (st2 := [ov_r 0]) (pc2 := 44) b_121_43_1 rfl rfl ?_
          refine ov_getf (v := ov_r 36) d_121_44 fl_OF_50 (zb_0 I37) (zs_0 I37) (congrArg ov_r (rg_0_6 I37)) ?_
          refine ov_blk (ls2 := [(0, ov_r 0), (1, ov_i g), (2, ov_i c), (3, ov_i s), (4, ov_i w)]) (st2 := [ov_i s, ov_i c, ov_r 36]) (pc2 := 49) b_121_47_2 rfl rfl ?_
          rcases rg_36_8 I37 with e40 | e40 | e40
          · omega
          · skip
            refine ov_cV (as := [ov_i c, ov_i s]) (st := []) (d2 := d - 1) d_121_49 lk_OF_222 rfl (Nat.le_of_ble_eq_true rfl) (c := 2) (zb_36 I37) (zs_36 I37) ⟨by decide, rfl⟩ (by omega) (c_Goers_valueAt_36_k36_8_58_all (53 - (c)).toNat (d - 1) (by omega) U I37 c s e40 (by omega) (by omega) (by omega)) ?_
            rintro _ z43 h44 ⟨v42, rfl, I45, f41⟩
            show ov_R u d ov_m121 52 [(0, ov_r 0), (1, ov_i g), (2, ov_i c), (3, ov_i s), (4, ov_i w)] [ov_i v42] z43 h44 (P_OF_reckoned_0 z h g c s w)
            have f46 : -2147483648 ≤ v42 ∧ v42 ≤ 2147483647 ∧ (h44 36 7) = (h36 36 7) ∧ (h44 1 1) = (h36 1 1) ∧ (h44 90 2) = (h36 90 2) ∧ (h44 0 10) = (h36 0 10) ∧ (h44 0 11) = (h36 0 11) ∧ (h44 0 12) = (h36 0 12) ∧ (h44 0 13) = (h36 0 13) ∧ (h44 3 1) = (h36 3 1) ∧ (h44 36 8) = (h36 36 8) ∧ (h44 46 3) = (h36 46 3) ∧ (h44 46 4) = (h36 46 4) ∧ (h44 49 4) = (h36 49 4) ∧ (h44 49 5) = (h36 49 5) := f41
            clear f41
            have e47 : h44 0 10 = 70 := by omega
            have e48 : h44 36 8 = 58 := by omega
            exact ov_reti (st := []) d_121_52 rfl ⟨_, rfl, I45, (by show -2147483648 ≤ v42 ∧ v42 ≤ 2147483647 ∧ ((h44 36 7) = 1 → ¬ (h44 36 8) = -1) ∧ (¬ v42 = -1 → ¬ (h44 36 8) = -1) ∧ (h44 1 1) = (h 1 1) ∧ (h44 90 2) = (h 90 2) ∧ (h44 0 10) = (h 0 10) ∧ (h44 0 11) = (h 0 11) ∧ (h44 0 12) = (h 0 12) ∧ (h44 0 13) = (h 0 13) ∧ (h44 3 1) = (h 3 1) ∧ (h44 46 3) = (h 46 3) ∧ (h44 46 4) = (h 46 4) ∧ (h44 49 4) = (h 49 4) ∧ (h44 49 5) = (h 49 5); omega)⟩
          · skip
            refine ov_cV (as := [ov_i c, ov_i s]) (st := []) (d2 := d - 1) d_121_49 lk_OF_222 rfl (Nat.le_of_ble_eq_true rfl) (c := 2) (zb_36 I37) (zs_36 I37) ⟨by decide, rfl⟩ (by omega) (c_Goers_valueAt_36_k36_8_70_all (53 - (c)).toNat (d - 1) (by omega) U I37 c s e40 (by omega) (by omega) (by omega)) ?_
            rintro _ z51 h52 ⟨v50, rfl, I53, f49⟩
            show ov_R u d ov_m121 52 [(0, ov_r 0), (1, ov_i g), (2, ov_i c), (3, ov_i s), (4, ov_i w)] [ov_i v50] z51 h52 (P_OF_reckoned_0 z h g c s w)
            have f54 : -2147483648 ≤ v50 ∧ v50 ≤ 2147483647 ∧ (h52 36 7) = (h36 36 7) ∧ (h52 1 1) = (h36 1 1) ∧ (h52 90 2) = (h36 90 2) ∧ (h52 0 10) = (h36 0 10) ∧ (h52 0 11) = (h36 0 11) ∧ (h52 0 12) = (h36 0 12) ∧ (h52 0 13) = (h36 0 13) ∧ (h52 3 1) = (h36 3 1) ∧ (h52 36 8) = (h36 36 8) ∧ (h52 46 3) = (h36 46 3) ∧ (h52 46 4) = (h36 46 4) ∧ (h52 49 4) = (h36 49 4) ∧ (h52 49 5) = (h36 49 5) := f49
            clear f49
            have e55 : h52 0 10 = 70 := by omega
            have e56 : h52 36 8 = 70 := by omega
            exact ov_reti (st := []) d_121_52 rfl ⟨_, rfl, I53, (by show -2147483648 ≤ v50 ∧ v50 ≤ 2147483647 ∧ ((h52 36 7) = 1 → ¬ (h52 36 8) = -1) ∧ (¬ v50 = -1 → ¬ (h52 36 8) = -1) ∧ (h52 1 1) = (h 1 1) ∧ (h52 90 2) = (h 90 2) ∧ (h52 0 10) = (h 0 10) ∧ (h52 0 11) = (h 0 11) ∧ (h52 0 12) = (h 0 12) ∧ (h52 0 13) = (h 0 13) ∧ (h52 3 1) = (h 3 1) ∧ (h52 46 3) = (h 46 3) ∧ (h52 46 4) = (h 46 4) ∧ (h52 49 4) = (h 49 4) ∧ (h52 49 5) = (h 49 5); omega)⟩
      · skip
        refine ov_blk (ls2 := [(0, ov_r 0), (1, ov_i g), (2, ov_i c), (3, ov_i s), (4, ov_i w)]) (st2 := [ov_i (-1)]) (pc2 := 21) b_121_20_1 rfl rfl ?_
        exact ov_reti (st := []) d_121_21 rfl ⟨_, rfl, I, (by show -2147483648 ≤ (-1) ∧ (-1) ≤ 2147483647 ∧ ((h 36 7) = 1 → ¬ (h 36 8) = -1) ∧ (¬ (-1) = -1 → ¬ (h 36 8) = -1) ∧ (h 1 1) = (h 1 1) ∧ (h 90 2) = (h 90 2) ∧ (h 0 10) = (h 0 10) ∧ (h 0 11) = (h 0 11) ∧ (h 0 12) = (h 0 12) ∧ (h 0 13) = (h 0 13) ∧ (h 3 1) = (h 3 1) ∧ (h 46 3) = (h 46 3) ∧ (h 46 4) = (h 46 4) ∧ (h 49 4) = (h 49 4) ∧ (h 49 5) = (h 49 5); omega)⟩
abbrev P_OF_mean_0 (z : ov_Z) (h : ov_H) (g : Int) (x : Int) (y : Int) (s : Int) : Option ov_V → ov_Z → ov_H → Prop := fun r0 z' h' => ∃ r : Int, r0 = some (ov_i r) ∧ ov_I z' h' ∧ (-2147483648 ≤ r ∧ r ≤ 2147483647 ∧ (h' 36 7 = 1 → ¬ h' 36 8 = -1) ∧ h' 1 1 = h 1 1 ∧ h' 90 2 = h 90 2 ∧ h' 0 10 = h 0 10 ∧ h' 0 11 = h 0 11 ∧ h' 0 12 = h 0 12 ∧ h' 0 13 = h 0 13 ∧ h' 3 1 = h 3 1 ∧ h' 46 3 = h 46 3 ∧ h' 46 4 = h 46 4 ∧ h' 49 4 = h 49 4 ∧ h' 49 5 = h 49 5)
set_option maxHeartbeats 4000000 in
theorem c_OF_mean_0 {u : ov_U} {z : ov_Z} {h : ov_H} (d : Nat) (hd : 301 ≤ d) (U : ov_cap u) (I : ov_I z h) (g : Int) (x : Int) (y : Int) (s : Int) (g_g : ov_g g) (g_x : ov_g x) (g_y : ov_g y) (g_s : ov_g s) (p0 : h 36 7 = 1 → ¬ h 36 8 = -1) : ov_T u d ov_m120 [ov_r 0, ov_i g, ov_i x, ov_i y, ov_i s] z h (P_OF_mean_0 z h g x y s) := by
  refine ov_en rfl (Nat.le_of_ble_eq_true rfl) ?_
  show ov_R u d ov_m120 0 [(0, ov_r 0), (1, ov_i g), (2, ov_i x), (3, ov_i y), (4, ov_i s)] [] z h (P_OF_mean_0 z h g x y s)
  refine ov_blk (ls2 := [(0, ov_r 0), (1, ov_i g), (2, ov_i x), (3, ov_i y), (4, ov_i s)]) (st2 := [ov_r 0, ov_i g, ov_r 0]) (pc2 := 3) b_120_0_3 rfl rfl ?_
  rcases rg_0_10 I with e1 | e1
  · skip
    refine ov_getf (v := ov_r 58) d_120_3 fl_OF_78 (zb_0 I) (zs_0 I) (congrArg ov_r e1) ?_
    refine ov_blk (ls2 := [(0, ov_r 0), (1, ov_i g), (2, ov_i x), (3, ov_i y), (4, ov_i s)]) (st2 := [ov_i y, ov_i x, ov_r 58, ov_i g, ov_r 0]) (pc2 := 8) b_120_6_2 rfl rfl ?_
    refine ov_cV (as := [ov_i x, ov_i y]) (st := [ov_i g, ov_r 0]) (d2 := d - 1) d_120_8 lk_OF_131 rfl (Nat.le_of_ble_eq_true rfl) (c := 9) (zb_58 I) (zs_58 I) ⟨by decide, rfl⟩ (by omega) (c_Town_corner_58 (d - 1) (by omega) U I x y (by omega) (by omega)) ?_
    rintro _ _ _ ⟨v3, rfl, rfl, rfl, f2⟩
    show ov_R u d ov_m120 11 [(0, ov_r 0), (1, ov_i g), (2, ov_i x), (3, ov_i y), (4, ov_i s)] [ov_i v3, ov_i g, ov_r 0] z h (P_OF_mean_0 z h g x y s)
    have f4 : v3 = -1 ∨ (0 ≤ x ∧ x < (h 58 0) ∧ 0 ≤ y ∧ y < (h 58 1) ∧ v3 = y * 6 + x ∧ (h 58 0) ≤ 6 ∧ (h 58 1) ≤ 9) := f2
    clear f2
    refine ov_blk (ls2 := [(0, ov_r 0), (1, ov_i g), (2, ov_i x), (3, ov_i y), (4, ov_i s)]) (st2 := [ov_i 0, ov_i s, ov_i v3, ov_i g, ov_r 0]) (pc2 := 14) b_120_11_2 rfl rfl ?_
    refine ov_cV (as := [ov_i g, ov_i v3, ov_i s, ov_i 0]) (st := []) (d2 := d - 1) d_120_14 lk_OF_211 rfl (Nat.le_of_ble_eq_true rfl) (c := 0) (zb_0 I) (zs_0 I) ⟨by decide, rfl⟩ (by omega) (c_OF_reckoned_0 (d - 1) (by omega) U I g v3 s 0 (by omega) (by omega) (by omega) (by omega) (by omega) (by omega)) ?_
    rintro _ z7 h8 ⟨v6, rfl, I9, f5⟩
    show ov_R u d ov_m120 17 [(0, ov_r 0), (1, ov_i g), (2, ov_i x), (3, ov_i y), (4, ov_i s)] [ov_i v6] z7 h8 (P_OF_mean_0 z h g x y s)
    have f10 : -2147483648 ≤ v6 ∧ v6 ≤ 2147483647 ∧ ((h8 36 7) = 1 → ¬ (h8 36 8) = -1) ∧ (¬ v6 = -1 → ¬ (h8 36 8) = -1) ∧ (h8 1 1) = (h 1 1) ∧ (h8 90 2) = (h 90 2) ∧ (h8 0 10) = (h 0 10) ∧ (h8 0 11) = (h 0 11) ∧ (h8 0 12) = (h 0 12) ∧ (h8 0 13) = (h 0 13) ∧ (h8 3 1) = (h 3 1) ∧ (h8 46 3) = (h 46 3) ∧ (h8 46 4) = (h 46 4) ∧ (h8 49 4) = (h 49 4) ∧ (h8 49 5) = (h 49 5) := f5
    clear f5
    have e11 : h8 0 10 = 58 := by omega
    exact ov_reti (st := []) d_120_17 rfl ⟨_, rfl, I9, (by show -2147483648 ≤ v6 ∧ v6 ≤ 2147483647 ∧ ((h8 36 7) = 1 → ¬ (h8 36 8) = -1) ∧ (h8 1 1) = (h 1 1) ∧ (h8 90 2) = (h 90 2) ∧ (h8 0 10) = (h 0 10) ∧ (h8 0 11) = (h 0 11) ∧ (h8 0 12) = (h 0 12) ∧ (h8 0 13) = (h 0 13) ∧ (h8 3 1) = (h 3 1) ∧ (h8 46 3) = (h 46 3) ∧ (h8 46 4) = (h 46 4) ∧ (h8 49 4) = (h 49 4) ∧ (h8 49 5) = (h 49 5); omega)⟩
  · skip
    refine ov_getf (v := ov_r 70) d_120_3 fl_OF_78 (zb_0 I) (zs_0 I) (congrArg ov_r e1) ?_
    refine ov_blk (ls2 := [(0, ov_r 0), (1, ov_i g), (2, ov_i x), (3, ov_i y), (4, ov_i s)]) (st2 := [ov_i y, ov_i x, ov_r 70, ov_i g, ov_r 0]) (pc2 := 8) b_120_6_2 rfl rfl ?_
    refine ov_cV (as := [ov_i x, ov_i y]) (st := [ov_i g, ov_r 0]) (d2 := d - 1) d_120_8 lk_OF_131 rfl (Nat.le_of_ble_eq_true rfl) (c := 9) (zb_70 I) (zs_70 I) ⟨by decide, rfl⟩ (by omega) (c_Town_corner_70 (d - 1) (by omega) U I x y (by omega) (by omega)) ?_
    rintro _ _ _ ⟨v13, rfl, rfl, rfl, f12⟩
    show ov_R u d ov_m120 11 [(0, ov_r 0), (1, ov_i g), (2, ov_i x), (3, ov_i y), (4, ov_i s)] [ov_i v13, ov_i g, ov_r 0] z h (P_OF_mean_0 z h g x y s)
    have f14 : v13 = -1 ∨ (0 ≤ x ∧ x < (h 70 0) ∧ 0 ≤ y ∧ y < (h 70 1) ∧ v13 = y * 6 + x ∧ (h 70 0) ≤ 6 ∧ (h 70 1) ≤ 9) := f12
    clear f12
    refine ov_blk (ls2 := [(0, ov_r 0), (1, ov_i g), (2, ov_i x), (3, ov_i y), (4, ov_i s)]) (st2 := [ov_i 0, ov_i s, ov_i v13, ov_i g, ov_r 0]) (pc2 := 14) b_120_11_2 rfl rfl ?_
    refine ov_cV (as := [ov_i g, ov_i v13, ov_i s, ov_i 0]) (st := []) (d2 := d - 1) d_120_14 lk_OF_211 rfl (Nat.le_of_ble_eq_true rfl) (c := 0) (zb_0 I) (zs_0 I) ⟨by decide, rfl⟩ (by omega) (c_OF_reckoned_0 (d - 1) (by omega) U I g v13 s 0 (by omega) (by omega) (by omega) (by omega) (by omega) (by omega)) ?_
    rintro _ z17 h18 ⟨v16, rfl, I19, f15⟩
    show ov_R u d ov_m120 17 [(0, ov_r 0), (1, ov_i g), (2, ov_i x), (3, ov_i y), (4, ov_i s)] [ov_i v16] z17 h18 (P_OF_mean_0 z h g x y s)
    have f20 : -2147483648 ≤ v16 ∧ v16 ≤ 2147483647 ∧ ((h18 36 7) = 1 → ¬ (h18 36 8) = -1) ∧ (¬ v16 = -1 → ¬ (h18 36 8) = -1) ∧ (h18 1 1) = (h 1 1) ∧ (h18 90 2) = (h 90 2) ∧ (h18 0 10) = (h 0 10) ∧ (h18 0 11) = (h 0 11) ∧ (h18 0 12) = (h 0 12) ∧ (h18 0 13) = (h 0 13) ∧ (h18 3 1) = (h 3 1) ∧ (h18 46 3) = (h 46 3) ∧ (h18 46 4) = (h 46 4) ∧ (h18 49 4) = (h 49 4) ∧ (h18 49 5) = (h 49 5) := f15
    clear f15
    have e21 : h18 0 10 = 70 := by omega
    exact ov_reti (st := []) d_120_17 rfl ⟨_, rfl, I19, (by show -2147483648 ≤ v16 ∧ v16 ≤ 2147483647 ∧ ((h18 36 7) = 1 → ¬ (h18 36 8) = -1) ∧ (h18 1 1) = (h 1 1) ∧ (h18 90 2) = (h 90 2) ∧ (h18 0 10) = (h 0 10) ∧ (h18 0 11) = (h 0 11) ∧ (h18 0 12) = (h 0 12) ∧ (h18 0 13) = (h 0 13) ∧ (h18 3 1) = (h 3 1) ∧ (h18 46 3) = (h 46 3) ∧ (h18 46 4) = (h 46 4) ∧ (h18 49 4) = (h 49 4) ∧ (h18 49 5) = (h 49 5); omega)⟩
abbrev P_OF_worst_0 (z : ov_Z) (h : ov_H) (g : Int) (x : Int) (y : Int) (s : Int) : Option ov_V → ov_Z → ov_H → Prop := fun r0 z' h' => ∃ r : Int, r0 = some (ov_i r) ∧ ov_I z' h' ∧ (-2147483648 ≤ r ∧ r ≤ 2147483647 ∧ (h' 36 7 = 1 → ¬ h' 36 8 = -1) ∧ h' 1 1 = h 1 1 ∧ h' 90 2 = h 90 2 ∧ h' 0 10 = h 0 10 ∧ h' 0 11 = h 0 11 ∧ h' 0 12 = h 0 12 ∧ h' 0 13 = h 0 13 ∧ h' 3 1 = h 3 1 ∧ h' 46 3 = h 46 3 ∧ h' 46 4 = h 46 4 ∧ h' 49 4 = h 49 4 ∧ h' 49 5 = h 49 5)
set_option maxHeartbeats 4000000 in
theorem c_OF_worst_0 {u : ov_U} {z : ov_Z} {h : ov_H} (d : Nat) (hd : 301 ≤ d) (U : ov_cap u) (I : ov_I z h) (g : Int) (x : Int) (y : Int) (s : Int) (g_g : ov_g g) (g_x : ov_g x) (g_y : ov_g y) (g_s : ov_g s) (p0 : h 36 7 = 1 → ¬ h 36 8 = -1) : ov_T u d ov_m142 [ov_r 0, ov_i g, ov_i x, ov_i y, ov_i s] z h (P_OF_worst_0 z h g x y s) := by
  refine ov_en rfl (Nat.le_of_ble_eq_true rfl) ?_
  show ov_R u d ov_m142 0 [(0, ov_r 0), (1, ov_i g), (2, ov_i x), (3, ov_i y), (4, ov_i s)] [] z h (P_OF_worst_0 z h g x y s)
  refine ov_blk (ls2 := [(0, ov_r 0), (1, ov_i g), (2, ov_i x), (3, ov_i y), (4, ov_i s)]) (st2 := [ov_r 0, ov_i g, ov_r 0]) (pc2 := 3) b_142_0_3 rfl rfl ?_
  rcases rg_0_10 I with e1 | e1
  · skip
    refine ov_getf (v := ov_r 58) d_142_3 fl_OF_78 (zb_0 I) (zs_0 I) (congrArg ov_r e1) ?_
    refine ov_blk (ls2 := [(0, ov_r 0), (1, ov_i g), (2, ov_i x), (3, ov_i y), (4, ov_i s)]) (st2 := [ov_i y, ov_i x, ov_r 58, ov_i g, ov_r 0]) (pc2 := 8) b_142_6_2 rfl rfl ?_
    refine ov_cV (as := [ov_i x, ov_i y]) (st := [ov_i g, ov_r 0]) (d2 := d - 1) d_142_8 lk_OF_131 rfl (Nat.le_of_ble_eq_true rfl) (c := 9) (zb_58 I) (zs_58 I) ⟨by decide, rfl⟩ (by omega) (c_Town_corner_58 (d - 1) (by omega) U I x y (by omega) (by omega)) ?_
    rintro _ _ _ ⟨v3, rfl, rfl, rfl, f2⟩
    show ov_R u d ov_m142 11 [(0, ov_r 0), (1, ov_i g), (2, ov_i x), (3, ov_i y), (4, ov_i s)] [ov_i v3, ov_i g, ov_r 0] z h (P_OF_worst_0 z h g x y s)
    have f4 : v3 = -1 ∨ (0 ≤ x ∧ x < (h 58 0) ∧ 0 ≤ y ∧ y < (h 58 1) ∧ v3 = y * 6 + x ∧ (h 58 0) ≤ 6 ∧ (h 58 1) ≤ 9) := f2
    clear f2
    refine ov_blk (ls2 := [(0, ov_r 0), (1, ov_i g), (2, ov_i x), (3, ov_i y), (4, ov_i s)]) (st2 := [ov_i 1, ov_i s, ov_i v3, ov_i g, ov_r 0]) (pc2 := 14) b_142_11_2 rfl rfl ?_
    refine ov_cV (as := [ov_i g, ov_i v3, ov_i s, ov_i 1]) (st := []) (d2 := d - 1) d_142_14 lk_OF_211 rfl (Nat.le_of_ble_eq_true rfl) (c := 0) (zb_0 I) (zs_0 I) ⟨by decide, rfl⟩ (by omega) (c_OF_reckoned_0 (d - 1) (by omega) U I g v3 s 1 (by omega) (by omega) (by omega) (by omega) (by omega) (by omega)) ?_
    rintro _ z7 h8 ⟨v6, rfl, I9, f5⟩
    show ov_R u d ov_m142 17 [(0, ov_r 0), (1, ov_i g), (2, ov_i x), (3, ov_i y), (4, ov_i s)] [ov_i v6] z7 h8 (P_OF_worst_0 z h g x y s)
    have f10 : -2147483648 ≤ v6 ∧ v6 ≤ 2147483647 ∧ ((h8 36 7) = 1 → ¬ (h8 36 8) = -1) ∧ (¬ v6 = -1 → ¬ (h8 36 8) = -1) ∧ (h8 1 1) = (h 1 1) ∧ (h8 90 2) = (h 90 2) ∧ (h8 0 10) = (h 0 10) ∧ (h8 0 11) = (h 0 11) ∧ (h8 0 12) = (h 0 12) ∧ (h8 0 13) = (h 0 13) ∧ (h8 3 1) = (h 3 1) ∧ (h8 46 3) = (h 46 3) ∧ (h8 46 4) = (h 46 4) ∧ (h8 49 4) = (h 49 4) ∧ (h8 49 5) = (h 49 5) := f5
    clear f5
    have e11 : h8 0 10 = 58 := by omega
    exact ov_reti (st := []) d_142_17 rfl ⟨_, rfl, I9, (by show -2147483648 ≤ v6 ∧ v6 ≤ 2147483647 ∧ ((h8 36 7) = 1 → ¬ (h8 36 8) = -1) ∧ (h8 1 1) = (h 1 1) ∧ (h8 90 2) = (h 90 2) ∧ (h8 0 10) = (h 0 10) ∧ (h8 0 11) = (h 0 11) ∧ (h8 0 12) = (h 0 12) ∧ (h8 0 13) = (h 0 13) ∧ (h8 3 1) = (h 3 1) ∧ (h8 46 3) = (h 46 3) ∧ (h8 46 4) = (h 46 4) ∧ (h8 49 4) = (h 49 4) ∧ (h8 49 5) = (h 49 5); omega)⟩
  · skip
    refine ov_getf (v := ov_r 70) d_142_3 fl_OF_78 (zb_0 I) (zs_0 I) (congrArg ov_r e1) ?_
    refine ov_blk (ls2 := [(0, ov_r 0), (1, ov_i g), (2, ov_i x), (3, ov_i y), (4, ov_i s)]) (st2 := [ov_i y, ov_i x, ov_r 70, ov_i g, ov_r 0]) (pc2 := 8) b_142_6_2 rfl rfl ?_
    refine ov_cV (as := [ov_i x, ov_i y]) (st := [ov_i g, ov_r 0]) (d2 := d - 1) d_142_8 lk_OF_131 rfl (Nat.le_of_ble_eq_true rfl) (c := 9) (zb_70 I) (zs_70 I) ⟨by decide, rfl⟩ (by omega) (c_Town_corner_70 (d - 1) (by omega) U I x y (by omega) (by omega)) ?_
    rintro _ _ _ ⟨v13, rfl, rfl, rfl, f12⟩
    show ov_R u d ov_m142 11 [(0, ov_r 0), (1, ov_i g), (2, ov_i x), (3, ov_i y), (4, ov_i s)] [ov_i v13, ov_i g, ov_r 0] z h (P_OF_worst_0 z h g x y s)
    have f14 : v13 = -1 ∨ (0 ≤ x ∧ x < (h 70 0) ∧ 0 ≤ y ∧ y < (h 70 1) ∧ v13 = y * 6 + x ∧ (h 70 0) ≤ 6 ∧ (h 70 1) ≤ 9) := f12
    clear f12
    refine ov_blk (ls2 := [(0, ov_r 0), (1, ov_i g), (2, ov_i x), (3, ov_i y), (4, ov_i s)]) (st2 := [ov_i 1, ov_i s, ov_i v13, ov_i g, ov_r 0]) (pc2 := 14) b_142_11_2 rfl rfl ?_
    refine ov_cV (as := [ov_i g, ov_i v13, ov_i s, ov_i 1]) (st := []) (d2 := d - 1) d_142_14 lk_OF_211 rfl (Nat.le_of_ble_eq_true rfl) (c := 0) (zb_0 I) (zs_0 I) ⟨by decide, rfl⟩ (by omega) (c_OF_reckoned_0 (d - 1) (by omega) U I g v13 s 1 (by omega) (by omega) (by omega) (by omega) (by omega) (by omega)) ?_
    rintro _ z17 h18 ⟨v16, rfl, I19, f15⟩
    show ov_R u d ov_m142 17 [(0, ov_r 0), (1, ov_i g), (2, ov_i x), (3, ov_i y), (4, ov_i s)] [ov_i v16] z17 h18 (P_OF_worst_0 z h g x y s)
    have f20 : -2147483648 ≤ v16 ∧ v16 ≤ 2147483647 ∧ ((h18 36 7) = 1 → ¬ (h18 36 8) = -1) ∧ (¬ v16 = -1 → ¬ (h18 36 8) = -1) ∧ (h18 1 1) = (h 1 1) ∧ (h18 90 2) = (h 90 2) ∧ (h18 0 10) = (h 0 10) ∧ (h18 0 11) = (h 0 11) ∧ (h18 0 12) = (h 0 12) ∧ (h18 0 13) = (h 0 13) ∧ (h18 3 1) = (h 3 1) ∧ (h18 46 3) = (h 46 3) ∧ (h18 46 4) = (h 46 4) ∧ (h18 49 4) = (h 49 4) ∧ (h18 49 5) = (h 49 5) := f15
    clear f15
    have e21 : h18 0 10 = 70 := by omega
    exact ov_reti (st := []) d_142_17 rfl ⟨_, rfl, I19, (by show -2147483648 ≤ v16 ∧ v16 ≤ 2147483647 ∧ ((h18 36 7) = 1 → ¬ (h18 36 8) = -1) ∧ (h18 1 1) = (h 1 1) ∧ (h18 90 2) = (h 90 2) ∧ (h18 0 10) = (h 0 10) ∧ (h18 0 11) = (h 0 11) ∧ (h18 0 12) = (h 0 12) ∧ (h18 0 13) = (h 0 13) ∧ (h18 3 1) = (h 3 1) ∧ (h18 46 3) = (h 46 3) ∧ (h18 46 4) = (h 46 4) ∧ (h18 49 4) = (h 49 4) ∧ (h18 49 5) = (h 49 5); omega)⟩
abbrev P_OF_choice_0 (z : ov_Z) (h : ov_H) (x : Int) (y : Int) (s : Int) (at_ : Int) : Option ov_V → ov_Z → ov_H → Prop := fun r0 z' h' => ∃ r : Int, r0 = some (ov_i r) ∧ ov_I z' h' ∧ ((h' 36 7 = 1 → ¬ h' 36 8 = -1) ∧ h' 1 1 = h 1 1 ∧ h' 90 2 = h 90 2 ∧ h' 0 10 = h 0 10 ∧ h' 0 11 = h 0 11 ∧ h' 0 12 = h 0 12 ∧ h' 0 13 = h 0 13 ∧ h' 3 1 = h 3 1 ∧ h' 46 3 = h 46 3 ∧ h' 46 4 = h 46 4 ∧ h' 49 4 = h 49 4 ∧ h' 49 5 = h 49 5)
set_option maxHeartbeats 4000000 in
theorem c_OF_choice_0 {u : ov_U} {z : ov_Z} {h : ov_H} (d : Nat) (hd : 301 ≤ d) (U : ov_cap u) (I : ov_I z h) (x : Int) (y : Int) (s : Int) (at_ : Int) (g_x : ov_g x) (g_y : ov_g y) (g_s : ov_g s) (g_at_ : ov_g at_) (p0 : h 36 7 = 1 → ¬ h 36 8 = -1) : ov_T u d ov_m143 [ov_r 0, ov_i x, ov_i y, ov_i s, ov_i at_] z h (P_OF_choice_0 z h x y s at_) := by
  refine ov_en rfl (Nat.le_of_ble_eq_true rfl) ?_
  show ov_R u d ov_m143 0 [(0, ov_r 0), (1, ov_i x), (2, ov_i y), (3, ov_i s), (4, ov_i at_)] [] z h (P_OF_choice_0 z h x y s at_)
  refine ov_blk (ls2 := [(0, ov_r 0), (1, ov_i x), (2, ov_i y), (3, ov_i s), (4, ov_i at_)]) (st2 := [ov_r 0]) (pc2 := 1) b_143_0_1 rfl rfl ?_
  rcases rg_0_10 I with e1 | e1
  · skip
    refine ov_getf (v := ov_r 58) d_143_1 fl_OF_78 (zb_0 I) (zs_0 I) (congrArg ov_r e1) ?_
    refine ov_blk (ls2 := [(0, ov_r 0), (1, ov_i x), (2, ov_i y), (3, ov_i s), (4, ov_i at_)]) (st2 := [ov_i y, ov_i x, ov_r 58]) (pc2 := 6) b_143_4_2 rfl rfl ?_
    refine ov_cV (as := [ov_i x, ov_i y]) (st := []) (d2 := d - 1) d_143_6 lk_OF_131 rfl (Nat.le_of_ble_eq_true rfl) (c := 9) (zb_58 I) (zs_58 I) ⟨by decide, rfl⟩ (by omega) (c_Town_corner_58 (d - 1) (by omega) U I x y (by omega) (by omega)) ?_
    rintro _ _ _ ⟨v3, rfl, rfl, rfl, f2⟩
    show ov_R u d ov_m143 9 [(0, ov_r 0), (1, ov_i x), (2, ov_i y), (3, ov_i s), (4, ov_i at_)] [ov_i v3] z h (P_OF_choice_0 z h x y s at_)
    have f4 : v3 = -1 ∨ (0 ≤ x ∧ x < (h 58 0) ∧ 0 ≤ y ∧ y < (h 58 1) ∧ v3 = y * 6 + x ∧ (h 58 0) ≤ 6 ∧ (h 58 1) ≤ 9) := f2
    clear f2
    refine ov_blk (ls2 := [(0, ov_r 0), (1, ov_i x), (2, ov_i y), (3, ov_i s), (4, ov_i at_), (5, ov_i v3)]) (st2 := [ov_i (-1), ov_i v3]) (pc2 := 14) b_143_9_3 rfl rfl ?_
    refine ov_iceq (tgt := 36) d_143_14 (by decide) (by omega) (by omega) (fun c5 => ?_) (fun c5 => ?_)
    · skip
      refine ov_blk (ls2 := [(0, ov_r 0), (1, ov_i x), (2, ov_i y), (3, ov_i s), (4, ov_i at_), (5, ov_i v3)]) (st2 := [ov_i (-1)]) (pc2 := 37) b_143_36_1 rfl rfl ?_
      exact ov_reti (st := []) d_143_37 rfl ⟨_, rfl, I, (by show ((h 36 7) = 1 → ¬ (h 36 8) = -1) ∧ (h 1 1) = (h 1 1) ∧ (h 90 2) = (h 90 2) ∧ (h 0 10) = (h 0 10) ∧ (h 0 11) = (h 0 11) ∧ (h 0 12) = (h 0 12) ∧ (h 0 13) = (h 0 13) ∧ (h 3 1) = (h 3 1) ∧ (h 46 3) = (h 46 3) ∧ (h 46 4) = (h 46 4) ∧ (h 49 4) = (h 49 4) ∧ (h 49 5) = (h 49 5); omega)⟩
    · skip
      refine ov_blk (ls2 := [(0, ov_r 0), (1, ov_i x), (2, ov_i y), (3, ov_i s), (4, ov_i at_), (5, ov_i v3)]) (st2 := [ov_r 0, ov_i v3]) (pc2 := 20) b_143_17_2 rfl rfl ?_
      refine ov_getf (v := ov_r 58) d_143_20 fl_OF_78 (zb_0 I) (zs_0 I) (congrArg ov_r e1) ?_
      refine ov_cV (as := []) (st := [ov_i v3]) (d2 := d - 1) d_143_23 lk_OF_225 rfl (Nat.le_of_ble_eq_true rfl) (c := 9) (zb_58 I) (zs_58 I) ⟨by decide, rfl⟩ (by omega) (c_Town_home_58 (d - 1) (by omega) U I) ?_
      rintro _ _ _ ⟨v7, rfl, rfl, rfl, f6⟩
      show ov_R u d ov_m143 26 [(0, ov_r 0), (1, ov_i x), (2, ov_i y), (3, ov_i s), (4, ov_i at_), (5, ov_i v3)] [ov_i v7, ov_i v3] z h (P_OF_choice_0 z h x y s at_)
      have f8 : v7 = ((h 58 1) - 1) * 6 + (h 58 0) - 1 ∧ 0 ≤ v7 ∧ v7 ≤ 53 := f6
      clear f6
      refine ov_iceq (tgt := 36) d_143_26 (by decide) (by omega) (by omega) (fun c9 => ?_) (fun c9 => ?_)
      · skip
        refine ov_blk (ls2 := [(0, ov_r 0), (1, ov_i x), (2, ov_i y), (3, ov_i s), (4, ov_i at_), (5, ov_i v3)]) (st2 := [ov_i (-1)]) (pc2 := 37) b_143_36_1 rfl rfl ?_
        exact ov_reti (st := []) d_143_37 rfl ⟨_, rfl, I, (by show ((h 36 7) = 1 → ¬ (h 36 8) = -1) ∧ (h 1 1) = (h 1 1) ∧ (h 90 2) = (h 90 2) ∧ (h 0 10) = (h 0 10) ∧ (h 0 11) = (h 0 11) ∧ (h 0 12) = (h 0 12) ∧ (h 0 13) = (h 0 13) ∧ (h 3 1) = (h 3 1) ∧ (h 46 3) = (h 46 3) ∧ (h 46 4) = (h 46 4) ∧ (h 49 4) = (h 49 4) ∧ (h 49 5) = (h 49 5); omega)⟩
      · skip
        refine ov_blk (ls2 := [(0, ov_r 0), (1, ov_i x), (2, ov_i y), (3, ov_i s), (4, ov_i at_), (5, ov_i v3)]) (st2 := [ov_i s]) (pc2 := 30) b_143_29_1 rfl rfl ?_
        refine ov_cS (as := [ov_i s]) (st := []) (d2 := d - 1) d_143_30 lk_OF_155 rfl (Nat.le_of_ble_eq_true rfl) (by omega) (c_OF_isSecond (d - 1) (by omega) U I s (by omega)) ?_
        rintro _ _ _ ⟨v11, rfl, rfl, rfl, f10⟩
        show ov_R u d ov_m143 33 [(0, ov_r 0), (1, ov_i x), (2, ov_i y), (3, ov_i s), (4, ov_i at_), (5, ov_i v3)] [ov_i v11] z h (P_OF_choice_0 z h x y s at_)
        have f12 : (v11 = 0 ∨ v11 = 1) ∧ (v11 = 1 → 0 ≤ s ∧ s ≤ 1000000) := f10
        clear f10
        refine ov_ifne (tgt := 38) d_143_33 (by decide) (by omega) (fun c13 => ?_) (fun c13 => ?_)
        · skip
          refine ov_blk (ls2 := [(0, ov_r 0), (1, ov_i x), (2, ov_i y), (3, ov_i s), (4, ov_i at_), (5, ov_i v3)]) (st2 := [ov_r 0]) (pc2 := 39) b_143_38_1 rfl rfl ?_
          refine ov_getf (v := ov_r 36) d_143_39 fl_OF_50 (zb_0 I) (zs_0 I) (congrArg ov_r (rg_0_6 I)) ?_
          refine ov_blk (ls2 := [(0, ov_r 0), (1, ov_i x), (2, ov_i y), (3, ov_i s), (4, ov_i at_), (5, ov_i v3)]) (st2 := [ov_r 0, ov_r 36]) (pc2 := 43) b_143_42_1 rfl rfl ?_
          refine ov_getf (v := ov_r 58) d_143_43 fl_OF_78 (zb_0 I) (zs_0 I) (congrArg ov_r e1) ?_
          refine ov_blk (ls2 := [(0, ov_r 0), (1, ov_i x), (2, ov_i y), (3, ov_i s), (4, ov_i at_), (5, ov_i v3)]) (st2 := [ov_r 0, ov_r 58, ov_r 36]) (pc2 := 47) b_143_46_1 rfl rfl ?_
          refine ov_getf (v := ov_r 4) d_143_47 fl_OF_28 (zb_0 I) (zs_0 I) (congrArg ov_r (rg_0_2 I)) ?_
          refine ov_getf (v := ov_l (h 4 3)) d_143_50 fl_OF_192 (zb_4 I) (zs_4 I) rfl ?_
          refine ov_blk (ls2 := [(0, ov_r 0), (1, ov_i x), (2, ov_i y), (3, ov_i s), (4, ov_i at_), (5, ov_i v3)]) (st2 := [ov_i 0, ov_i 3, ov_l (h 4 3), ov_r 58, ov_r 36]) (pc2 := 55) b_143_53_2 rfl rfl ?_
          refine ov_cV (as := [ov_r 58, ov_l (h 4 3), ov_i 3, ov_i 0]) (st := []) (d2 := d - 1) d_143_55 lk_OF_218 rfl (Nat.le_of_ble_eq_true rfl) (c := 2) (zb_36 I) (zs_36 I) ⟨by decide, rfl⟩ (by omega) (c_Goers_ask_36_58 (d - 1) (by omega) U I (h 4 3) 3 0 (by omega) (by omega) (by omega)) ?_
          rintro _ z15 h16 ⟨rfl, I17, f14⟩
          show ov_R u d ov_m143 58 [(0, ov_r 0), (1, ov_i x), (2, ov_i y), (3, ov_i s), (4, ov_i at_), (5, ov_i v3)] [] z15 h16 (P_OF_choice_0 z h x y s at_)
          have f18 : ((h16 36 8) = 58 ∨ (h16 36 8) = 70) ∧ (h16 36 7) = 1 ∧ (h16 1 1) = (h 1 1) ∧ (h16 90 2) = (h 90 2) ∧ (h16 0 10) = (h 0 10) ∧ (h16 0 11) = (h 0 11) ∧ (h16 0 12) = (h 0 12) ∧ (h16 0 13) = (h 0 13) ∧ (h16 3 1) = (h 3 1) ∧ (h16 46 3) = (h 46 3) ∧ (h16 46 4) = (h 46 4) ∧ (h16 49 4) = (h 49 4) ∧ (h16 49 5) = (h 49 5) := f14
          clear f14
          have e19 : h16 0 10 = 58 := by omega
          refine ov_blk (ls2 := [(0, ov_r 0), (1, ov_i x), (2, ov_i y), (3, ov_i s), (4, ov_i at_), (5, ov_i v3), (6, ov_i s)]) (st2 := [ov_r 0]) (pc2 := 62) b_143_58_3 rfl rfl ?_
          refine ov_getf (v := ov_r 36) d_143_62 fl_OF_50 (zb_0 I17) (zs_0 I17) (congrArg ov_r (rg_0_6 I17)) ?_
          refine ov_blk (ls2 := [(0, ov_r 0), (1, ov_i x), (2, ov_i y), (3, ov_i s), (4, ov_i at_), (5, ov_i v3), (6, ov_i s)]) (st2 := [ov_i v3, ov_r 36]) (pc2 := 67) b_143_65_1 rfl rfl ?_
          rcases rg_36_8 I17 with e20 | e20 | e20
          · omega
          · skip
            refine ov_cV (as := [ov_i v3]) (st := []) (d2 := d - 1) d_143_67 lk_OF_228 rfl (Nat.le_of_ble_eq_true rfl) (c := 2) (zb_36 I17) (zs_36 I17) ⟨by decide, rfl⟩ (by omega) (c_Goers_hides_36_k36_8_58 (d - 1) (by omega) U I17 v3 e20 (by omega) (by omega)) ?_
            rintro _ _ _ ⟨v22, rfl, rfl, rfl, f21⟩
            show ov_R u d ov_m143 70 [(0, ov_r 0), (1, ov_i x), (2, ov_i y), (3, ov_i s), (4, ov_i at_), (5, ov_i v3), (6, ov_i s)] [ov_i v22] z15 h16 (P_OF_choice_0 z h x y s at_)
            have f23 : (v22 = 0 ∨ v22 = 1) := f21
            clear f21
            refine ov_ifeq (tgt := 99) d_143_70 (by decide) (by omega) (fun c24 => ?_) (fun c24 => ?_)
            · skip
              refine ov_blk (ls2 := [(0, ov_r 0), (1, ov_i x), (2, ov_i y), (3, ov_i s), (4, ov_i at_), (5, ov_i v3), (6, ov_i s)]) (st2 := [ov_r 0]) (pc2 := 100) b_143_99_1 rfl rfl ?_
              refine ov_getf (v := ov_r 36) d_143_100 fl_OF_50 (zb_0 I17) (zs_0 I17) (congrArg ov_r (rg_0_6 I17)) ?_
              refine ov_blk (ls2 := [(0, ov_r 0), (1, ov_i x), (2, ov_i y), (3, ov_i s), (4, ov_i at_), (5, ov_i v3), (6, ov_i s)]) (st2 := [ov_i s, ov_i s, ov_i v3, ov_r 36]) (pc2 := 108) b_143_103_3 rfl rfl ?_
              refine ov_cV (as := [ov_i v3, ov_i s, ov_i s]) (st := []) (d2 := d - 1) d_143_108 lk_OF_231 rfl (Nat.le_of_ble_eq_true rfl) (c := 2) (zb_36 I17) (zs_36 I17) ⟨by decide, rfl⟩ (by omega) (c_Goers_wayOf_36_k36_8_58_all (53 - (v3)).toNat (d - 1) (by omega) U I17 v3 s s e20 (by omega) (by omega) (by omega) (by omega)) ?_
              rintro _ z27 h28 ⟨v26, rfl, I29, f25⟩
              show ov_R u d ov_m143 111 [(0, ov_r 0), (1, ov_i x), (2, ov_i y), (3, ov_i s), (4, ov_i at_), (5, ov_i v3), (6, ov_i s)] [ov_i v26] z27 h28 (P_OF_choice_0 z h x y s at_)
              have f30 : (v26 = -1 ∨ (v26 = 0 ∧ v3 ≤ 52) ∨ (v26 = 1 ∧ v3 ≤ 47)) ∧ (h28 36 7) = (h16 36 7) ∧ (h28 1 1) = (h16 1 1) ∧ (h28 90 2) = (h16 90 2) ∧ (h28 0 10) = (h16 0 10) ∧ (h28 0 11) = (h16 0 11) ∧ (h28 0 12) = (h16 0 12) ∧ (h28 0 13) = (h16 0 13) ∧ (h28 3 1) = (h16 3 1) ∧ (h28 36 8) = (h16 36 8) ∧ (h28 46 3) = (h16 46 3) ∧ (h28 46 4) = (h16 46 4) ∧ (h28 49 4) = (h16 49 4) ∧ (h28 49 5) = (h16 49 5) := f25
              clear f25
              have e31 : h28 0 10 = 58 := by omega
              have e32 : h28 36 8 = 58 := by omega
              exact ov_reti (st := []) d_143_111 rfl ⟨_, rfl, I29, (by show ((h28 36 7) = 1 → ¬ (h28 36 8) = -1) ∧ (h28 1 1) = (h 1 1) ∧ (h28 90 2) = (h 90 2) ∧ (h28 0 10) = (h 0 10) ∧ (h28 0 11) = (h 0 11) ∧ (h28 0 12) = (h 0 12) ∧ (h28 0 13) = (h 0 13) ∧ (h28 3 1) = (h 3 1) ∧ (h28 46 3) = (h 46 3) ∧ (h28 46 4) = (h 46 4) ∧ (h28 49 4) = (h 49 4) ∧ (h28 49 5) = (h 49 5); omega)⟩
            · skip
              refine ov_blk (ls2 := [(0, ov_r 0), (1, ov_i x), (2, ov_i y), (3, ov_i s), (4, ov_i at_), (5, ov_i v3), (6, ov_i s)]) (st2 := [ov_i at_]) (pc2 := 75) b_143_73_1 rfl rfl ?_
              refine ov_iflt (tgt := 93) d_143_75 (by decide) (by omega) (fun c33 => ?_) (fun c33 => ?_)
              · skip
                refine ov_blk (ls2 := [(0, ov_r 0), (1, ov_i x), (2, ov_i y), (3, ov_i s), (4, ov_i at_), (5, ov_i v3), (6, ov_i s)]) (st2 := [ov_i (-1)]) (pc2 := 94) b_143_93_1 rfl rfl ?_
                exact ov_reti (st := []) d_143_94 rfl ⟨_, rfl, I17, (by show ((h16 36 7) = 1 → ¬ (h16 36 8) = -1) ∧ (h16 1 1) = (h 1 1) ∧ (h16 90 2) = (h 90 2) ∧ (h16 0 10) = (h 0 10) ∧ (h16 0 11) = (h 0 11) ∧ (h16 0 12) = (h 0 12) ∧ (h16 0 13) = (h 0 13) ∧ (h16 3 1) = (h 3 1) ∧ (h16 46 3) = (h 46 3) ∧ (h16 46 4) = (h 46 4) ∧ (h16 49 4) = (h 49 4) ∧ (h16 49 5) = (h 49 5); omega)⟩
              · skip
                refine ov_blk (ls2 := [(0, ov_r 0), (1, ov_i x), (2, ov_i y), (3, ov_i s), (4, ov_i at_), (5, ov_i v3), (6, ov_i s)]) (st2 := [ov_r 0, ov_i at_]) (pc2 := 81) b_143_78_2 rfl rfl ?_
                refine ov_getf (v := ov_r 58) d_143_81 fl_OF_78 (zb_0 I17) (zs_0 I17) (congrArg ov_r e19) ?_
                refine ov_getf (v := ov_r 60) d_143_84 fl_OF_142 (zb_58 I17) (zs_58 I17) (congrArg ov_r (rg_58_3 I17)) ?_
                refine ov_blk (ls2 := [(0, ov_r 0), (1, ov_i x), (2, ov_i y), (3, ov_i s), (4, ov_i at_), (5, ov_i v3), (6, ov_i s)]) (st2 := [ov_i v3, ov_r 60, ov_i at_]) (pc2 := 89) b_143_87_1 rfl rfl ?_
                refine ov_iald d_143_89 (zb_60 I17) (zs_60 I17) (by omega) ?_
                have g34 := ra_60 I17 v3
                refine ov_iclt (tgt := 95) d_143_90 (by decide) (by omega) (by omega) (fun c35 => ?_) (fun c35 => ?_)
                · skip
                  refine ov_blk (ls2 := [(0, ov_r 0), (1, ov_i x), (2, ov_i y), (3, ov_i s), (4, ov_i at_), (5, ov_i v3), (6, ov_i at_)]) (st2 := [ov_r 0]) (pc2 := 100) b_143_95_3 rfl rfl ?_
                  refine ov_getf (v := ov_r 36) d_143_100 fl_OF_50 (zb_0 I17) (zs_0 I17) (congrArg ov_r (rg_0_6 I17)) ?_
                  refine ov_blk (ls2 := [(0, ov_r 0), (1, ov_i x), (2, ov_i y), (3, ov_i s), (4, ov_i at_), (5, ov_i v3), (6, ov_i at_)]) (st2 := [ov_i at_, ov_i s, ov_i v3, ov_r 36]) (pc2 := 108) b_143_103_3 rfl rfl ?_
                  refine ov_cV (as := [ov_i v3, ov_i s, ov_i at_]) (st := []) (d2 := d - 1) d_143_108 lk_OF_231 rfl (Nat.le_of_ble_eq_true rfl) (c := 2) (zb_36 I17) (zs_36 I17) ⟨by decide, rfl⟩ (by omega) (c_Goers_wayOf_36_k36_8_58_all (53 - (v3)).toNat (d - 1) (by omega) U I17 v3 s at_ e20 (by omega) (by omega) (by omega) (by omega)) ?_
                  rintro _ z38 h39 ⟨v37, rfl, I40, f36⟩
                  show ov_R u d ov_m143 111 [(0, ov_r 0), (1, ov_i x), (2, ov_i y), (3, ov_i s), (4, ov_i at_), (5, ov_i v3), (6, ov_i at_)] [ov_i v37] z38 h39 (P_OF_choice_0 z h x y s at_)
                  have f41 : (v37 = -1 ∨ (v37 = 0 ∧ v3 ≤ 52) ∨ (v37 = 1 ∧ v3 ≤ 47)) ∧ (h39 36 7) = (h16 36 7) ∧ (h39 1 1) = (h16 1 1) ∧ (h39 90 2) = (h16 90 2) ∧ (h39 0 10) = (h16 0 10) ∧ (h39 0 11) = (h16 0 11) ∧ (h39 0 12) = (h16 0 12) ∧ (h39 0 13) = (h16 0 13) ∧ (h39 3 1) = (h16 3 1) ∧ (h39 36 8) = (h16 36 8) ∧ (h39 46 3) = (h16 46 3) ∧ (h39 46 4) = (h16 46 4) ∧ (h39 49 4) = (h16 49 4) ∧ (h39 49 5) = (h16 49 5) := f36
                  clear f36
                  have e42 : h39 0 10 = 58 := by omega
                  have e43 : h39 36 8 = 58 := by omega
                  exact ov_reti (st := []) d_143_111 rfl ⟨_, rfl, I40, (by show ((h39 36 7) = 1 → ¬ (h39 36 8) = -1) ∧ (h39 1 1) = (h 1 1) ∧ (h39 90 2) = (h 90 2) ∧ (h39 0 10) = (h 0 10) ∧ (h39 0 11) = (h 0 11) ∧ (h39 0 12) = (h 0 12) ∧ (h39 0 13) = (h 0 13) ∧ (h39 3 1) = (h 3 1) ∧ (h39 46 3) = (h 46 3) ∧ (h39 46 4) = (h 46 4) ∧ (h39 49 4) = (h 49 4) ∧ (h39 49 5) = (h 49 5); omega)⟩
                · skip
                  refine ov_blk (ls2 := [(0, ov_r 0), (1, ov_i x), (2, ov_i y), (3, ov_i s), (4, ov_i at_), (5, ov_i v3), (6, ov_i s)]) (st2 := [ov_i (-1)]) (pc2 := 94) b_143_93_1 rfl rfl ?_
                  exact ov_reti (st := []) d_143_94 rfl ⟨_, rfl, I17, (by show ((h16 36 7) = 1 → ¬ (h16 36 8) = -1) ∧ (h16 1 1) = (h 1 1) ∧ (h16 90 2) = (h 90 2) ∧ (h16 0 10) = (h 0 10) ∧ (h16 0 11) = (h 0 11) ∧ (h16 0 12) = (h 0 12) ∧ (h16 0 13) = (h 0 13) ∧ (h16 3 1) = (h 3 1) ∧ (h16 46 3) = (h 46 3) ∧ (h16 46 4) = (h 46 4) ∧ (h16 49 4) = (h 49 4) ∧ (h16 49 5) = (h 49 5); omega)⟩
          · skip
            refine ov_cV (as := [ov_i v3]) (st := []) (d2 := d - 1) d_143_67 lk_OF_228 rfl (Nat.le_of_ble_eq_true rfl) (c := 2) (zb_36 I17) (zs_36 I17) ⟨by decide, rfl⟩ (by omega) (c_Goers_hides_36_k36_8_70 (d - 1) (by omega) U I17 v3 e20 (by omega) (by omega)) ?_
            rintro _ _ _ ⟨v45, rfl, rfl, rfl, f44⟩
            show ov_R u d ov_m143 70 [(0, ov_r 0), (1, ov_i x), (2, ov_i y), (3, ov_i s), (4, ov_i at_), (5, ov_i v3), (6, ov_i s)] [ov_i v45] z15 h16 (P_OF_choice_0 z h x y s at_)
            have f46 : (v45 = 0 ∨ v45 = 1) := f44
            clear f44
            refine ov_ifeq (tgt := 99) d_143_70 (by decide) (by omega) (fun c47 => ?_) (fun c47 => ?_)
            · skip
              refine ov_blk (ls2 := [(0, ov_r 0), (1, ov_i x), (2, ov_i y), (3, ov_i s), (4, ov_i at_), (5, ov_i v3), (6, ov_i s)]) (st2 := [ov_r 0]) (pc2 := 100) b_143_99_1 rfl rfl ?_
              refine ov_getf (v := ov_r 36) d_143_100 fl_OF_50 (zb_0 I17) (zs_0 I17) (congrArg ov_r (rg_0_6 I17)) ?_
              refine ov_blk (ls2 := [(0, ov_r 0), (1, ov_i x), (2, ov_i y), (3, ov_i s), (4, ov_i at_), (5, ov_i v3), (6, ov_i s)]) (st2 := [ov_i s, ov_i s, ov_i v3, ov_r 36]) (pc2 := 108) b_143_103_3 rfl rfl ?_
              refine ov_cV (as := [ov_i v3, ov_i s, ov_i s]) (st := []) (d2 := d - 1) d_143_108 lk_OF_231 rfl (Nat.le_of_ble_eq_true rfl) (c := 2) (zb_36 I17) (zs_36 I17) ⟨by decide, rfl⟩ (by omega) (c_Goers_wayOf_36_k36_8_70_all (53 - (v3)).toNat (d - 1) (by omega) U I17 v3 s s e20 (by omega) (by omega) (by omega) (by omega)) ?_
              rintro _ z50 h51 ⟨v49, rfl, I52, f48⟩
              show ov_R u d ov_m143 111 [(0, ov_r 0), (1, ov_i x), (2, ov_i y), (3, ov_i s), (4, ov_i at_), (5, ov_i v3), (6, ov_i s)] [ov_i v49] z50 h51 (P_OF_choice_0 z h x y s at_)
              have f53 : (v49 = -1 ∨ (v49 = 0 ∧ v3 ≤ 52) ∨ (v49 = 1 ∧ v3 ≤ 47)) ∧ (h51 36 7) = (h16 36 7) ∧ (h51 1 1) = (h16 1 1) ∧ (h51 90 2) = (h16 90 2) ∧ (h51 0 10) = (h16 0 10) ∧ (h51 0 11) = (h16 0 11) ∧ (h51 0 12) = (h16 0 12) ∧ (h51 0 13) = (h16 0 13) ∧ (h51 3 1) = (h16 3 1) ∧ (h51 36 8) = (h16 36 8) ∧ (h51 46 3) = (h16 46 3) ∧ (h51 46 4) = (h16 46 4) ∧ (h51 49 4) = (h16 49 4) ∧ (h51 49 5) = (h16 49 5) := f48
              clear f48
              have e54 : h51 0 10 = 58 := by omega
              have e55 : h51 36 8 = 70 := by omega
              exact ov_reti (st := []) d_143_111 rfl ⟨_, rfl, I52, (by show ((h51 36 7) = 1 → ¬ (h51 36 8) = -1) ∧ (h51 1 1) = (h 1 1) ∧ (h51 90 2) = (h 90 2) ∧ (h51 0 10) = (h 0 10) ∧ (h51 0 11) = (h 0 11) ∧ (h51 0 12) = (h 0 12) ∧ (h51 0 13) = (h 0 13) ∧ (h51 3 1) = (h 3 1) ∧ (h51 46 3) = (h 46 3) ∧ (h51 46 4) = (h 46 4) ∧ (h51 49 4) = (h 49 4) ∧ (h51 49 5) = (h 49 5); omega)⟩
            · skip
              refine ov_blk (ls2 := [(0, ov_r 0), (1, ov_i x), (2, ov_i y), (3, ov_i s), (4, ov_i at_), (5, ov_i v3), (6, ov_i s)]) (st2 := [ov_i at_]) (pc2 := 75) b_143_73_1 rfl rfl ?_
              refine ov_iflt (tgt := 93) d_143_75 (by decide) (by omega) (fun c56 => ?_) (fun c56 => ?_)
              · skip
                refine ov_blk (ls2 := [(0, ov_r 0), (1, ov_i x), (2, ov_i y), (3, ov_i s), (4, ov_i at_), (5, ov_i v3), (6, ov_i s)]) (st2 := [ov_i (-1)]) (pc2 := 94) b_143_93_1 rfl rfl ?_
                exact ov_reti (st := []) d_143_94 rfl ⟨_, rfl, I17, (by show ((h16 36 7) = 1 → ¬ (h16 36 8) = -1) ∧ (h16 1 1) = (h 1 1) ∧ (h16 90 2) = (h 90 2) ∧ (h16 0 10) = (h 0 10) ∧ (h16 0 11) = (h 0 11) ∧ (h16 0 12) = (h 0 12) ∧ (h16 0 13) = (h 0 13) ∧ (h16 3 1) = (h 3 1) ∧ (h16 46 3) = (h 46 3) ∧ (h16 46 4) = (h 46 4) ∧ (h16 49 4) = (h 49 4) ∧ (h16 49 5) = (h 49 5); omega)⟩
              · skip
                refine ov_blk (ls2 := [(0, ov_r 0), (1, ov_i x), (2, ov_i y), (3, ov_i s), (4, ov_i at_), (5, ov_i v3), (6, ov_i s)]) (st2 := [ov_r 0, ov_i at_]) (pc2 := 81) b_143_78_2 rfl rfl ?_
                refine ov_getf (v := ov_r 58) d_143_81 fl_OF_78 (zb_0 I17) (zs_0 I17) (congrArg ov_r e19) ?_
                refine ov_getf (v := ov_r 60) d_143_84 fl_OF_142 (zb_58 I17) (zs_58 I17) (congrArg ov_r (rg_58_3 I17)) ?_
                refine ov_blk (ls2 := [(0, ov_r 0), (1, ov_i x), (2, ov_i y), (3, ov_i s), (4, ov_i at_), (5, ov_i v3), (6, ov_i s)]) (st2 := [ov_i v3, ov_r 60, ov_i at_]) (pc2 := 89) b_143_87_1 rfl rfl ?_
                refine ov_iald d_143_89 (zb_60 I17) (zs_60 I17) (by omega) ?_
                have g57 := ra_60 I17 v3
                refine ov_iclt (tgt := 95) d_143_90 (by decide) (by omega) (by omega) (fun c58 => ?_) (fun c58 => ?_)
                · skip
                  refine ov_blk (ls2 := [(0, ov_r 0), (1, ov_i x), (2, ov_i y), (3, ov_i s), (4, ov_i at_), (5, ov_i v3), (6, ov_i at_)]) (st2 := [ov_r 0]) (pc2 := 100) b_143_95_3 rfl rfl ?_
                  refine ov_getf (v := ov_r 36) d_143_100 fl_OF_50 (zb_0 I17) (zs_0 I17) (congrArg ov_r (rg_0_6 I17)) ?_
                  refine ov_blk (ls2 := [(0, ov_r 0), (1, ov_i x), (2, ov_i y), (3, ov_i s), (4, ov_i at_), (5, ov_i v3), (6, ov_i at_)]) (st2 := [ov_i at_, ov_i s, ov_i v3, ov_r 36]) (pc2 := 108) b_143_103_3 rfl rfl ?_
                  refine ov_cV (as := [ov_i v3, ov_i s, ov_i at_]) (st := []) (d2 := d - 1) d_143_108 lk_OF_231 rfl (Nat.le_of_ble_eq_true rfl) (c := 2) (zb_36 I17) (zs_36 I17) ⟨by decide, rfl⟩ (by omega) (c_Goers_wayOf_36_k36_8_70_all (53 - (v3)).toNat (d - 1) (by omega) U I17 v3 s at_ e20 (by omega) (by omega) (by omega) (by omega)) ?_
                  rintro _ z61 h62 ⟨v60, rfl, I63, f59⟩
                  show ov_R u d ov_m143 111 [(0, ov_r 0), (1, ov_i x), (2, ov_i y), (3, ov_i s), (4, ov_i at_), (5, ov_i v3), (6, ov_i at_)] [ov_i v60] z61 h62 (P_OF_choice_0 z h x y s at_)
                  have f64 : (v60 = -1 ∨ (v60 = 0 ∧ v3 ≤ 52) ∨ (v60 = 1 ∧ v3 ≤ 47)) ∧ (h62 36 7) = (h16 36 7) ∧ (h62 1 1) = (h16 1 1) ∧ (h62 90 2) = (h16 90 2) ∧ (h62 0 10) = (h16 0 10) ∧ (h62 0 11) = (h16 0 11) ∧ (h62 0 12) = (h16 0 12) ∧ (h62 0 13) = (h16 0 13) ∧ (h62 3 1) = (h16 3 1) ∧ (h62 36 8) = (h16 36 8) ∧ (h62 46 3) = (h16 46 3) ∧ (h62 46 4) = (h16 46 4) ∧ (h62 49 4) = (h16 49 4) ∧ (h62 49 5) = (h16 49 5) := f59
                  clear f59
                  have e65 : h62 0 10 = 58 := by omega
                  have e66 : h62 36 8 = 70 := by omega
                  exact ov_reti (st := []) d_143_111 rfl ⟨_, rfl, I63, (by show ((h62 36 7) = 1 → ¬ (h62 36 8) = -1) ∧ (h62 1 1) = (h 1 1) ∧ (h62 90 2) = (h 90 2) ∧ (h62 0 10) = (h 0 10) ∧ (h62 0 11) = (h 0 11) ∧ (h62 0 12) = (h 0 12) ∧ (h62 0 13) = (h 0 13) ∧ (h62 3 1) = (h 3 1) ∧ (h62 46 3) = (h 46 3) ∧ (h62 46 4) = (h 46 4) ∧ (h62 49 4) = (h 49 4) ∧ (h62 49 5) = (h 49 5); omega)⟩
                · skip
                  refine ov_blk (ls2 := [(0, ov_r 0), (1, ov_i x), (2, ov_i y), (3, ov_i s), (4, ov_i at_), (5, ov_i v3), (6, ov_i s)]) (st2 := [ov_i (-1)]) (pc2 := 94) b_143_93_1 rfl rfl ?_
                  exact ov_reti (st := []) d_143_94 rfl ⟨_, rfl, I17, (by show ((h16 36 7) = 1 → ¬ (h16 36 8) = -1) ∧ (h16 1 1) = (h 1 1) ∧ (h16 90 2) = (h 90 2) ∧ (h16 0 10) = (h 0 10) ∧ (h16 0 11) = (h 0 11) ∧ (h16 0 12) = (h 0 12) ∧ (h16 0 13) = (h 0 13) ∧ (h16 3 1) = (h 3 1) ∧ (h16 46 3) = (h 46 3) ∧ (h16 46 4) = (h 46 4) ∧ (h16 49 4) = (h 49 4) ∧ (h16 49 5) = (h 49 5); omega)⟩
        · skip
          refine ov_blk (ls2 := [(0, ov_r 0), (1, ov_i x), (2, ov_i y), (3, ov_i s), (4, ov_i at_), (5, ov_i v3)]) (st2 := [ov_i (-1)]) (pc2 := 37) b_143_36_1 rfl rfl ?_
          exact ov_reti (st := []) d_143_37 rfl ⟨_, rfl, I, (by show ((h 36 7) = 1 → ¬ (h 36 8) = -1) ∧ (h 1 1) = (h 1 1) ∧ (h 90 2) = (h 90 2) ∧ (h 0 10) = (h 0 10) ∧ (h 0 11) = (h 0 11) ∧ (h 0 12) = (h 0 12) ∧ (h 0 13) = (h 0 13) ∧ (h 3 1) = (h 3 1) ∧ (h 46 3) = (h 46 3) ∧ (h 46 4) = (h 46 4) ∧ (h 49 4) = (h 49 4) ∧ (h 49 5) = (h 49 5); omega)⟩
  · skip
    refine ov_getf (v := ov_r 70) d_143_1 fl_OF_78 (zb_0 I) (zs_0 I) (congrArg ov_r e1) ?_
    refine ov_blk (ls2 := [(0, ov_r 0), (1, ov_i x), (2, ov_i y), (3, ov_i s), (4, ov_i at_)]) (st2 := [ov_i y, ov_i x, ov_r 70]) (pc2 := 6) b_143_4_2 rfl rfl ?_
    refine ov_cV (as := [ov_i x, ov_i y]) (st := []) (d2 := d - 1) d_143_6 lk_OF_131 rfl (Nat.le_of_ble_eq_true rfl) (c := 9) (zb_70 I) (zs_70 I) ⟨by decide, rfl⟩ (by omega) (c_Town_corner_70 (d - 1) (by omega) U I x y (by omega) (by omega)) ?_
    rintro _ _ _ ⟨v68, rfl, rfl, rfl, f67⟩
    show ov_R u d ov_m143 9 [(0, ov_r 0), (1, ov_i x), (2, ov_i y), (3, ov_i s), (4, ov_i at_)] [ov_i v68] z h (P_OF_choice_0 z h x y s at_)
    have f69 : v68 = -1 ∨ (0 ≤ x ∧ x < (h 70 0) ∧ 0 ≤ y ∧ y < (h 70 1) ∧ v68 = y * 6 + x ∧ (h 70 0) ≤ 6 ∧ (h 70 1) ≤ 9) := f67
    clear f67
    refine ov_blk (ls2 := [(0, ov_r 0), (1, ov_i x), (2, ov_i y), (3, ov_i s), (4, ov_i at_), (5, ov_i v68)]) (st2 := [ov_i (-1), ov_i v68]) (pc2 := 14) b_143_9_3 rfl rfl ?_
    refine ov_iceq (tgt := 36) d_143_14 (by decide) (by omega) (by omega) (fun c70 => ?_) (fun c70 => ?_)
    · skip
      refine ov_blk (ls2 := [(0, ov_r 0), (1, ov_i x), (2, ov_i y), (3, ov_i s), (4, ov_i at_), (5, ov_i v68)]) (st2 := [ov_i (-1)]) (pc2 := 37) b_143_36_1 rfl rfl ?_
      exact ov_reti (st := []) d_143_37 rfl ⟨_, rfl, I, (by show ((h 36 7) = 1 → ¬ (h 36 8) = -1) ∧ (h 1 1) = (h 1 1) ∧ (h 90 2) = (h 90 2) ∧ (h 0 10) = (h 0 10) ∧ (h 0 11) = (h 0 11) ∧ (h 0 12) = (h 0 12) ∧ (h 0 13) = (h 0 13) ∧ (h 3 1) = (h 3 1) ∧ (h 46 3) = (h 46 3) ∧ (h 46 4) = (h 46 4) ∧ (h 49 4) = (h 49 4) ∧ (h 49 5) = (h 49 5); omega)⟩
    · skip
      refine ov_blk (ls2 := [(0, ov_r 0), (1, ov_i x), (2, ov_i y), (3, ov_i s), (4, ov_i at_), (5, ov_i v68)]) (st2 := [ov_r 0, ov_i v68]) (pc2 := 20) b_143_17_2 rfl rfl ?_
      refine ov_getf (v := ov_r 70) d_143_20 fl_OF_78 (zb_0 I) (zs_0 I) (congrArg ov_r e1) ?_
      refine ov_cV (as := []) (st := [ov_i v68]) (d2 := d - 1) d_143_23 lk_OF_225 rfl (Nat.le_of_ble_eq_true rfl) (c := 9) (zb_70 I) (zs_70 I) ⟨by decide, rfl⟩ (by omega) (c_Town_home_70 (d - 1) (by omega) U I) ?_
      rintro _ _ _ ⟨v72, rfl, rfl, rfl, f71⟩
      show ov_R u d ov_m143 26 [(0, ov_r 0), (1, ov_i x), (2, ov_i y), (3, ov_i s), (4, ov_i at_), (5, ov_i v68)] [ov_i v72, ov_i v68] z h (P_OF_choice_0 z h x y s at_)
      have f73 : v72 = ((h 70 1) - 1) * 6 + (h 70 0) - 1 ∧ 0 ≤ v72 ∧ v72 ≤ 53 := f71
      clear f71
      refine ov_iceq (tgt := 36) d_143_26 (by decide) (by omega) (by omega) (fun c74 => ?_) (fun c74 => ?_)
      · skip
        refine ov_blk (ls2 := [(0, ov_r 0), (1, ov_i x), (2, ov_i y), (3, ov_i s), (4, ov_i at_), (5, ov_i v68)]) (st2 := [ov_i (-1)]) (pc2 := 37) b_143_36_1 rfl rfl ?_
        exact ov_reti (st := []) d_143_37 rfl ⟨_, rfl, I, (by show ((h 36 7) = 1 → ¬ (h 36 8) = -1) ∧ (h 1 1) = (h 1 1) ∧ (h 90 2) = (h 90 2) ∧ (h 0 10) = (h 0 10) ∧ (h 0 11) = (h 0 11) ∧ (h 0 12) = (h 0 12) ∧ (h 0 13) = (h 0 13) ∧ (h 3 1) = (h 3 1) ∧ (h 46 3) = (h 46 3) ∧ (h 46 4) = (h 46 4) ∧ (h 49 4) = (h 49 4) ∧ (h 49 5) = (h 49 5); omega)⟩
      · skip
        refine ov_blk (ls2 := [(0, ov_r 0), (1, ov_i x), (2, ov_i y), (3, ov_i s), (4, ov_i at_), (5, ov_i v68)]) (st2 := [ov_i s]) (pc2 := 30) b_143_29_1 rfl rfl ?_
        refine ov_cS (as := [ov_i s]) (st := []) (d2 := d - 1) d_143_30 lk_OF_155 rfl (Nat.le_of_ble_eq_true rfl) (by omega) (c_OF_isSecond (d - 1) (by omega) U I s (by omega)) ?_
        rintro _ _ _ ⟨v76, rfl, rfl, rfl, f75⟩
        show ov_R u d ov_m143 33 [(0, ov_r 0), (1, ov_i x), (2, ov_i y), (3, ov_i s), (4, ov_i at_), (5, ov_i v68)] [ov_i v76] z h (P_OF_choice_0 z h x y s at_)
        have f77 : (v76 = 0 ∨ v76 = 1) ∧ (v76 = 1 → 0 ≤ s ∧ s ≤ 1000000) := f75
        clear f75
        refine ov_ifne (tgt := 38) d_143_33 (by decide) (by omega) (fun c78 => ?_) (fun c78 => ?_)
        · skip
          refine ov_blk (ls2 := [(0, ov_r 0), (1, ov_i x), (2, ov_i y), (3, ov_i s), (4, ov_i at_), (5, ov_i v68)]) (st2 := [ov_r 0]) (pc2 := 39) b_143_38_1 rfl rfl ?_
          refine ov_getf (v := ov_r 36) d_143_39 fl_OF_50 (zb_0 I) (zs_0 I) (congrArg ov_r (rg_0_6 I)) ?_
          refine ov_blk (ls2 := [(0, ov_r 0), (1, ov_i x), (2, ov_i y), (3, ov_i s), (4, ov_i at_), (5, ov_i v68)]) (st2 := [ov_r 0, ov_r 36]) (pc2 := 43) b_143_42_1 rfl rfl ?_
          refine ov_getf (v := ov_r 70) d_143_43 fl_OF_78 (zb_0 I) (zs_0 I) (congrArg ov_r e1) ?_
          refine ov_blk (ls2 := [(0, ov_r 0), (1, ov_i x), (2, ov_i y), (3, ov_i s), (4, ov_i at_), (5, ov_i v68)]) (st2 := [ov_r 0, ov_r 70, ov_r 36]) (pc2 := 47) b_143_46_1 rfl rfl ?_
          refine ov_getf (v := ov_r 4) d_143_47 fl_OF_28 (zb_0 I) (zs_0 I) (congrArg ov_r (rg_0_2 I)) ?_
          refine ov_getf (v := ov_l (h 4 3)) d_143_50 fl_OF_192 (zb_4 I) (zs_4 I) rfl ?_
          refine ov_blk (ls2 := [(0, ov_r 0), (1, ov_i x), (2, ov_i y), (3, ov_i s), (4, ov_i at_), (5, ov_i v68)]) (st2 := [ov_i 0, ov_i 3, ov_l (h 4 3), ov_r 70, ov_r 36]) (pc2 := 55) b_143_53_2 rfl rfl ?_
          refine ov_cV (as := [ov_r 70, ov_l (h 4 3), ov_i 3, ov_i 0]) (st := []) (d2 := d - 1) d_143_55 lk_OF_218 rfl (Nat.le_of_ble_eq_true rfl) (c := 2) (zb_36 I) (zs_36 I) ⟨by decide, rfl⟩ (by omega) (c_Goers_ask_36_70 (d - 1) (by omega) U I (h 4 3) 3 0 (by omega) (by omega) (by omega)) ?_
          rintro _ z80 h81 ⟨rfl, I82, f79⟩
          show ov_R u d ov_m143 58 [(0, ov_r 0), (1, ov_i x), (2, ov_i y), (3, ov_i s), (4, ov_i at_), (5, ov_i v68)] [] z80 h81 (P_OF_choice_0 z h x y s at_)
          have f83 : ((h81 36 8) = 58 ∨ (h81 36 8) = 70) ∧ (h81 36 7) = 1 ∧ (h81 1 1) = (h 1 1) ∧ (h81 90 2) = (h 90 2) ∧ (h81 0 10) = (h 0 10) ∧ (h81 0 11) = (h 0 11) ∧ (h81 0 12) = (h 0 12) ∧ (h81 0 13) = (h 0 13) ∧ (h81 3 1) = (h 3 1) ∧ (h81 46 3) = (h 46 3) ∧ (h81 46 4) = (h 46 4) ∧ (h81 49 4) = (h 49 4) ∧ (h81 49 5) = (h 49 5) := f79
          clear f79
          have e84 : h81 0 10 = 70 := by omega
          refine ov_blk (ls2 := [(0, ov_r 0), (1, ov_i x), (2, ov_i y), (3, ov_i s), (4, ov_i at_), (5, ov_i v68), (6, ov_i s)]) (st2 := [ov_r 0]) (pc2 := 62) b_143_58_3 rfl rfl ?_
          refine ov_getf (v := ov_r 36) d_143_62 fl_OF_50 (zb_0 I82) (zs_0 I82) (congrArg ov_r (rg_0_6 I82)) ?_
          refine ov_blk (ls2 := [(0, ov_r 0), (1, ov_i x), (2, ov_i y), (3, ov_i s), (4, ov_i at_), (5, ov_i v68), (6, ov_i s)]) (st2 := [ov_i v68, ov_r 36]) (pc2 := 67) b_143_65_1 rfl rfl ?_
          rcases rg_36_8 I82 with e85 | e85 | e85
          · omega
          · skip
            refine ov_cV (as := [ov_i v68]) (st := []) (d2 := d - 1) d_143_67 lk_OF_228 rfl (Nat.le_of_ble_eq_true rfl) (c := 2) (zb_36 I82) (zs_36 I82) ⟨by decide, rfl⟩ (by omega) (c_Goers_hides_36_k36_8_58 (d - 1) (by omega) U I82 v68 e85 (by omega) (by omega)) ?_
            rintro _ _ _ ⟨v87, rfl, rfl, rfl, f86⟩
            show ov_R u d ov_m143 70 [(0, ov_r 0), (1, ov_i x), (2, ov_i y), (3, ov_i s), (4, ov_i at_), (5, ov_i v68), (6, ov_i s)] [ov_i v87] z80 h81 (P_OF_choice_0 z h x y s at_)
            have f88 : (v87 = 0 ∨ v87 = 1) := f86
            clear f86
            refine ov_ifeq (tgt := 99) d_143_70 (by decide) (by omega) (fun c89 => ?_) (fun c89 => ?_)
            · skip
              refine ov_blk (ls2 := [(0, ov_r 0), (1, ov_i x), (2, ov_i y), (3, ov_i s), (4, ov_i at_), (5, ov_i v68), (6, ov_i s)]) (st2 := [ov_r 0]) (pc2 := 100) b_143_99_1 rfl rfl ?_
              refine ov_getf (v := ov_r 36) d_143_100 fl_OF_50 (zb_0 I82) (zs_0 I82) (congrArg ov_r (rg_0_6 I82)) ?_
              refine ov_blk (ls2 := [(0, ov_r 0), (1, ov_i x), (2, ov_i y), (3, ov_i s), (4, ov_i at_), (5, ov_i v68), (6, ov_i s)]) (st2 := [ov_i s, ov_i s, ov_i v68, ov_r 36]) (pc2 := 108) b_143_103_3 rfl rfl ?_
              refine ov_cV (as := [ov_i v68, ov_i s, ov_i s]) (st := []) (d2 := d - 1) d_143_108 lk_OF_231 rfl (Nat.le_of_ble_eq_true rfl) (c := 2) (zb_36 I82) (zs_36 I82) ⟨by decide, rfl⟩ (by omega) (c_Goers_wayOf_36_k36_8_58_all (53 - (v68)).toNat (d - 1) (by omega) U I82 v68 s s e85 (by omega) (by omega) (by omega) (by omega)) ?_
              rintro _ z92 h93 ⟨v91, rfl, I94, f90⟩
              show ov_R u d ov_m143 111 [(0, ov_r 0), (1, ov_i x), (2, ov_i y), (3, ov_i s), (4, ov_i at_), (5, ov_i v68), (6, ov_i s)] [ov_i v91] z92 h93 (P_OF_choice_0 z h x y s at_)
              have f95 : (v91 = -1 ∨ (v91 = 0 ∧ v68 ≤ 52) ∨ (v91 = 1 ∧ v68 ≤ 47)) ∧ (h93 36 7) = (h81 36 7) ∧ (h93 1 1) = (h81 1 1) ∧ (h93 90 2) = (h81 90 2) ∧ (h93 0 10) = (h81 0 10) ∧ (h93 0 11) = (h81 0 11) ∧ (h93 0 12) = (h81 0 12) ∧ (h93 0 13) = (h81 0 13) ∧ (h93 3 1) = (h81 3 1) ∧ (h93 36 8) = (h81 36 8) ∧ (h93 46 3) = (h81 46 3) ∧ (h93 46 4) = (h81 46 4) ∧ (h93 49 4) = (h81 49 4) ∧ (h93 49 5) = (h81 49 5) := f90
              clear f90
              have e96 : h93 0 10 = 70 := by omega
              have e97 : h93 36 8 = 58 := by omega
              exact ov_reti (st := []) d_143_111 rfl ⟨_, rfl, I94, (by show ((h93 36 7) = 1 → ¬ (h93 36 8) = -1) ∧ (h93 1 1) = (h 1 1) ∧ (h93 90 2) = (h 90 2) ∧ (h93 0 10) = (h 0 10) ∧ (h93 0 11) = (h 0 11) ∧ (h93 0 12) = (h 0 12) ∧ (h93 0 13) = (h 0 13) ∧ (h93 3 1) = (h 3 1) ∧ (h93 46 3) = (h 46 3) ∧ (h93 46 4) = (h 46 4) ∧ (h93 49 4) = (h 49 4) ∧ (h93 49 5) = (h 49 5); omega)⟩
            · skip
              refine ov_blk (ls2 := [(0, ov_r 0), (1, ov_i x), (2, ov_i y), (3, ov_i s), (4, ov_i at_), (5, ov_i v68), (6, ov_i s)]) (st2 := [ov_i at_]) (pc2 := 75) b_143_73_1 rfl rfl ?_
              refine ov_iflt (tgt := 93) d_143_75 (by decide) (by omega) (fun c98 => ?_) (fun c98 => ?_)
              · skip
                refine ov_blk (ls2 := [(0, ov_r 0), (1, ov_i x), (2, ov_i y), (3, ov_i s), (4, ov_i at_), (5, ov_i v68), (6, ov_i s)]) (st2 := [ov_i (-1)]) (pc2 := 94) b_143_93_1 rfl rfl ?_
                exact ov_reti (st := []) d_143_94 rfl ⟨_, rfl, I82, (by show ((h81 36 7) = 1 → ¬ (h81 36 8) = -1) ∧ (h81 1 1) = (h 1 1) ∧ (h81 90 2) = (h 90 2) ∧ (h81 0 10) = (h 0 10) ∧ (h81 0 11) = (h 0 11) ∧ (h81 0 12) = (h 0 12) ∧ (h81 0 13) = (h 0 13) ∧ (h81 3 1) = (h 3 1) ∧ (h81 46 3) = (h 46 3) ∧ (h81 46 4) = (h 46 4) ∧ (h81 49 4) = (h 49 4) ∧ (h81 49 5) = (h 49 5); omega)⟩
              · skip
                refine ov_blk (ls2 := [(0, ov_r 0), (1, ov_i x), (2, ov_i y), (3, ov_i s), (4, ov_i at_), (5, ov_i v68), (6, ov_i s)]) (st2 := [ov_r 0, ov_i at_]) (pc2 := 81) b_143_78_2 rfl rfl ?_
                refine ov_getf (v := ov_r 70) d_143_81 fl_OF_78 (zb_0 I82) (zs_0 I82) (congrArg ov_r e84) ?_
                refine ov_getf (v := ov_r 72) d_143_84 fl_OF_142 (zb_70 I82) (zs_70 I82) (congrArg ov_r (rg_70_3 I82)) ?_
                refine ov_blk (ls2 := [(0, ov_r 0), (1, ov_i x), (2, ov_i y), (3, ov_i s), (4, ov_i at_), (5, ov_i v68), (6, ov_i s)]) (st2 := [ov_i v68, ov_r 72, ov_i at_]) (pc2 := 89) b_143_87_1 rfl rfl ?_
                refine ov_iald d_143_89 (zb_72 I82) (zs_72 I82) (by omega) ?_
                have g99 := ra_72 I82 v68
                refine ov_iclt (tgt := 95) d_143_90 (by decide) (by omega) (by omega) (fun c100 => ?_) (fun c100 => ?_)
                · skip
                  refine ov_blk (ls2 := [(0, ov_r 0), (1, ov_i x), (2, ov_i y), (3, ov_i s), (4, ov_i at_), (5, ov_i v68), (6, ov_i at_)]) (st2 := [ov_r 0]) (pc2 := 100) b_143_95_3 rfl rfl ?_
                  refine ov_getf (v := ov_r 36) d_143_100 fl_OF_50 (zb_0 I82) (zs_0 I82) (congrArg ov_r (rg_0_6 I82)) ?_
                  refine ov_blk (ls2 := [(0, ov_r 0), (1, ov_i x), (2, ov_i y), (3, ov_i s), (4, ov_i at_), (5, ov_i v68), (6, ov_i at_)]) (st2 := [ov_i at_, ov_i s, ov_i v68, ov_r 36]) (pc2 := 108) b_143_103_3 rfl rfl ?_
                  refine ov_cV (as := [ov_i v68, ov_i s, ov_i at_]) (st := []) (d2 := d - 1) d_143_108 lk_OF_231 rfl (Nat.le_of_ble_eq_true rfl) (c := 2) (zb_36 I82) (zs_36 I82) ⟨by decide, rfl⟩ (by omega) (c_Goers_wayOf_36_k36_8_58_all (53 - (v68)).toNat (d - 1) (by omega) U I82 v68 s at_ e85 (by omega) (by omega) (by omega) (by omega)) ?_
                  rintro _ z103 h104 ⟨v102, rfl, I105, f101⟩
                  show ov_R u d ov_m143 111 [(0, ov_r 0), (1, ov_i x), (2, ov_i y), (3, ov_i s), (4, ov_i at_), (5, ov_i v68), (6, ov_i at_)] [ov_i v102] z103 h104 (P_OF_choice_0 z h x y s at_)
                  have f106 : (v102 = -1 ∨ (v102 = 0 ∧ v68 ≤ 52) ∨ (v102 = 1 ∧ v68 ≤ 47)) ∧ (h104 36 7) = (h81 36 7) ∧ (h104 1 1) = (h81 1 1) ∧ (h104 90 2) = (h81 90 2) ∧ (h104 0 10) = (h81 0 10) ∧ (h104 0 11) = (h81 0 11) ∧ (h104 0 12) = (h81 0 12) ∧ (h104 0 13) = (h81 0 13) ∧ (h104 3 1) = (h81 3 1) ∧ (h104 36 8) = (h81 36 8) ∧ (h104 46 3) = (h81 46 3) ∧ (h104 46 4) = (h81 46 4) ∧ (h104 49 4) = (h81 49 4) ∧ (h104 49 5) = (h81 49 5) := f101
                  clear f101
                  have e107 : h104 0 10 = 70 := by omega
                  have e108 : h104 36 8 = 58 := by omega
                  exact ov_reti (st := []) d_143_111 rfl ⟨_, rfl, I105, (by show ((h104 36 7) = 1 → ¬ (h104 36 8) = -1) ∧ (h104 1 1) = (h 1 1) ∧ (h104 90 2) = (h 90 2) ∧ (h104 0 10) = (h 0 10) ∧ (h104 0 11) = (h 0 11) ∧ (h104 0 12) = (h 0 12) ∧ (h104 0 13) = (h 0 13) ∧ (h104 3 1) = (h 3 1) ∧ (h104 46 3) = (h 46 3) ∧ (h104 46 4) = (h 46 4) ∧ (h104 49 4) = (h 49 4) ∧ (h104 49 5) = (h 49 5); omega)⟩
                · skip
                  refine ov_blk (ls2 := [(0, ov_r 0), (1, ov_i x), (2, ov_i y), (3, ov_i s), (4, ov_i at_), (5, ov_i v68), (6, ov_i s)]) (st2 := [ov_i (-1)]) (pc2 := 94) b_143_93_1 rfl rfl ?_
                  exact ov_reti (st := []) d_143_94 rfl ⟨_, rfl, I82, (by show ((h81 36 7) = 1 → ¬ (h81 36 8) = -1) ∧ (h81 1 1) = (h 1 1) ∧ (h81 90 2) = (h 90 2) ∧ (h81 0 10) = (h 0 10) ∧ (h81 0 11) = (h 0 11) ∧ (h81 0 12) = (h 0 12) ∧ (h81 0 13) = (h 0 13) ∧ (h81 3 1) = (h 3 1) ∧ (h81 46 3) = (h 46 3) ∧ (h81 46 4) = (h 46 4) ∧ (h81 49 4) = (h 49 4) ∧ (h81 49 5) = (h 49 5); omega)⟩
          · skip
            refine ov_cV (as := [ov_i v68]) (st := []) (d2 := d - 1) d_143_67 lk_OF_228 rfl (Nat.le_of_ble_eq_true rfl) (c := 2) (zb_36 I82) (zs_36 I82) ⟨by decide, rfl⟩ (by omega) (c_Goers_hides_36_k36_8_70 (d - 1) (by omega) U I82 v68 e85 (by omega) (by omega)) ?_
            rintro _ _ _ ⟨v110, rfl, rfl, rfl, f109⟩
            show ov_R u d ov_m143 70 [(0, ov_r 0), (1, ov_i x), (2, ov_i y), (3, ov_i s), (4, ov_i at_), (5, ov_i v68), (6, ov_i s)] [ov_i v110] z80 h81 (P_OF_choice_0 z h x y s at_)
            have f111 : (v110 = 0 ∨ v110 = 1) := f109
            clear f109
            refine ov_ifeq (tgt := 99) d_143_70 (by decide) (by omega) (fun c112 => ?_) (fun c112 => ?_)
            · skip
              refine ov_blk (ls2 := [(0, ov_r 0), (1, ov_i x), (2, ov_i y), (3, ov_i s), (4, ov_i at_), (5, ov_i v68), (6, ov_i s)]) (st2 := [ov_r 0]) (pc2 := 100) b_143_99_1 rfl rfl ?_
              refine ov_getf (v := ov_r 36) d_143_100 fl_OF_50 (zb_0 I82) (zs_0 I82) (congrArg ov_r (rg_0_6 I82)) ?_
              refine ov_blk (ls2 := [(0, ov_r 0), (1, ov_i x), (2, ov_i y), (3, ov_i s), (4, ov_i at_), (5, ov_i v68), (6, ov_i s)]) (st2 := [ov_i s, ov_i s, ov_i v68, ov_r 36]) (pc2 := 108) b_143_103_3 rfl rfl ?_
              refine ov_cV (as := [ov_i v68, ov_i s, ov_i s]) (st := []) (d2 := d - 1) d_143_108 lk_OF_231 rfl (Nat.le_of_ble_eq_true rfl) (c := 2) (zb_36 I82) (zs_36 I82) ⟨by decide, rfl⟩ (by omega) (c_Goers_wayOf_36_k36_8_70_all (53 - (v68)).toNat (d - 1) (by omega) U I82 v68 s s e85 (by omega) (by omega) (by omega) (by omega)) ?_
              rintro _ z115 h116 ⟨v114, rfl, I117, f113⟩
              show ov_R u d ov_m143 111 [(0, ov_r 0), (1, ov_i x), (2, ov_i y), (3, ov_i s), (4, ov_i at_), (5, ov_i v68), (6, ov_i s)] [ov_i v114] z115 h116 (P_OF_choice_0 z h x y s at_)
              have f118 : (v114 = -1 ∨ (v114 = 0 ∧ v68 ≤ 52) ∨ (v114 = 1 ∧ v68 ≤ 47)) ∧ (h116 36 7) = (h81 36 7) ∧ (h116 1 1) = (h81 1 1) ∧ (h116 90 2) = (h81 90 2) ∧ (h116 0 10) = (h81 0 10) ∧ (h116 0 11) = (h81 0 11) ∧ (h116 0 12) = (h81 0 12) ∧ (h116 0 13) = (h81 0 13) ∧ (h116 3 1) = (h81 3 1) ∧ (h116 36 8) = (h81 36 8) ∧ (h116 46 3) = (h81 46 3) ∧ (h116 46 4) = (h81 46 4) ∧ (h116 49 4) = (h81 49 4) ∧ (h116 49 5) = (h81 49 5) := f113
              clear f113
              have e119 : h116 0 10 = 70 := by omega
              have e120 : h116 36 8 = 70 := by omega
              exact ov_reti (st := []) d_143_111 rfl ⟨_, rfl, I117, (by show ((h116 36 7) = 1 → ¬ (h116 36 8) = -1) ∧ (h116 1 1) = (h 1 1) ∧ (h116 90 2) = (h 90 2) ∧ (h116 0 10) = (h 0 10) ∧ (h116 0 11) = (h 0 11) ∧ (h116 0 12) = (h 0 12) ∧ (h116 0 13) = (h 0 13) ∧ (h116 3 1) = (h 3 1) ∧ (h116 46 3) = (h 46 3) ∧ (h116 46 4) = (h 46 4) ∧ (h116 49 4) = (h 49 4) ∧ (h116 49 5) = (h 49 5); omega)⟩
            · skip
              refine ov_blk (ls2 := [(0, ov_r 0), (1, ov_i x), (2, ov_i y), (3, ov_i s), (4, ov_i at_), (5, ov_i v68), (6, ov_i s)]) (st2 := [ov_i at_]) (pc2 := 75) b_143_73_1 rfl rfl ?_
              refine ov_iflt (tgt := 93) d_143_75 (by decide) (by omega) (fun c121 => ?_) (fun c121 => ?_)
              · skip
                refine ov_blk (ls2 := [(0, ov_r 0), (1, ov_i x), (2, ov_i y), (3, ov_i s), (4, ov_i at_), (5, ov_i v68), (6, ov_i s)]) (st2 := [ov_i (-1)]) (pc2 := 94) b_143_93_1 rfl rfl ?_
                exact ov_reti (st := []) d_143_94 rfl ⟨_, rfl, I82, (by show ((h81 36 7) = 1 → ¬ (h81 36 8) = -1) ∧ (h81 1 1) = (h 1 1) ∧ (h81 90 2) = (h 90 2) ∧ (h81 0 10) = (h 0 10) ∧ (h81 0 11) = (h 0 11) ∧ (h81 0 12) = (h 0 12) ∧ (h81 0 13) = (h 0 13) ∧ (h81 3 1) = (h 3 1) ∧ (h81 46 3) = (h 46 3) ∧ (h81 46 4) = (h 46 4) ∧ (h81 49 4) = (h 49 4) ∧ (h81 49 5) = (h 49 5); omega)⟩
              · skip
                refine ov_blk (ls2 := [(0, ov_r 0), (1, ov_i x), (2, ov_i y), (3, ov_i s), (4, ov_i at_), (5, ov_i v68), (6, ov_i s)]) (st2 := [ov_r 0, ov_i at_]) (pc2 := 81) b_143_78_2 rfl rfl ?_
                refine ov_getf (v := ov_r 70) d_143_81 fl_OF_78 (zb_0 I82) (zs_0 I82) (congrArg ov_r e84) ?_
                refine ov_getf (v := ov_r 72) d_143_84 fl_OF_142 (zb_70 I82) (zs_70 I82) (congrArg ov_r (rg_70_3 I82)) ?_
                refine ov_blk (ls2 := [(0, ov_r 0), (1, ov_i x), (2, ov_i y), (3, ov_i s), (4, ov_i at_), (5, ov_i v68), (6, ov_i s)]) (st2 := [ov_i v68, ov_r 72, ov_i at_]) (pc2 := 89) b_143_87_1 rfl rfl ?_
                refine ov_iald d_143_89 (zb_72 I82) (zs_72 I82) (by omega) ?_
                have g122 := ra_72 I82 v68
                refine ov_iclt (tgt := 95) d_143_90 (by decide) (by omega) (by omega) (fun c123 => ?_) (fun c123 => ?_)
                · skip
                  refine ov_blk (ls2 := [(0, ov_r 0), (1, ov_i x), (2, ov_i y), (3, ov_i s), (4, ov_i at_), (5, ov_i v68), (6, ov_i at_)]) (st2 := [ov_r 0]) (pc2 := 100) b_143_95_3 rfl rfl ?_
                  refine ov_getf (v := ov_r 36) d_143_100 fl_OF_50 (zb_0 I82) (zs_0 I82) (congrArg ov_r (rg_0_6 I82)) ?_
                  refine ov_blk (ls2 := [(0, ov_r 0), (1, ov_i x), (2, ov_i y), (3, ov_i s), (4, ov_i at_), (5, ov_i v68), (6, ov_i at_)]) (st2 := [ov_i at_, ov_i s, ov_i v68, ov_r 36]) (pc2 := 108) b_143_103_3 rfl rfl ?_
                  refine ov_cV (as := [ov_i v68, ov_i s, ov_i at_]) (st := []) (d2 := d - 1) d_143_108 lk_OF_231 rfl (Nat.le_of_ble_eq_true rfl) (c := 2) (zb_36 I82) (zs_36 I82) ⟨by decide, rfl⟩ (by omega) (c_Goers_wayOf_36_k36_8_70_all (53 - (v68)).toNat (d - 1) (by omega) U I82 v68 s at_ e85 (by omega) (by omega) (by omega) (by omega)) ?_
                  rintro _ z126 h127 ⟨v125, rfl, I128, f124⟩
                  show ov_R u d ov_m143 111 [(0, ov_r 0), (1, ov_i x), (2, ov_i y), (3, ov_i s), (4, ov_i at_), (5, ov_i v68), (6, ov_i at_)] [ov_i v125] z126 h127 (P_OF_choice_0 z h x y s at_)
                  have f129 : (v125 = -1 ∨ (v125 = 0 ∧ v68 ≤ 52) ∨ (v125 = 1 ∧ v68 ≤ 47)) ∧ (h127 36 7) = (h81 36 7) ∧ (h127 1 1) = (h81 1 1) ∧ (h127 90 2) = (h81 90 2) ∧ (h127 0 10) = (h81 0 10) ∧ (h127 0 11) = (h81 0 11) ∧ (h127 0 12) = (h81 0 12) ∧ (h127 0 13) = (h81 0 13) ∧ (h127 3 1) = (h81 3 1) ∧ (h127 36 8) = (h81 36 8) ∧ (h127 46 3) = (h81 46 3) ∧ (h127 46 4) = (h81 46 4) ∧ (h127 49 4) = (h81 49 4) ∧ (h127 49 5) = (h81 49 5) := f124
                  clear f124
                  have e130 : h127 0 10 = 70 := by omega
                  have e131 : h127 36 8 = 70 := by omega
                  exact ov_reti (st := []) d_143_111 rfl ⟨_, rfl, I128, (by show ((h127 36 7) = 1 → ¬ (h127 36 8) = -1) ∧ (h127 1 1) = (h 1 1) ∧ (h127 90 2) = (h 90 2) ∧ (h127 0 10) = (h 0 10) ∧ (h127 0 11) = (h 0 11) ∧ (h127 0 12) = (h 0 12) ∧ (h127 0 13) = (h 0 13) ∧ (h127 3 1) = (h 3 1) ∧ (h127 46 3) = (h 46 3) ∧ (h127 46 4) = (h 46 4) ∧ (h127 49 4) = (h 49 4) ∧ (h127 49 5) = (h 49 5); omega)⟩
                · skip
                  refine ov_blk (ls2 := [(0, ov_r 0), (1, ov_i x), (2, ov_i y), (3, ov_i s), (4, ov_i at_), (5, ov_i v68), (6, ov_i s)]) (st2 := [ov_i (-1)]) (pc2 := 94) b_143_93_1 rfl rfl ?_
                  exact ov_reti (st := []) d_143_94 rfl ⟨_, rfl, I82, (by show ((h81 36 7) = 1 → ¬ (h81 36 8) = -1) ∧ (h81 1 1) = (h 1 1) ∧ (h81 90 2) = (h 90 2) ∧ (h81 0 10) = (h 0 10) ∧ (h81 0 11) = (h 0 11) ∧ (h81 0 12) = (h 0 12) ∧ (h81 0 13) = (h 0 13) ∧ (h81 3 1) = (h 3 1) ∧ (h81 46 3) = (h 46 3) ∧ (h81 46 4) = (h 46 4) ∧ (h81 49 4) = (h 49 4) ∧ (h81 49 5) = (h 49 5); omega)⟩
        · skip
          refine ov_blk (ls2 := [(0, ov_r 0), (1, ov_i x), (2, ov_i y), (3, ov_i s), (4, ov_i at_), (5, ov_i v68)]) (st2 := [ov_i (-1)]) (pc2 := 37) b_143_36_1 rfl rfl ?_
          exact ov_reti (st := []) d_143_37 rfl ⟨_, rfl, I, (by show ((h 36 7) = 1 → ¬ (h 36 8) = -1) ∧ (h 1 1) = (h 1 1) ∧ (h 90 2) = (h 90 2) ∧ (h 0 10) = (h 0 10) ∧ (h 0 11) = (h 0 11) ∧ (h 0 12) = (h 0 12) ∧ (h 0 13) = (h 0 13) ∧ (h 3 1) = (h 3 1) ∧ (h 46 3) = (h 46 3) ∧ (h 46 4) = (h 46 4) ∧ (h 49 4) = (h 49 4) ∧ (h 49 5) = (h 49 5); omega)⟩
abbrev P_OF_gap_0 (z : ov_Z) (h : ov_H) (x : Int) (y : Int) (s : Int) : Option ov_V → ov_Z → ov_H → Prop := fun r0 z' h' => ∃ r : Int, r0 = some (ov_i r) ∧ ov_I z' h' ∧ ((h' 36 7 = 1 → ¬ h' 36 8 = -1) ∧ h' 1 1 = h 1 1 ∧ h' 90 2 = h 90 2 ∧ h' 0 10 = h 0 10 ∧ h' 0 11 = h 0 11 ∧ h' 0 12 = h 0 12 ∧ h' 0 13 = h 0 13 ∧ h' 3 1 = h 3 1 ∧ h' 46 3 = h 46 3 ∧ h' 46 4 = h 46 4 ∧ h' 49 4 = h 49 4 ∧ h' 49 5 = h 49 5)
set_option maxHeartbeats 4000000 in
theorem c_OF_gap_0 {u : ov_U} {z : ov_Z} {h : ov_H} (d : Nat) (hd : 302 ≤ d) (U : ov_cap u) (I : ov_I z h) (x : Int) (y : Int) (s : Int) (g_x : ov_g x) (g_y : ov_g y) (g_s : ov_g s) (p0 : h 36 7 = 1 → ¬ h 36 8 = -1) : ov_T u d ov_m145 [ov_r 0, ov_i x, ov_i y, ov_i s] z h (P_OF_gap_0 z h x y s) := by
  refine ov_en rfl (Nat.le_of_ble_eq_true rfl) ?_
  show ov_R u d ov_m145 0 [(0, ov_r 0), (1, ov_i x), (2, ov_i y), (3, ov_i s)] [] z h (P_OF_gap_0 z h x y s)
  refine ov_blk (ls2 := [(0, ov_r 0), (1, ov_i x), (2, ov_i y), (3, ov_i s)]) (st2 := [ov_i s, ov_i y, ov_i x, ov_i 2, ov_r 0]) (pc2 := 5) b_145_0_5 rfl rfl ?_
  refine ov_cV (as := [ov_i 2, ov_i x, ov_i y, ov_i s]) (st := []) (d2 := d - 1) d_145_5 lk_OF_234 rfl (Nat.le_of_ble_eq_true rfl) (c := 0) (zb_0 I) (zs_0 I) ⟨by decide, rfl⟩ (by omega) (c_OF_mean_0 (d - 1) (by omega) U I 2 x y s (by omega) (by omega) (by omega) (by omega) (by omega)) ?_
  rintro _ z3 h4 ⟨v2, rfl, I5, f1⟩
  show ov_R u d ov_m145 8 [(0, ov_r 0), (1, ov_i x), (2, ov_i y), (3, ov_i s)] [ov_i v2] z3 h4 (P_OF_gap_0 z h x y s)
  have f6 : -2147483648 ≤ v2 ∧ v2 ≤ 2147483647 ∧ ((h4 36 7) = 1 → ¬ (h4 36 8) = -1) ∧ (h4 1 1) = (h 1 1) ∧ (h4 90 2) = (h 90 2) ∧ (h4 0 10) = (h 0 10) ∧ (h4 0 11) = (h 0 11) ∧ (h4 0 12) = (h 0 12) ∧ (h4 0 13) = (h 0 13) ∧ (h4 3 1) = (h 3 1) ∧ (h4 46 3) = (h 46 3) ∧ (h4 46 4) = (h 46 4) ∧ (h4 49 4) = (h 49 4) ∧ (h4 49 5) = (h 49 5) := f1
  clear f1
  refine ov_blk (ls2 := [(0, ov_r 0), (1, ov_i x), (2, ov_i y), (3, ov_i s), (4, ov_i v2)]) (st2 := [ov_i s, ov_i y, ov_i x, ov_i 3, ov_r 0]) (pc2 := 15) b_145_8_6 rfl rfl ?_
  refine ov_cV (as := [ov_i 3, ov_i x, ov_i y, ov_i s]) (st := []) (d2 := d - 1) d_145_15 lk_OF_234 rfl (Nat.le_of_ble_eq_true rfl) (c := 0) (zb_0 I5) (zs_0 I5) ⟨by decide, rfl⟩ (by omega) (c_OF_mean_0 (d - 1) (by omega) U I5 3 x y s (by omega) (by omega) (by omega) (by omega) (by omega)) ?_
  rintro _ z9 h10 ⟨v8, rfl, I11, f7⟩
  show ov_R u d ov_m145 18 [(0, ov_r 0), (1, ov_i x), (2, ov_i y), (3, ov_i s), (4, ov_i v2)] [ov_i v8] z9 h10 (P_OF_gap_0 z h x y s)
  have f12 : -2147483648 ≤ v8 ∧ v8 ≤ 2147483647 ∧ ((h10 36 7) = 1 → ¬ (h10 36 8) = -1) ∧ (h10 1 1) = (h4 1 1) ∧ (h10 90 2) = (h4 90 2) ∧ (h10 0 10) = (h4 0 10) ∧ (h10 0 11) = (h4 0 11) ∧ (h10 0 12) = (h4 0 12) ∧ (h10 0 13) = (h4 0 13) ∧ (h10 3 1) = (h4 3 1) ∧ (h10 46 3) = (h4 46 3) ∧ (h10 46 4) = (h4 46 4) ∧ (h10 49 4) = (h4 49 4) ∧ (h10 49 5) = (h4 49 5) := f7
  clear f7
  refine ov_blk (ls2 := [(0, ov_r 0), (1, ov_i x), (2, ov_i y), (3, ov_i s), (4, ov_i v2), (5, ov_i v8)]) (st2 := [ov_i (-1), ov_i v2]) (pc2 := 23) b_145_18_3 rfl rfl ?_
  refine ov_iceq (tgt := 32) d_145_23 (by decide) (by omega) (by omega) (fun c13 => ?_) (fun c13 => ?_)
  · skip
    refine ov_blk (ls2 := [(0, ov_r 0), (1, ov_i x), (2, ov_i y), (3, ov_i s), (4, ov_i v2), (5, ov_i v8)]) (st2 := [ov_i (-1)]) (pc2 := 33) b_145_32_1 rfl rfl ?_
    refine ov_goto (tgt := 41) d_145_33 (by decide) ?_
    exact ov_reti (st := []) d_145_41 rfl ⟨_, rfl, I11, (by show ((h10 36 7) = 1 → ¬ (h10 36 8) = -1) ∧ (h10 1 1) = (h 1 1) ∧ (h10 90 2) = (h 90 2) ∧ (h10 0 10) = (h 0 10) ∧ (h10 0 11) = (h 0 11) ∧ (h10 0 12) = (h 0 12) ∧ (h10 0 13) = (h 0 13) ∧ (h10 3 1) = (h 3 1) ∧ (h10 46 3) = (h 46 3) ∧ (h10 46 4) = (h 46 4) ∧ (h10 49 4) = (h 49 4) ∧ (h10 49 5) = (h 49 5); omega)⟩
  · skip
    refine ov_blk (ls2 := [(0, ov_r 0), (1, ov_i x), (2, ov_i y), (3, ov_i s), (4, ov_i v2), (5, ov_i v8)]) (st2 := [ov_i (-1), ov_i v8]) (pc2 := 29) b_145_26_2 rfl rfl ?_
    refine ov_icne (tgt := 36) d_145_29 (by decide) (by omega) (by omega) (fun c14 => ?_) (fun c14 => ?_)
    · skip
      refine ov_blk (ls2 := [(0, ov_r 0), (1, ov_i x), (2, ov_i y), (3, ov_i s), (4, ov_i v2), (5, ov_i v8)]) (st2 := [ov_i (v2 - v8)]) (pc2 := 41) b_145_36_3 rfl rfl ?_
      refine ov_havw (fun w15 gw15 qw15 => ?_)
      exact ov_reti (st := []) d_145_41 rfl ⟨_, rfl, I11, (by show ((h10 36 7) = 1 → ¬ (h10 36 8) = -1) ∧ (h10 1 1) = (h 1 1) ∧ (h10 90 2) = (h 90 2) ∧ (h10 0 10) = (h 0 10) ∧ (h10 0 11) = (h 0 11) ∧ (h10 0 12) = (h 0 12) ∧ (h10 0 13) = (h 0 13) ∧ (h10 3 1) = (h 3 1) ∧ (h10 46 3) = (h 46 3) ∧ (h10 46 4) = (h 46 4) ∧ (h10 49 4) = (h 49 4) ∧ (h10 49 5) = (h 49 5); omega)⟩
    · skip
      refine ov_blk (ls2 := [(0, ov_r 0), (1, ov_i x), (2, ov_i y), (3, ov_i s), (4, ov_i v2), (5, ov_i v8)]) (st2 := [ov_i (-1)]) (pc2 := 33) b_145_32_1 rfl rfl ?_
      refine ov_goto (tgt := 41) d_145_33 (by decide) ?_
      exact ov_reti (st := []) d_145_41 rfl ⟨_, rfl, I11, (by show ((h10 36 7) = 1 → ¬ (h10 36 8) = -1) ∧ (h10 1 1) = (h 1 1) ∧ (h10 90 2) = (h 90 2) ∧ (h10 0 10) = (h 0 10) ∧ (h10 0 11) = (h 0 11) ∧ (h10 0 12) = (h 0 12) ∧ (h10 0 13) = (h 0 13) ∧ (h10 3 1) = (h 3 1) ∧ (h10 46 3) = (h 46 3) ∧ (h10 46 4) = (h 46 4) ∧ (h10 49 4) = (h 49 4) ∧ (h10 49 5) = (h 49 5); omega)⟩
abbrev P_OF_watch_0 (z : ov_Z) (h : ov_H) (x : Int) (y : Int) (s : Int) : Option ov_V → ov_Z → ov_H → Prop := fun r0 z' h' => ∃ r : Int, r0 = some (ov_i r) ∧ ov_I z' h' ∧ ((h' 36 7 = 1 → ¬ h' 36 8 = -1) ∧ h' 1 1 = h 1 1 ∧ h' 90 2 = h 90 2 ∧ h' 0 10 = h 0 10 ∧ h' 0 11 = h 0 11 ∧ h' 0 12 = h 0 12 ∧ h' 0 13 = h 0 13 ∧ h' 3 1 = h 3 1 ∧ h' 46 3 = h 46 3 ∧ h' 46 4 = h 46 4 ∧ h' 49 4 = h 49 4 ∧ h' 49 5 = h 49 5)
set_option maxHeartbeats 4000000 in
theorem c_OF_watch_0 {u : ov_U} {z : ov_Z} {h : ov_H} (d : Nat) (hd : 302 ≤ d) (U : ov_cap u) (I : ov_I z h) (x : Int) (y : Int) (s : Int) (g_x : ov_g x) (g_y : ov_g y) (g_s : ov_g s) (p0 : h 36 7 = 1 → ¬ h 36 8 = -1) : ov_T u d ov_m146 [ov_r 0, ov_i x, ov_i y, ov_i s] z h (P_OF_watch_0 z h x y s) := by
  refine ov_en rfl (Nat.le_of_ble_eq_true rfl) ?_
  show ov_R u d ov_m146 0 [(0, ov_r 0), (1, ov_i x), (2, ov_i y), (3, ov_i s)] [] z h (P_OF_watch_0 z h x y s)
  refine ov_blk (ls2 := [(0, ov_r 0), (1, ov_i x), (2, ov_i y), (3, ov_i s)]) (st2 := [ov_r 0]) (pc2 := 1) b_146_0_1 rfl rfl ?_
  rcases rg_0_10 I with e1 | e1
  · skip
    refine ov_getf (v := ov_r 58) d_146_1 fl_OF_78 (zb_0 I) (zs_0 I) (congrArg ov_r e1) ?_
    refine ov_blk (ls2 := [(0, ov_r 0), (1, ov_i x), (2, ov_i y), (3, ov_i s)]) (st2 := [ov_i y, ov_i x, ov_r 58]) (pc2 := 6) b_146_4_2 rfl rfl ?_
    refine ov_cV (as := [ov_i x, ov_i y]) (st := []) (d2 := d - 1) d_146_6 lk_OF_131 rfl (Nat.le_of_ble_eq_true rfl) (c := 9) (zb_58 I) (zs_58 I) ⟨by decide, rfl⟩ (by omega) (c_Town_corner_58 (d - 1) (by omega) U I x y (by omega) (by omega)) ?_
    rintro _ _ _ ⟨v3, rfl, rfl, rfl, f2⟩
    show ov_R u d ov_m146 9 [(0, ov_r 0), (1, ov_i x), (2, ov_i y), (3, ov_i s)] [ov_i v3] z h (P_OF_watch_0 z h x y s)
    have f4 : v3 = -1 ∨ (0 ≤ x ∧ x < (h 58 0) ∧ 0 ≤ y ∧ y < (h 58 1) ∧ v3 = y * 6 + x ∧ (h 58 0) ≤ 6 ∧ (h 58 1) ≤ 9) := f2
    clear f2
    refine ov_blk (ls2 := [(0, ov_r 0), (1, ov_i x), (2, ov_i y), (3, ov_i s), (4, ov_i v3)]) (st2 := [ov_i (-1), ov_i v3]) (pc2 := 14) b_146_9_3 rfl rfl ?_
    refine ov_iceq (tgt := 41) d_146_14 (by decide) (by omega) (by omega) (fun c5 => ?_) (fun c5 => ?_)
    · skip
      refine ov_blk (ls2 := [(0, ov_r 0), (1, ov_i x), (2, ov_i y), (3, ov_i s), (4, ov_i v3)]) (st2 := [ov_i (-1)]) (pc2 := 42) b_146_41_1 rfl rfl ?_
      exact ov_reti (st := []) d_146_42 rfl ⟨_, rfl, I, (by show ((h 36 7) = 1 → ¬ (h 36 8) = -1) ∧ (h 1 1) = (h 1 1) ∧ (h 90 2) = (h 90 2) ∧ (h 0 10) = (h 0 10) ∧ (h 0 11) = (h 0 11) ∧ (h 0 12) = (h 0 12) ∧ (h 0 13) = (h 0 13) ∧ (h 3 1) = (h 3 1) ∧ (h 46 3) = (h 46 3) ∧ (h 46 4) = (h 46 4) ∧ (h 49 4) = (h 49 4) ∧ (h 49 5) = (h 49 5); omega)⟩
    · skip
      refine ov_blk (ls2 := [(0, ov_r 0), (1, ov_i x), (2, ov_i y), (3, ov_i s), (4, ov_i v3)]) (st2 := [ov_i 0, ov_i s, ov_i 0, ov_i 3, ov_r 0]) (pc2 := 22) b_146_17_5 rfl rfl ?_
      refine ov_cV (as := [ov_i 3, ov_i 0, ov_i s, ov_i 0]) (st := []) (d2 := d - 1) d_146_22 lk_OF_211 rfl (Nat.le_of_ble_eq_true rfl) (c := 0) (zb_0 I) (zs_0 I) ⟨by decide, rfl⟩ (by omega) (c_OF_reckoned_0 (d - 1) (by omega) U I 3 0 s 0 (by omega) (by omega) (by omega) (by omega) (by omega) (by omega)) ?_
      rintro _ z8 h9 ⟨v7, rfl, I10, f6⟩
      show ov_R u d ov_m146 25 [(0, ov_r 0), (1, ov_i x), (2, ov_i y), (3, ov_i s), (4, ov_i v3)] [ov_i v7] z8 h9 (P_OF_watch_0 z h x y s)
      have f11 : -2147483648 ≤ v7 ∧ v7 ≤ 2147483647 ∧ ((h9 36 7) = 1 → ¬ (h9 36 8) = -1) ∧ (¬ v7 = -1 → ¬ (h9 36 8) = -1) ∧ (h9 1 1) = (h 1 1) ∧ (h9 90 2) = (h 90 2) ∧ (h9 0 10) = (h 0 10) ∧ (h9 0 11) = (h 0 11) ∧ (h9 0 12) = (h 0 12) ∧ (h9 0 13) = (h 0 13) ∧ (h9 3 1) = (h 3 1) ∧ (h9 46 3) = (h 46 3) ∧ (h9 46 4) = (h 46 4) ∧ (h9 49 4) = (h 49 4) ∧ (h9 49 5) = (h 49 5) := f6
      clear f6
      have e12 : h9 0 10 = 58 := by omega
      refine ov_blk (ls2 := [(0, ov_r 0), (1, ov_i x), (2, ov_i y), (3, ov_i s), (4, ov_i v3)]) (st2 := [ov_i (-1), ov_i v7]) (pc2 := 26) b_146_25_1 rfl rfl ?_
      refine ov_iceq (tgt := 41) d_146_26 (by decide) (by omega) (by omega) (fun c13 => ?_) (fun c13 => ?_)
      · skip
        refine ov_blk (ls2 := [(0, ov_r 0), (1, ov_i x), (2, ov_i y), (3, ov_i s), (4, ov_i v3)]) (st2 := [ov_i (-1)]) (pc2 := 42) b_146_41_1 rfl rfl ?_
        exact ov_reti (st := []) d_146_42 rfl ⟨_, rfl, I10, (by show ((h9 36 7) = 1 → ¬ (h9 36 8) = -1) ∧ (h9 1 1) = (h 1 1) ∧ (h9 90 2) = (h 90 2) ∧ (h9 0 10) = (h 0 10) ∧ (h9 0 11) = (h 0 11) ∧ (h9 0 12) = (h 0 12) ∧ (h9 0 13) = (h 0 13) ∧ (h9 3 1) = (h 3 1) ∧ (h9 46 3) = (h 46 3) ∧ (h9 46 4) = (h 46 4) ∧ (h9 49 4) = (h 49 4) ∧ (h9 49 5) = (h 49 5); omega)⟩
      · skip
        refine ov_blk (ls2 := [(0, ov_r 0), (1, ov_i x), (2, ov_i y), (3, ov_i s), (4, ov_i v3)]) (st2 := [ov_r 0]) (pc2 := 30) b_146_29_1 rfl rfl ?_
        refine ov_getf (v := ov_r 36) d_146_30 fl_OF_50 (zb_0 I10) (zs_0 I10) (congrArg ov_r (rg_0_6 I10)) ?_
        refine ov_blk (ls2 := [(0, ov_r 0), (1, ov_i x), (2, ov_i y), (3, ov_i s), (4, ov_i v3)]) (st2 := [ov_i v3, ov_r 36]) (pc2 := 35) b_146_33_1 rfl rfl ?_
        rcases rg_36_8 I10 with e14 | e14 | e14
        · omega
        · skip
          refine ov_cV (as := [ov_i v3]) (st := []) (d2 := d - 1) d_146_35 lk_OF_228 rfl (Nat.le_of_ble_eq_true rfl) (c := 2) (zb_36 I10) (zs_36 I10) ⟨by decide, rfl⟩ (by omega) (c_Goers_hides_36_k36_8_58 (d - 1) (by omega) U I10 v3 e14 (by omega) (by omega)) ?_
          rintro _ _ _ ⟨v16, rfl, rfl, rfl, f15⟩
          show ov_R u d ov_m146 38 [(0, ov_r 0), (1, ov_i x), (2, ov_i y), (3, ov_i s), (4, ov_i v3)] [ov_i v16] z8 h9 (P_OF_watch_0 z h x y s)
          have f17 : (v16 = 0 ∨ v16 = 1) := f15
          clear f15
          refine ov_ifne (tgt := 43) d_146_38 (by decide) (by omega) (fun c18 => ?_) (fun c18 => ?_)
          · skip
            refine ov_blk (ls2 := [(0, ov_r 0), (1, ov_i x), (2, ov_i y), (3, ov_i s), (4, ov_i v3)]) (st2 := [ov_r 0]) (pc2 := 44) b_146_43_1 rfl rfl ?_
            refine ov_getf (v := ov_r 36) d_146_44 fl_OF_50 (zb_0 I10) (zs_0 I10) (congrArg ov_r (rg_0_6 I10)) ?_
            refine ov_blk (ls2 := [(0, ov_r 0), (1, ov_i x), (2, ov_i y), (3, ov_i s), (4, ov_i v3)]) (st2 := [ov_i s, ov_i v3, ov_r 36]) (pc2 := 50) b_146_47_2 rfl rfl ?_
            refine ov_cV (as := [ov_i v3, ov_i s]) (st := []) (d2 := d - 1) d_146_50 lk_OF_238 rfl (Nat.le_of_ble_eq_true rfl) (c := 2) (zb_36 I10) (zs_36 I10) ⟨by decide, rfl⟩ (by omega) (c_Goers_worthOfWatching_36_k36_8_58 (d - 1) (by omega) U I10 v3 s e14 (by omega) (by omega) (by omega)) ?_
            rintro _ z21 h22 ⟨v20, rfl, I23, f19⟩
            show ov_R u d ov_m146 53 [(0, ov_r 0), (1, ov_i x), (2, ov_i y), (3, ov_i s), (4, ov_i v3)] [ov_i v20] z21 h22 (P_OF_watch_0 z h x y s)
            have f24 : -2147483648 ≤ v20 ∧ v20 ≤ 2147483647 ∧ (h22 36 7) = (h9 36 7) ∧ (h22 1 1) = (h9 1 1) ∧ (h22 90 2) = (h9 90 2) ∧ (h22 0 10) = (h9 0 10) ∧ (h22 0 11) = (h9 0 11) ∧ (h22 0 12) = (h9 0 12) ∧ (h22 0 13) = (h9 0 13) ∧ (h22 3 1) = (h9 3 1) ∧ (h22 36 8) = (h9 36 8) ∧ (h22 46 3) = (h9 46 3) ∧ (h22 46 4) = (h9 46 4) ∧ (h22 49 4) = (h9 49 4) ∧ (h22 49 5) = (h9 49 5) := f19
            clear f19
            have e25 : h22 0 10 = 58 := by omega
            have e26 : h22 36 8 = 58 := by omega
            exact ov_reti (st := []) d_146_53 rfl ⟨_, rfl, I23, (by show ((h22 36 7) = 1 → ¬ (h22 36 8) = -1) ∧ (h22 1 1) = (h 1 1) ∧ (h22 90 2) = (h 90 2) ∧ (h22 0 10) = (h 0 10) ∧ (h22 0 11) = (h 0 11) ∧ (h22 0 12) = (h 0 12) ∧ (h22 0 13) = (h 0 13) ∧ (h22 3 1) = (h 3 1) ∧ (h22 46 3) = (h 46 3) ∧ (h22 46 4) = (h 46 4) ∧ (h22 49 4) = (h 49 4) ∧ (h22 49 5) = (h 49 5); omega)⟩
          · skip
            refine ov_blk (ls2 := [(0, ov_r 0), (1, ov_i x), (2, ov_i y), (3, ov_i s), (4, ov_i v3)]) (st2 := [ov_i (-1)]) (pc2 := 42) b_146_41_1 rfl rfl ?_
            exact ov_reti (st := []) d_146_42 rfl ⟨_, rfl, I10, (by show ((h9 36 7) = 1 → ¬ (h9 36 8) = -1) ∧ (h9 1 1) = (h 1 1) ∧ (h9 90 2) = (h 90 2) ∧ (h9 0 10) = (h 0 10) ∧ (h9 0 11) = (h 0 11) ∧ (h9 0 12) = (h 0 12) ∧ (h9 0 13) = (h 0 13) ∧ (h9 3 1) = (h 3 1) ∧ (h9 46 3) = (h 46 3) ∧ (h9 46 4) = (h 46 4) ∧ (h9 49 4) = (h 49 4) ∧ (h9 49 5) = (h 49 5); omega)⟩
        · skip
          refine ov_cV (as := [ov_i v3]) (st := []) (d2 := d - 1) d_146_35 lk_OF_228 rfl (Nat.le_of_ble_eq_true rfl) (c := 2) (zb_36 I10) (zs_36 I10) ⟨by decide, rfl⟩ (by omega) (c_Goers_hides_36_k36_8_70 (d - 1) (by omega) U I10 v3 e14 (by omega) (by omega)) ?_
          rintro _ _ _ ⟨v28, rfl, rfl, rfl, f27⟩
          show ov_R u d ov_m146 38 [(0, ov_r 0), (1, ov_i x), (2, ov_i y), (3, ov_i s), (4, ov_i v3)] [ov_i v28] z8 h9 (P_OF_watch_0 z h x y s)
          have f29 : (v28 = 0 ∨ v28 = 1) := f27
          clear f27
          refine ov_ifne (tgt := 43) d_146_38 (by decide) (by omega) (fun c30 => ?_) (fun c30 => ?_)
          · skip
            refine ov_blk (ls2 := [(0, ov_r 0), (1, ov_i x), (2, ov_i y), (3, ov_i s), (4, ov_i v3)]) (st2 := [ov_r 0]) (pc2 := 44) b_146_43_1 rfl rfl ?_
            refine ov_getf (v := ov_r 36) d_146_44 fl_OF_50 (zb_0 I10) (zs_0 I10) (congrArg ov_r (rg_0_6 I10)) ?_
            refine ov_blk (ls2 := [(0, ov_r 0), (1, ov_i x), (2, ov_i y), (3, ov_i s), (4, ov_i v3)]) (st2 := [ov_i s, ov_i v3, ov_r 36]) (pc2 := 50) b_146_47_2 rfl rfl ?_
            refine ov_cV (as := [ov_i v3, ov_i s]) (st := []) (d2 := d - 1) d_146_50 lk_OF_238 rfl (Nat.le_of_ble_eq_true rfl) (c := 2) (zb_36 I10) (zs_36 I10) ⟨by decide, rfl⟩ (by omega) (c_Goers_worthOfWatching_36_k36_8_70 (d - 1) (by omega) U I10 v3 s e14 (by omega) (by omega) (by omega)) ?_
            rintro _ z33 h34 ⟨v32, rfl, I35, f31⟩
            show ov_R u d ov_m146 53 [(0, ov_r 0), (1, ov_i x), (2, ov_i y), (3, ov_i s), (4, ov_i v3)] [ov_i v32] z33 h34 (P_OF_watch_0 z h x y s)
            have f36 : -2147483648 ≤ v32 ∧ v32 ≤ 2147483647 ∧ (h34 36 7) = (h9 36 7) ∧ (h34 1 1) = (h9 1 1) ∧ (h34 90 2) = (h9 90 2) ∧ (h34 0 10) = (h9 0 10) ∧ (h34 0 11) = (h9 0 11) ∧ (h34 0 12) = (h9 0 12) ∧ (h34 0 13) = (h9 0 13) ∧ (h34 3 1) = (h9 3 1) ∧ (h34 36 8) = (h9 36 8) ∧ (h34 46 3) = (h9 46 3) ∧ (h34 46 4) = (h9 46 4) ∧ (h34 49 4) = (h9 49 4) ∧ (h34 49 5) = (h9 49 5) := f31
            clear f31
            have e37 : h34 0 10 = 58 := by omega
            have e38 : h34 36 8 = 70 := by omega
            exact ov_reti (st := []) d_146_53 rfl ⟨_, rfl, I35, (by show ((h34 36 7) = 1 → ¬ (h34 36 8) = -1) ∧ (h34 1 1) = (h 1 1) ∧ (h34 90 2) = (h 90 2) ∧ (h34 0 10) = (h 0 10) ∧ (h34 0 11) = (h 0 11) ∧ (h34 0 12) = (h 0 12) ∧ (h34 0 13) = (h 0 13) ∧ (h34 3 1) = (h 3 1) ∧ (h34 46 3) = (h 46 3) ∧ (h34 46 4) = (h 46 4) ∧ (h34 49 4) = (h 49 4) ∧ (h34 49 5) = (h 49 5); omega)⟩
          · skip
            refine ov_blk (ls2 := [(0, ov_r 0), (1, ov_i x), (2, ov_i y), (3, ov_i s), (4, ov_i v3)]) (st2 := [ov_i (-1)]) (pc2 := 42) b_146_41_1 rfl rfl ?_
            exact ov_reti (st := []) d_146_42 rfl ⟨_, rfl, I10, (by show ((h9 36 7) = 1 → ¬ (h9 36 8) = -1) ∧ (h9 1 1) = (h 1 1) ∧ (h9 90 2) = (h 90 2) ∧ (h9 0 10) = (h 0 10) ∧ (h9 0 11) = (h 0 11) ∧ (h9 0 12) = (h 0 12) ∧ (h9 0 13) = (h 0 13) ∧ (h9 3 1) = (h 3 1) ∧ (h9 46 3) = (h 46 3) ∧ (h9 46 4) = (h 46 4) ∧ (h9 49 4) = (h 49 4) ∧ (h9 49 5) = (h 49 5); omega)⟩
  · skip
    refine ov_getf (v := ov_r 70) d_146_1 fl_OF_78 (zb_0 I) (zs_0 I) (congrArg ov_r e1) ?_
    refine ov_blk (ls2 := [(0, ov_r 0), (1, ov_i x), (2, ov_i y), (3, ov_i s)]) (st2 := [ov_i y, ov_i x, ov_r 70]) (pc2 := 6) b_146_4_2 rfl rfl ?_
    refine ov_cV (as := [ov_i x, ov_i y]) (st := []) (d2 := d - 1) d_146_6 lk_OF_131 rfl (Nat.le_of_ble_eq_true rfl) (c := 9) (zb_70 I) (zs_70 I) ⟨by decide, rfl⟩ (by omega) (c_Town_corner_70 (d - 1) (by omega) U I x y (by omega) (by omega)) ?_
    rintro _ _ _ ⟨v40, rfl, rfl, rfl, f39⟩
    show ov_R u d ov_m146 9 [(0, ov_r 0), (1, ov_i x), (2, ov_i y), (3, ov_i s)] [ov_i v40] z h (P_OF_watch_0 z h x y s)
    have f41 : v40 = -1 ∨ (0 ≤ x ∧ x < (h 70 0) ∧ 0 ≤ y ∧ y < (h 70 1) ∧ v40 = y * 6 + x ∧ (h 70 0) ≤ 6 ∧ (h 70 1) ≤ 9) := f39
    clear f39
    refine ov_blk (ls2 := [(0, ov_r 0), (1, ov_i x), (2, ov_i y), (3, ov_i s), (4, ov_i v40)]) (st2 := [ov_i (-1), ov_i v40]) (pc2 := 14) b_146_9_3 rfl rfl ?_
    refine ov_iceq (tgt := 41) d_146_14 (by decide) (by omega) (by omega) (fun c42 => ?_) (fun c42 => ?_)
    · skip
      refine ov_blk (ls2 := [(0, ov_r 0), (1, ov_i x), (2, ov_i y), (3, ov_i s), (4, ov_i v40)]) (st2 := [ov_i (-1)]) (pc2 := 42) b_146_41_1 rfl rfl ?_
      exact ov_reti (st := []) d_146_42 rfl ⟨_, rfl, I, (by show ((h 36 7) = 1 → ¬ (h 36 8) = -1) ∧ (h 1 1) = (h 1 1) ∧ (h 90 2) = (h 90 2) ∧ (h 0 10) = (h 0 10) ∧ (h 0 11) = (h 0 11) ∧ (h 0 12) = (h 0 12) ∧ (h 0 13) = (h 0 13) ∧ (h 3 1) = (h 3 1) ∧ (h 46 3) = (h 46 3) ∧ (h 46 4) = (h 46 4) ∧ (h 49 4) = (h 49 4) ∧ (h 49 5) = (h 49 5); omega)⟩
    · skip
      refine ov_blk (ls2 := [(0, ov_r 0), (1, ov_i x), (2, ov_i y), (3, ov_i s), (4, ov_i v40)]) (st2 := [ov_i 0, ov_i s, ov_i 0, ov_i 3, ov_r 0]) (pc2 := 22) b_146_17_5 rfl rfl ?_
      refine ov_cV (as := [ov_i 3, ov_i 0, ov_i s, ov_i 0]) (st := []) (d2 := d - 1) d_146_22 lk_OF_211 rfl (Nat.le_of_ble_eq_true rfl) (c := 0) (zb_0 I) (zs_0 I) ⟨by decide, rfl⟩ (by omega) (c_OF_reckoned_0 (d - 1) (by omega) U I 3 0 s 0 (by omega) (by omega) (by omega) (by omega) (by omega) (by omega)) ?_
      rintro _ z45 h46 ⟨v44, rfl, I47, f43⟩
      show ov_R u d ov_m146 25 [(0, ov_r 0), (1, ov_i x), (2, ov_i y), (3, ov_i s), (4, ov_i v40)] [ov_i v44] z45 h46 (P_OF_watch_0 z h x y s)
      have f48 : -2147483648 ≤ v44 ∧ v44 ≤ 2147483647 ∧ ((h46 36 7) = 1 → ¬ (h46 36 8) = -1) ∧ (¬ v44 = -1 → ¬ (h46 36 8) = -1) ∧ (h46 1 1) = (h 1 1) ∧ (h46 90 2) = (h 90 2) ∧ (h46 0 10) = (h 0 10) ∧ (h46 0 11) = (h 0 11) ∧ (h46 0 12) = (h 0 12) ∧ (h46 0 13) = (h 0 13) ∧ (h46 3 1) = (h 3 1) ∧ (h46 46 3) = (h 46 3) ∧ (h46 46 4) = (h 46 4) ∧ (h46 49 4) = (h 49 4) ∧ (h46 49 5) = (h 49 5) := f43
      clear f43
      have e49 : h46 0 10 = 70 := by omega
      refine ov_blk (ls2 := [(0, ov_r 0), (1, ov_i x), (2, ov_i y), (3, ov_i s), (4, ov_i v40)]) (st2 := [ov_i (-1), ov_i v44]) (pc2 := 26) b_146_25_1 rfl rfl ?_
      refine ov_iceq (tgt := 41) d_146_26 (by decide) (by omega) (by omega) (fun c50 => ?_) (fun c50 => ?_)
      · skip
        refine ov_blk (ls2 := [(0, ov_r 0), (1, ov_i x), (2, ov_i y), (3, ov_i s), (4, ov_i v40)]) (st2 := [ov_i (-1)]) (pc2 := 42) b_146_41_1 rfl rfl ?_
        exact ov_reti (st := []) d_146_42 rfl ⟨_, rfl, I47, (by show ((h46 36 7) = 1 → ¬ (h46 36 8) = -1) ∧ (h46 1 1) = (h 1 1) ∧ (h46 90 2) = (h 90 2) ∧ (h46 0 10) = (h 0 10) ∧ (h46 0 11) = (h 0 11) ∧ (h46 0 12) = (h 0 12) ∧ (h46 0 13) = (h 0 13) ∧ (h46 3 1) = (h 3 1) ∧ (h46 46 3) = (h 46 3) ∧ (h46 46 4) = (h 46 4) ∧ (h46 49 4) = (h 49 4) ∧ (h46 49 5) = (h 49 5); omega)⟩
      · skip
        refine ov_blk (ls2 := [(0, ov_r 0), (1, ov_i x), (2, ov_i y), (3, ov_i s), (4, ov_i v40)]) (st2 := [ov_r 0]) (pc2 := 30) b_146_29_1 rfl rfl ?_
        refine ov_getf (v := ov_r 36) d_146_30 fl_OF_50 (zb_0 I47) (zs_0 I47) (congrArg ov_r (rg_0_6 I47)) ?_
        refine ov_blk (ls2 := [(0, ov_r 0), (1, ov_i x), (2, ov_i y), (3, ov_i s), (4, ov_i v40)]) (st2 := [ov_i v40, ov_r 36]) (pc2 := 35) b_146_33_1 rfl rfl ?_
        rcases rg_36_8 I47 with e51 | e51 | e51
        · omega
        · skip
          refine ov_cV (as := [ov_i v40]) (st := []) (d2 := d - 1) d_146_35 lk_OF_228 rfl (Nat.le_of_ble_eq_true rfl) (c := 2) (zb_36 I47) (zs_36 I47) ⟨by decide, rfl⟩ (by omega) (c_Goers_hides_36_k36_8_58 (d - 1) (by omega) U I47 v40 e51 (by omega) (by omega)) ?_
          rintro _ _ _ ⟨v53, rfl, rfl, rfl, f52⟩
          show ov_R u d ov_m146 38 [(0, ov_r 0), (1, ov_i x), (2, ov_i y), (3, ov_i s), (4, ov_i v40)] [ov_i v53] z45 h46 (P_OF_watch_0 z h x y s)
          have f54 : (v53 = 0 ∨ v53 = 1) := f52
          clear f52
          refine ov_ifne (tgt := 43) d_146_38 (by decide) (by omega) (fun c55 => ?_) (fun c55 => ?_)
          · skip
            refine ov_blk (ls2 := [(0, ov_r 0), (1, ov_i x), (2, ov_i y), (3, ov_i s), (4, ov_i v40)]) (st2 := [ov_r 0]) (pc2 := 44) b_146_43_1 rfl rfl ?_
            refine ov_getf (v := ov_r 36) d_146_44 fl_OF_50 (zb_0 I47) (zs_0 I47) (congrArg ov_r (rg_0_6 I47)) ?_
            refine ov_blk (ls2 := [(0, ov_r 0), (1, ov_i x), (2, ov_i y), (3, ov_i s), (4, ov_i v40)]) (st2 := [ov_i s, ov_i v40, ov_r 36]) (pc2 := 50) b_146_47_2 rfl rfl ?_
            refine ov_cV (as := [ov_i v40, ov_i s]) (st := []) (d2 := d - 1) d_146_50 lk_OF_238 rfl (Nat.le_of_ble_eq_true rfl) (c := 2) (zb_36 I47) (zs_36 I47) ⟨by decide, rfl⟩ (by omega) (c_Goers_worthOfWatching_36_k36_8_58 (d - 1) (by omega) U I47 v40 s e51 (by omega) (by omega) (by omega)) ?_
            rintro _ z58 h59 ⟨v57, rfl, I60, f56⟩
            show ov_R u d ov_m146 53 [(0, ov_r 0), (1, ov_i x), (2, ov_i y), (3, ov_i s), (4, ov_i v40)] [ov_i v57] z58 h59 (P_OF_watch_0 z h x y s)
            have f61 : -2147483648 ≤ v57 ∧ v57 ≤ 2147483647 ∧ (h59 36 7) = (h46 36 7) ∧ (h59 1 1) = (h46 1 1) ∧ (h59 90 2) = (h46 90 2) ∧ (h59 0 10) = (h46 0 10) ∧ (h59 0 11) = (h46 0 11) ∧ (h59 0 12) = (h46 0 12) ∧ (h59 0 13) = (h46 0 13) ∧ (h59 3 1) = (h46 3 1) ∧ (h59 36 8) = (h46 36 8) ∧ (h59 46 3) = (h46 46 3) ∧ (h59 46 4) = (h46 46 4) ∧ (h59 49 4) = (h46 49 4) ∧ (h59 49 5) = (h46 49 5) := f56
            clear f56
            have e62 : h59 0 10 = 70 := by omega
            have e63 : h59 36 8 = 58 := by omega
            exact ov_reti (st := []) d_146_53 rfl ⟨_, rfl, I60, (by show ((h59 36 7) = 1 → ¬ (h59 36 8) = -1) ∧ (h59 1 1) = (h 1 1) ∧ (h59 90 2) = (h 90 2) ∧ (h59 0 10) = (h 0 10) ∧ (h59 0 11) = (h 0 11) ∧ (h59 0 12) = (h 0 12) ∧ (h59 0 13) = (h 0 13) ∧ (h59 3 1) = (h 3 1) ∧ (h59 46 3) = (h 46 3) ∧ (h59 46 4) = (h 46 4) ∧ (h59 49 4) = (h 49 4) ∧ (h59 49 5) = (h 49 5); omega)⟩
          · skip
            refine ov_blk (ls2 := [(0, ov_r 0), (1, ov_i x), (2, ov_i y), (3, ov_i s), (4, ov_i v40)]) (st2 := [ov_i (-1)]) (pc2 := 42) b_146_41_1 rfl rfl ?_
            exact ov_reti (st := []) d_146_42 rfl ⟨_, rfl, I47, (by show ((h46 36 7) = 1 → ¬ (h46 36 8) = -1) ∧ (h46 1 1) = (h 1 1) ∧ (h46 90 2) = (h 90 2) ∧ (h46 0 10) = (h 0 10) ∧ (h46 0 11) = (h 0 11) ∧ (h46 0 12) = (h 0 12) ∧ (h46 0 13) = (h 0 13) ∧ (h46 3 1) = (h 3 1) ∧ (h46 46 3) = (h 46 3) ∧ (h46 46 4) = (h 46 4) ∧ (h46 49 4) = (h 49 4) ∧ (h46 49 5) = (h 49 5); omega)⟩
        · skip
          refine ov_cV (as := [ov_i v40]) (st := []) (d2 := d - 1) d_146_35 lk_OF_228 rfl (Nat.le_of_ble_eq_true rfl) (c := 2) (zb_36 I47) (zs_36 I47) ⟨by decide, rfl⟩ (by omega) (c_Goers_hides_36_k36_8_70 (d - 1) (by omega) U I47 v40 e51 (by omega) (by omega)) ?_
          rintro _ _ _ ⟨v65, rfl, rfl, rfl, f64⟩
          show ov_R u d ov_m146 38 [(0, ov_r 0), (1, ov_i x), (2, ov_i y), (3, ov_i s), (4, ov_i v40)] [ov_i v65] z45 h46 (P_OF_watch_0 z h x y s)
          have f66 : (v65 = 0 ∨ v65 = 1) := f64
          clear f64
          refine ov_ifne (tgt := 43) d_146_38 (by decide) (by omega) (fun c67 => ?_) (fun c67 => ?_)
          · skip
            refine ov_blk (ls2 := [(0, ov_r 0), (1, ov_i x), (2, ov_i y), (3, ov_i s), (4, ov_i v40)]) (st2 := [ov_r 0]) (pc2 := 44) b_146_43_1 rfl rfl ?_
            refine ov_getf (v := ov_r 36) d_146_44 fl_OF_50 (zb_0 I47) (zs_0 I47) (congrArg ov_r (rg_0_6 I47)) ?_
            refine ov_blk (ls2 := [(0, ov_r 0), (1, ov_i x), (2, ov_i y), (3, ov_i s), (4, ov_i v40)]) (st2 := [ov_i s, ov_i v40, ov_r 36]) (pc2 := 50) b_146_47_2 rfl rfl ?_
            refine ov_cV (as := [ov_i v40, ov_i s]) (st := []) (d2 := d - 1) d_146_50 lk_OF_238 rfl (Nat.le_of_ble_eq_true rfl) (c := 2) (zb_36 I47) (zs_36 I47) ⟨by decide, rfl⟩ (by omega) (c_Goers_worthOfWatching_36_k36_8_70 (d - 1) (by omega) U I47 v40 s e51 (by omega) (by omega) (by omega)) ?_
            rintro _ z70 h71 ⟨v69, rfl, I72, f68⟩
            show ov_R u d ov_m146 53 [(0, ov_r 0), (1, ov_i x), (2, ov_i y), (3, ov_i s), (4, ov_i v40)] [ov_i v69] z70 h71 (P_OF_watch_0 z h x y s)
            have f73 : -2147483648 ≤ v69 ∧ v69 ≤ 2147483647 ∧ (h71 36 7) = (h46 36 7) ∧ (h71 1 1) = (h46 1 1) ∧ (h71 90 2) = (h46 90 2) ∧ (h71 0 10) = (h46 0 10) ∧ (h71 0 11) = (h46 0 11) ∧ (h71 0 12) = (h46 0 12) ∧ (h71 0 13) = (h46 0 13) ∧ (h71 3 1) = (h46 3 1) ∧ (h71 36 8) = (h46 36 8) ∧ (h71 46 3) = (h46 46 3) ∧ (h71 46 4) = (h46 46 4) ∧ (h71 49 4) = (h46 49 4) ∧ (h71 49 5) = (h46 49 5) := f68
            clear f68
            have e74 : h71 0 10 = 70 := by omega
            have e75 : h71 36 8 = 70 := by omega
            exact ov_reti (st := []) d_146_53 rfl ⟨_, rfl, I72, (by show ((h71 36 7) = 1 → ¬ (h71 36 8) = -1) ∧ (h71 1 1) = (h 1 1) ∧ (h71 90 2) = (h 90 2) ∧ (h71 0 10) = (h 0 10) ∧ (h71 0 11) = (h 0 11) ∧ (h71 0 12) = (h 0 12) ∧ (h71 0 13) = (h 0 13) ∧ (h71 3 1) = (h 3 1) ∧ (h71 46 3) = (h 46 3) ∧ (h71 46 4) = (h 46 4) ∧ (h71 49 4) = (h 49 4) ∧ (h71 49 5) = (h 49 5); omega)⟩
          · skip
            refine ov_blk (ls2 := [(0, ov_r 0), (1, ov_i x), (2, ov_i y), (3, ov_i s), (4, ov_i v40)]) (st2 := [ov_i (-1)]) (pc2 := 42) b_146_41_1 rfl rfl ?_
            exact ov_reti (st := []) d_146_42 rfl ⟨_, rfl, I47, (by show ((h46 36 7) = 1 → ¬ (h46 36 8) = -1) ∧ (h46 1 1) = (h 1 1) ∧ (h46 90 2) = (h 90 2) ∧ (h46 0 10) = (h 0 10) ∧ (h46 0 11) = (h 0 11) ∧ (h46 0 12) = (h 0 12) ∧ (h46 0 13) = (h 0 13) ∧ (h46 3 1) = (h 3 1) ∧ (h46 46 3) = (h 46 3) ∧ (h46 46 4) = (h 46 4) ∧ (h46 49 4) = (h 49 4) ∧ (h46 49 5) = (h 49 5); omega)⟩
abbrev P_OF_latest_0 (z : ov_Z) (h : ov_H) (x : Int) (y : Int) (s : Int) : Option ov_V → ov_Z → ov_H → Prop := fun r0 z' h' => ∃ r : Int, r0 = some (ov_i r) ∧ ov_I z' h' ∧ (h' 36 7 = h 36 7 ∧ h' 1 1 = h 1 1 ∧ h' 90 2 = h 90 2 ∧ h' 0 10 = h 0 10 ∧ h' 0 11 = h 0 11 ∧ h' 0 12 = h 0 12 ∧ h' 0 13 = h 0 13 ∧ h' 3 1 = h 3 1 ∧ h' 36 8 = h 36 8 ∧ h' 46 4 = h 46 4 ∧ h' 49 4 = h 49 4 ∧ h' 49 5 = h 49 5)
set_option maxHeartbeats 4000000 in
theorem c_OF_latest_0 {u : ov_U} {z : ov_Z} {h : ov_H} (d : Nat) (hd : 6 ≤ d) (U : ov_cap u) (I : ov_I z h) (x : Int) (y : Int) (s : Int) (g_x : ov_g x) (g_y : ov_g y) (g_s : ov_g s) : ov_T u d ov_m149 [ov_r 0, ov_i x, ov_i y, ov_i s] z h (P_OF_latest_0 z h x y s) := by
  refine ov_en rfl (Nat.le_of_ble_eq_true rfl) ?_
  show ov_R u d ov_m149 0 [(0, ov_r 0), (1, ov_i x), (2, ov_i y), (3, ov_i s)] [] z h (P_OF_latest_0 z h x y s)
  refine ov_blk (ls2 := [(0, ov_r 0), (1, ov_i x), (2, ov_i y), (3, ov_i s)]) (st2 := [ov_r 0]) (pc2 := 1) b_149_0_1 rfl rfl ?_
  rcases rg_0_10 I with e1 | e1
  · skip
    refine ov_getf (v := ov_r 58) d_149_1 fl_OF_78 (zb_0 I) (zs_0 I) (congrArg ov_r e1) ?_
    refine ov_blk (ls2 := [(0, ov_r 0), (1, ov_i x), (2, ov_i y), (3, ov_i s)]) (st2 := [ov_i y, ov_i x, ov_r 58]) (pc2 := 6) b_149_4_2 rfl rfl ?_
    refine ov_cV (as := [ov_i x, ov_i y]) (st := []) (d2 := d - 1) d_149_6 lk_OF_131 rfl (Nat.le_of_ble_eq_true rfl) (c := 9) (zb_58 I) (zs_58 I) ⟨by decide, rfl⟩ (by omega) (c_Town_corner_58 (d - 1) (by omega) U I x y (by omega) (by omega)) ?_
    rintro _ _ _ ⟨v3, rfl, rfl, rfl, f2⟩
    show ov_R u d ov_m149 9 [(0, ov_r 0), (1, ov_i x), (2, ov_i y), (3, ov_i s)] [ov_i v3] z h (P_OF_latest_0 z h x y s)
    have f4 : v3 = -1 ∨ (0 ≤ x ∧ x < (h 58 0) ∧ 0 ≤ y ∧ y < (h 58 1) ∧ v3 = y * 6 + x ∧ (h 58 0) ≤ 6 ∧ (h 58 1) ≤ 9) := f2
    clear f2
    refine ov_blk (ls2 := [(0, ov_r 0), (1, ov_i x), (2, ov_i y), (3, ov_i s), (4, ov_i v3)]) (st2 := [ov_i (-1), ov_i v3]) (pc2 := 14) b_149_9_3 rfl rfl ?_
    refine ov_iceq (tgt := 24) d_149_14 (by decide) (by omega) (by omega) (fun c5 => ?_) (fun c5 => ?_)
    · skip
      refine ov_blk (ls2 := [(0, ov_r 0), (1, ov_i x), (2, ov_i y), (3, ov_i s), (4, ov_i v3)]) (st2 := [ov_i (-1)]) (pc2 := 25) b_149_24_1 rfl rfl ?_
      exact ov_reti (st := []) d_149_25 rfl ⟨_, rfl, I, (by show (h 36 7) = (h 36 7) ∧ (h 1 1) = (h 1 1) ∧ (h 90 2) = (h 90 2) ∧ (h 0 10) = (h 0 10) ∧ (h 0 11) = (h 0 11) ∧ (h 0 12) = (h 0 12) ∧ (h 0 13) = (h 0 13) ∧ (h 3 1) = (h 3 1) ∧ (h 36 8) = (h 36 8) ∧ (h 46 4) = (h 46 4) ∧ (h 49 4) = (h 49 4) ∧ (h 49 5) = (h 49 5); omega)⟩
    · skip
      refine ov_blk (ls2 := [(0, ov_r 0), (1, ov_i x), (2, ov_i y), (3, ov_i s), (4, ov_i v3)]) (st2 := [ov_i s]) (pc2 := 18) b_149_17_1 rfl rfl ?_
      refine ov_cS (as := [ov_i s]) (st := []) (d2 := d - 1) d_149_18 lk_OF_155 rfl (Nat.le_of_ble_eq_true rfl) (by omega) (c_OF_isSecond (d - 1) (by omega) U I s (by omega)) ?_
      rintro _ _ _ ⟨v7, rfl, rfl, rfl, f6⟩
      show ov_R u d ov_m149 21 [(0, ov_r 0), (1, ov_i x), (2, ov_i y), (3, ov_i s), (4, ov_i v3)] [ov_i v7] z h (P_OF_latest_0 z h x y s)
      have f8 : (v7 = 0 ∨ v7 = 1) ∧ (v7 = 1 → 0 ≤ s ∧ s ≤ 1000000) := f6
      clear f6
      refine ov_ifne (tgt := 26) d_149_21 (by decide) (by omega) (fun c9 => ?_) (fun c9 => ?_)
      · skip
        refine ov_blk (ls2 := [(0, ov_r 0), (1, ov_i x), (2, ov_i y), (3, ov_i s), (4, ov_i v3)]) (st2 := [ov_r 0]) (pc2 := 27) b_149_26_1 rfl rfl ?_
        refine ov_getf (v := ov_r 46) d_149_27 fl_OF_57 (zb_0 I) (zs_0 I) (congrArg ov_r (rg_0_7 I)) ?_
        refine ov_blk (ls2 := [(0, ov_r 0), (1, ov_i x), (2, ov_i y), (3, ov_i s), (4, ov_i v3)]) (st2 := [ov_r 0, ov_r 46]) (pc2 := 31) b_149_30_1 rfl rfl ?_
        refine ov_getf (v := ov_r 58) d_149_31 fl_OF_78 (zb_0 I) (zs_0 I) (congrArg ov_r e1) ?_
        refine ov_blk (ls2 := [(0, ov_r 0), (1, ov_i x), (2, ov_i y), (3, ov_i s), (4, ov_i v3)]) (st2 := [ov_i s, ov_i v3, ov_r 58, ov_r 46]) (pc2 := 37) b_149_34_2 rfl rfl ?_
        refine ov_cV (as := [ov_r 58, ov_i v3, ov_i s]) (st := []) (d2 := d - 1) d_149_37 lk_OF_241 rfl (Nat.le_of_ble_eq_true rfl) (c := 12) (zb_46 I) (zs_46 I) ⟨by decide, rfl⟩ (by omega) (c_Ways_lastAsSoon_46_58 (d - 1) (by omega) U I v3 s (by omega) (by omega) (by omega)) ?_
        rintro _ z12 h13 ⟨v11, rfl, I14, f10⟩
        show ov_R u d ov_m149 40 [(0, ov_r 0), (1, ov_i x), (2, ov_i y), (3, ov_i s), (4, ov_i v3)] [ov_i v11] z12 h13 (P_OF_latest_0 z h x y s)
        have f15 : -2147483648 ≤ v11 ∧ v11 ≤ 2147483647 ∧ (h13 36 7) = (h 36 7) ∧ (h13 1 1) = (h 1 1) ∧ (h13 90 2) = (h 90 2) ∧ (h13 0 10) = (h 0 10) ∧ (h13 0 11) = (h 0 11) ∧ (h13 0 12) = (h 0 12) ∧ (h13 0 13) = (h 0 13) ∧ (h13 3 1) = (h 3 1) ∧ (h13 36 8) = (h 36 8) ∧ (h13 46 4) = (h 46 4) ∧ (h13 49 4) = (h 49 4) ∧ (h13 49 5) = (h 49 5) := f10
        clear f10
        have e16 : h13 0 10 = 58 := by omega
        exact ov_reti (st := []) d_149_40 rfl ⟨_, rfl, I14, (by show (h13 36 7) = (h 36 7) ∧ (h13 1 1) = (h 1 1) ∧ (h13 90 2) = (h 90 2) ∧ (h13 0 10) = (h 0 10) ∧ (h13 0 11) = (h 0 11) ∧ (h13 0 12) = (h 0 12) ∧ (h13 0 13) = (h 0 13) ∧ (h13 3 1) = (h 3 1) ∧ (h13 36 8) = (h 36 8) ∧ (h13 46 4) = (h 46 4) ∧ (h13 49 4) = (h 49 4) ∧ (h13 49 5) = (h 49 5); omega)⟩
      · skip
        refine ov_blk (ls2 := [(0, ov_r 0), (1, ov_i x), (2, ov_i y), (3, ov_i s), (4, ov_i v3)]) (st2 := [ov_i (-1)]) (pc2 := 25) b_149_24_1 rfl rfl ?_
        exact ov_reti (st := []) d_149_25 rfl ⟨_, rfl, I, (by show (h 36 7) = (h 36 7) ∧ (h 1 1) = (h 1 1) ∧ (h 90 2) = (h 90 2) ∧ (h 0 10) = (h 0 10) ∧ (h 0 11) = (h 0 11) ∧ (h 0 12) = (h 0 12) ∧ (h 0 13) = (h 0 13) ∧ (h 3 1) = (h 3 1) ∧ (h 36 8) = (h 36 8) ∧ (h 46 4) = (h 46 4) ∧ (h 49 4) = (h 49 4) ∧ (h 49 5) = (h 49 5); omega)⟩
  · skip
    refine ov_getf (v := ov_r 70) d_149_1 fl_OF_78 (zb_0 I) (zs_0 I) (congrArg ov_r e1) ?_
    refine ov_blk (ls2 := [(0, ov_r 0), (1, ov_i x), (2, ov_i y), (3, ov_i s)]) (st2 := [ov_i y, ov_i x, ov_r 70]) (pc2 := 6) b_149_4_2 rfl rfl ?_
    refine ov_cV (as := [ov_i x, ov_i y]) (st := []) (d2 := d - 1) d_149_6 lk_OF_131 rfl (Nat.le_of_ble_eq_true rfl) (c := 9) (zb_70 I) (zs_70 I) ⟨by decide, rfl⟩ (by omega) (c_Town_corner_70 (d - 1) (by omega) U I x y (by omega) (by omega)) ?_
    rintro _ _ _ ⟨v18, rfl, rfl, rfl, f17⟩
    show ov_R u d ov_m149 9 [(0, ov_r 0), (1, ov_i x), (2, ov_i y), (3, ov_i s)] [ov_i v18] z h (P_OF_latest_0 z h x y s)
    have f19 : v18 = -1 ∨ (0 ≤ x ∧ x < (h 70 0) ∧ 0 ≤ y ∧ y < (h 70 1) ∧ v18 = y * 6 + x ∧ (h 70 0) ≤ 6 ∧ (h 70 1) ≤ 9) := f17
    clear f17
    refine ov_blk (ls2 := [(0, ov_r 0), (1, ov_i x), (2, ov_i y), (3, ov_i s), (4, ov_i v18)]) (st2 := [ov_i (-1), ov_i v18]) (pc2 := 14) b_149_9_3 rfl rfl ?_
    refine ov_iceq (tgt := 24) d_149_14 (by decide) (by omega) (by omega) (fun c20 => ?_) (fun c20 => ?_)
    · skip
      refine ov_blk (ls2 := [(0, ov_r 0), (1, ov_i x), (2, ov_i y), (3, ov_i s), (4, ov_i v18)]) (st2 := [ov_i (-1)]) (pc2 := 25) b_149_24_1 rfl rfl ?_
      exact ov_reti (st := []) d_149_25 rfl ⟨_, rfl, I, (by show (h 36 7) = (h 36 7) ∧ (h 1 1) = (h 1 1) ∧ (h 90 2) = (h 90 2) ∧ (h 0 10) = (h 0 10) ∧ (h 0 11) = (h 0 11) ∧ (h 0 12) = (h 0 12) ∧ (h 0 13) = (h 0 13) ∧ (h 3 1) = (h 3 1) ∧ (h 36 8) = (h 36 8) ∧ (h 46 4) = (h 46 4) ∧ (h 49 4) = (h 49 4) ∧ (h 49 5) = (h 49 5); omega)⟩
    · skip
      refine ov_blk (ls2 := [(0, ov_r 0), (1, ov_i x), (2, ov_i y), (3, ov_i s), (4, ov_i v18)]) (st2 := [ov_i s]) (pc2 := 18) b_149_17_1 rfl rfl ?_
      refine ov_cS (as := [ov_i s]) (st := []) (d2 := d - 1) d_149_18 lk_OF_155 rfl (Nat.le_of_ble_eq_true rfl) (by omega) (c_OF_isSecond (d - 1) (by omega) U I s (by omega)) ?_
      rintro _ _ _ ⟨v22, rfl, rfl, rfl, f21⟩
      show ov_R u d ov_m149 21 [(0, ov_r 0), (1, ov_i x), (2, ov_i y), (3, ov_i s), (4, ov_i v18)] [ov_i v22] z h (P_OF_latest_0 z h x y s)
      have f23 : (v22 = 0 ∨ v22 = 1) ∧ (v22 = 1 → 0 ≤ s ∧ s ≤ 1000000) := f21
      clear f21
      refine ov_ifne (tgt := 26) d_149_21 (by decide) (by omega) (fun c24 => ?_) (fun c24 => ?_)
      · skip
        refine ov_blk (ls2 := [(0, ov_r 0), (1, ov_i x), (2, ov_i y), (3, ov_i s), (4, ov_i v18)]) (st2 := [ov_r 0]) (pc2 := 27) b_149_26_1 rfl rfl ?_
        refine ov_getf (v := ov_r 46) d_149_27 fl_OF_57 (zb_0 I) (zs_0 I) (congrArg ov_r (rg_0_7 I)) ?_
        refine ov_blk (ls2 := [(0, ov_r 0), (1, ov_i x), (2, ov_i y), (3, ov_i s), (4, ov_i v18)]) (st2 := [ov_r 0, ov_r 46]) (pc2 := 31) b_149_30_1 rfl rfl ?_
        refine ov_getf (v := ov_r 70) d_149_31 fl_OF_78 (zb_0 I) (zs_0 I) (congrArg ov_r e1) ?_
        refine ov_blk (ls2 := [(0, ov_r 0), (1, ov_i x), (2, ov_i y), (3, ov_i s), (4, ov_i v18)]) (st2 := [ov_i s, ov_i v18, ov_r 70, ov_r 46]) (pc2 := 37) b_149_34_2 rfl rfl ?_
        refine ov_cV (as := [ov_r 70, ov_i v18, ov_i s]) (st := []) (d2 := d - 1) d_149_37 lk_OF_241 rfl (Nat.le_of_ble_eq_true rfl) (c := 12) (zb_46 I) (zs_46 I) ⟨by decide, rfl⟩ (by omega) (c_Ways_lastAsSoon_46_70 (d - 1) (by omega) U I v18 s (by omega) (by omega) (by omega)) ?_
        rintro _ z27 h28 ⟨v26, rfl, I29, f25⟩
        show ov_R u d ov_m149 40 [(0, ov_r 0), (1, ov_i x), (2, ov_i y), (3, ov_i s), (4, ov_i v18)] [ov_i v26] z27 h28 (P_OF_latest_0 z h x y s)
        have f30 : -2147483648 ≤ v26 ∧ v26 ≤ 2147483647 ∧ (h28 36 7) = (h 36 7) ∧ (h28 1 1) = (h 1 1) ∧ (h28 90 2) = (h 90 2) ∧ (h28 0 10) = (h 0 10) ∧ (h28 0 11) = (h 0 11) ∧ (h28 0 12) = (h 0 12) ∧ (h28 0 13) = (h 0 13) ∧ (h28 3 1) = (h 3 1) ∧ (h28 36 8) = (h 36 8) ∧ (h28 46 4) = (h 46 4) ∧ (h28 49 4) = (h 49 4) ∧ (h28 49 5) = (h 49 5) := f25
        clear f25
        have e31 : h28 0 10 = 70 := by omega
        exact ov_reti (st := []) d_149_40 rfl ⟨_, rfl, I29, (by show (h28 36 7) = (h 36 7) ∧ (h28 1 1) = (h 1 1) ∧ (h28 90 2) = (h 90 2) ∧ (h28 0 10) = (h 0 10) ∧ (h28 0 11) = (h 0 11) ∧ (h28 0 12) = (h 0 12) ∧ (h28 0 13) = (h 0 13) ∧ (h28 3 1) = (h 3 1) ∧ (h28 36 8) = (h 36 8) ∧ (h28 46 4) = (h 46 4) ∧ (h28 49 4) = (h 49 4) ∧ (h28 49 5) = (h 49 5); omega)⟩
      · skip
        refine ov_blk (ls2 := [(0, ov_r 0), (1, ov_i x), (2, ov_i y), (3, ov_i s), (4, ov_i v18)]) (st2 := [ov_i (-1)]) (pc2 := 25) b_149_24_1 rfl rfl ?_
        exact ov_reti (st := []) d_149_25 rfl ⟨_, rfl, I, (by show (h 36 7) = (h 36 7) ∧ (h 1 1) = (h 1 1) ∧ (h 90 2) = (h 90 2) ∧ (h 0 10) = (h 0 10) ∧ (h 0 11) = (h 0 11) ∧ (h 0 12) = (h 0 12) ∧ (h 0 13) = (h 0 13) ∧ (h 3 1) = (h 3 1) ∧ (h 36 8) = (h 36 8) ∧ (h 46 4) = (h 46 4) ∧ (h 49 4) = (h 49 4) ∧ (h 49 5) = (h 49 5); omega)⟩
abbrev P_OF_turning_0 (z : ov_Z) (h : ov_H) (s : Int) (o : Int) : Option ov_V → ov_Z → ov_H → Prop := fun r0 z' h' => ∃ r : Int, r0 = some (ov_i r) ∧ ov_I z' h' ∧ (h' 36 7 = h 36 7 ∧ h' 1 1 = h 1 1 ∧ h' 90 2 = h 90 2 ∧ h' 0 10 = h 0 10 ∧ h' 0 11 = h 0 11 ∧ h' 0 12 = h 0 12 ∧ h' 0 13 = h 0 13 ∧ h' 3 1 = h 3 1 ∧ h' 36 8 = h 36 8 ∧ h' 46 4 = h 46 4 ∧ h' 49 4 = h 49 4 ∧ h' 49 5 = h 49 5)
set_option maxHeartbeats 4000000 in
theorem c_OF_turning_0 {u : ov_U} {z : ov_Z} {h : ov_H} (d : Nat) (hd : 6 ≤ d) (U : ov_cap u) (I : ov_I z h) (s : Int) (o : Int) (g_s : ov_g s) (g_o : ov_g o) : ov_T u d ov_m151 [ov_r 0, ov_i s, ov_i o] z h (P_OF_turning_0 z h s o) := by
  refine ov_en rfl (Nat.le_of_ble_eq_true rfl) ?_
  show ov_R u d ov_m151 0 [(0, ov_r 0), (1, ov_i s), (2, ov_i o)] [] z h (P_OF_turning_0 z h s o)
  refine ov_blk (ls2 := [(0, ov_r 0), (1, ov_i s), (2, ov_i o)]) (st2 := [ov_i s]) (pc2 := 1) b_151_0_1 rfl rfl ?_
  refine ov_cS (as := [ov_i s]) (st := []) (d2 := d - 1) d_151_1 lk_OF_155 rfl (Nat.le_of_ble_eq_true rfl) (by omega) (c_OF_isSecond (d - 1) (by omega) U I s (by omega)) ?_
  rintro _ _ _ ⟨v2, rfl, rfl, rfl, f1⟩
  show ov_R u d ov_m151 4 [(0, ov_r 0), (1, ov_i s), (2, ov_i o)] [ov_i v2] z h (P_OF_turning_0 z h s o)
  have f3 : (v2 = 0 ∨ v2 = 1) ∧ (v2 = 1 → 0 ≤ s ∧ s ≤ 1000000) := f1
  clear f1
  refine ov_ifeq (tgt := 17) d_151_4 (by decide) (by omega) (fun c4 => ?_) (fun c4 => ?_)
  · skip
    refine ov_blk (ls2 := [(0, ov_r 0), (1, ov_i s), (2, ov_i o)]) (st2 := [ov_i (-1)]) (pc2 := 18) b_151_17_1 rfl rfl ?_
    exact ov_reti (st := []) d_151_18 rfl ⟨_, rfl, I, (by show (h 36 7) = (h 36 7) ∧ (h 1 1) = (h 1 1) ∧ (h 90 2) = (h 90 2) ∧ (h 0 10) = (h 0 10) ∧ (h 0 11) = (h 0 11) ∧ (h 0 12) = (h 0 12) ∧ (h 0 13) = (h 0 13) ∧ (h 3 1) = (h 3 1) ∧ (h 36 8) = (h 36 8) ∧ (h 46 4) = (h 46 4) ∧ (h 49 4) = (h 49 4) ∧ (h 49 5) = (h 49 5); omega)⟩
  · skip
    refine ov_blk (ls2 := [(0, ov_r 0), (1, ov_i s), (2, ov_i o)]) (st2 := [ov_i o]) (pc2 := 8) b_151_7_1 rfl rfl ?_
    refine ov_iflt (tgt := 17) d_151_8 (by decide) (by omega) (fun c5 => ?_) (fun c5 => ?_)
    · skip
      refine ov_blk (ls2 := [(0, ov_r 0), (1, ov_i s), (2, ov_i o)]) (st2 := [ov_i (-1)]) (pc2 := 18) b_151_17_1 rfl rfl ?_
      exact ov_reti (st := []) d_151_18 rfl ⟨_, rfl, I, (by show (h 36 7) = (h 36 7) ∧ (h 1 1) = (h 1 1) ∧ (h 90 2) = (h 90 2) ∧ (h 0 10) = (h 0 10) ∧ (h 0 11) = (h 0 11) ∧ (h 0 12) = (h 0 12) ∧ (h 0 13) = (h 0 13) ∧ (h 3 1) = (h 3 1) ∧ (h 36 8) = (h 36 8) ∧ (h 46 4) = (h 46 4) ∧ (h 49 4) = (h 49 4) ∧ (h 49 5) = (h 49 5); omega)⟩
    · skip
      refine ov_blk (ls2 := [(0, ov_r 0), (1, ov_i s), (2, ov_i o)]) (st2 := [ov_i 12, ov_i o]) (pc2 := 14) b_151_11_2 rfl rfl ?_
      refine ov_icle (tgt := 19) d_151_14 (by decide) (by omega) (by omega) (fun c6 => ?_) (fun c6 => ?_)
      · skip
        refine ov_blk (ls2 := [(0, ov_r 0), (1, ov_i s), (2, ov_i o)]) (st2 := [ov_r 0]) (pc2 := 20) b_151_19_1 rfl rfl ?_
        refine ov_getf (v := ov_r 46) d_151_20 fl_OF_57 (zb_0 I) (zs_0 I) (congrArg ov_r (rg_0_7 I)) ?_
        refine ov_blk (ls2 := [(0, ov_r 0), (1, ov_i s), (2, ov_i o)]) (st2 := [ov_r 0, ov_r 46]) (pc2 := 24) b_151_23_1 rfl rfl ?_
        rcases rg_0_10 I with e7 | e7
        · skip
          refine ov_getf (v := ov_r 58) d_151_24 fl_OF_78 (zb_0 I) (zs_0 I) (congrArg ov_r e7) ?_
          refine ov_blk (ls2 := [(0, ov_r 0), (1, ov_i s), (2, ov_i o)]) (st2 := [ov_i o, ov_i s, ov_r 58, ov_r 46]) (pc2 := 29) b_151_27_2 rfl rfl ?_
          refine ov_cV (as := [ov_r 58, ov_i s, ov_i o]) (st := []) (d2 := d - 1) d_151_29 lk_OF_244 rfl (Nat.le_of_ble_eq_true rfl) (c := 12) (zb_46 I) (zs_46 I) ⟨by decide, rfl⟩ (by omega) (c_Ways_arrivalTurning_46_58 (d - 1) (by omega) U I s o (by omega) (by omega) (by omega)) ?_
          rintro _ z10 h11 ⟨v9, rfl, I12, f8⟩
          show ov_R u d ov_m151 32 [(0, ov_r 0), (1, ov_i s), (2, ov_i o)] [ov_i v9] z10 h11 (P_OF_turning_0 z h s o)
          have f13 : -2147483648 ≤ v9 ∧ v9 ≤ 2147483647 ∧ (h11 36 7) = (h 36 7) ∧ (h11 1 1) = (h 1 1) ∧ (h11 90 2) = (h 90 2) ∧ (h11 0 10) = (h 0 10) ∧ (h11 0 11) = (h 0 11) ∧ (h11 0 12) = (h 0 12) ∧ (h11 0 13) = (h 0 13) ∧ (h11 3 1) = (h 3 1) ∧ (h11 36 8) = (h 36 8) ∧ (h11 46 4) = (h 46 4) ∧ (h11 49 4) = (h 49 4) ∧ (h11 49 5) = (h 49 5) := f8
          clear f8
          have e14 : h11 0 10 = 58 := by omega
          exact ov_reti (st := []) d_151_32 rfl ⟨_, rfl, I12, (by show (h11 36 7) = (h 36 7) ∧ (h11 1 1) = (h 1 1) ∧ (h11 90 2) = (h 90 2) ∧ (h11 0 10) = (h 0 10) ∧ (h11 0 11) = (h 0 11) ∧ (h11 0 12) = (h 0 12) ∧ (h11 0 13) = (h 0 13) ∧ (h11 3 1) = (h 3 1) ∧ (h11 36 8) = (h 36 8) ∧ (h11 46 4) = (h 46 4) ∧ (h11 49 4) = (h 49 4) ∧ (h11 49 5) = (h 49 5); omega)⟩
        · skip
          refine ov_getf (v := ov_r 70) d_151_24 fl_OF_78 (zb_0 I) (zs_0 I) (congrArg ov_r e7) ?_
          refine ov_blk (ls2 := [(0, ov_r 0), (1, ov_i s), (2, ov_i o)]) (st2 := [ov_i o, ov_i s, ov_r 70, ov_r 46]) (pc2 := 29) b_151_27_2 rfl rfl ?_
          refine ov_cV (as := [ov_r 70, ov_i s, ov_i o]) (st := []) (d2 := d - 1) d_151_29 lk_OF_244 rfl (Nat.le_of_ble_eq_true rfl) (c := 12) (zb_46 I) (zs_46 I) ⟨by decide, rfl⟩ (by omega) (c_Ways_arrivalTurning_46_70 (d - 1) (by omega) U I s o (by omega) (by omega) (by omega)) ?_
          rintro _ z17 h18 ⟨v16, rfl, I19, f15⟩
          show ov_R u d ov_m151 32 [(0, ov_r 0), (1, ov_i s), (2, ov_i o)] [ov_i v16] z17 h18 (P_OF_turning_0 z h s o)
          have f20 : -2147483648 ≤ v16 ∧ v16 ≤ 2147483647 ∧ (h18 36 7) = (h 36 7) ∧ (h18 1 1) = (h 1 1) ∧ (h18 90 2) = (h 90 2) ∧ (h18 0 10) = (h 0 10) ∧ (h18 0 11) = (h 0 11) ∧ (h18 0 12) = (h 0 12) ∧ (h18 0 13) = (h 0 13) ∧ (h18 3 1) = (h 3 1) ∧ (h18 36 8) = (h 36 8) ∧ (h18 46 4) = (h 46 4) ∧ (h18 49 4) = (h 49 4) ∧ (h18 49 5) = (h 49 5) := f15
          clear f15
          have e21 : h18 0 10 = 70 := by omega
          exact ov_reti (st := []) d_151_32 rfl ⟨_, rfl, I19, (by show (h18 36 7) = (h 36 7) ∧ (h18 1 1) = (h 1 1) ∧ (h18 90 2) = (h 90 2) ∧ (h18 0 10) = (h 0 10) ∧ (h18 0 11) = (h 0 11) ∧ (h18 0 12) = (h 0 12) ∧ (h18 0 13) = (h 0 13) ∧ (h18 3 1) = (h 3 1) ∧ (h18 36 8) = (h 36 8) ∧ (h18 46 4) = (h 46 4) ∧ (h18 49 4) = (h 49 4) ∧ (h18 49 5) = (h 49 5); omega)⟩
      · skip
        refine ov_blk (ls2 := [(0, ov_r 0), (1, ov_i s), (2, ov_i o)]) (st2 := [ov_i (-1)]) (pc2 := 18) b_151_17_1 rfl rfl ?_
        exact ov_reti (st := []) d_151_18 rfl ⟨_, rfl, I, (by show (h 36 7) = (h 36 7) ∧ (h 1 1) = (h 1 1) ∧ (h 90 2) = (h 90 2) ∧ (h 0 10) = (h 0 10) ∧ (h 0 11) = (h 0 11) ∧ (h 0 12) = (h 0 12) ∧ (h 0 13) = (h 0 13) ∧ (h 3 1) = (h 3 1) ∧ (h 36 8) = (h 36 8) ∧ (h 46 4) = (h 46 4) ∧ (h 49 4) = (h 49 4) ∧ (h 49 5) = (h 49 5); omega)⟩
abbrev P_OF_worthiest_0 (z : ov_Z) (h : ov_H) (s : Int) : Option ov_V → ov_Z → ov_H → Prop := fun r0 z' h' => ∃ r : Int, r0 = some (ov_i r) ∧ ov_I z' h' ∧ ((h' 36 7 = 1 → ¬ h' 36 8 = -1) ∧ h' 1 1 = h 1 1 ∧ h' 90 2 = h 90 2 ∧ h' 0 10 = h 0 10 ∧ h' 0 11 = h 0 11 ∧ h' 0 12 = h 0 12 ∧ h' 0 13 = h 0 13 ∧ h' 3 1 = h 3 1 ∧ h' 46 3 = h 46 3 ∧ h' 46 4 = h 46 4 ∧ h' 49 4 = h 49 4 ∧ h' 49 5 = h 49 5)
set_option maxHeartbeats 4000000 in
theorem c_OF_worthiest_0 {u : ov_U} {z : ov_Z} {h : ov_H} (d : Nat) (hd : 310 ≤ d) (U : ov_cap u) (I : ov_I z h) (s : Int) (g_s : ov_g s) (p0 : h 36 7 = 1 → ¬ h 36 8 = -1) : ov_T u d ov_m156 [ov_r 0, ov_i s] z h (P_OF_worthiest_0 z h s) := by
  refine ov_en rfl (Nat.le_of_ble_eq_true rfl) ?_
  show ov_R u d ov_m156 0 [(0, ov_r 0), (1, ov_i s)] [] z h (P_OF_worthiest_0 z h s)
  refine ov_blk (ls2 := [(0, ov_r 0), (1, ov_i s)]) (st2 := [ov_i 0, ov_i s, ov_i 0, ov_i 3, ov_r 0]) (pc2 := 5) b_156_0_5 rfl rfl ?_
  refine ov_cV (as := [ov_i 3, ov_i 0, ov_i s, ov_i 0]) (st := []) (d2 := d - 1) d_156_5 lk_OF_211 rfl (Nat.le_of_ble_eq_true rfl) (c := 0) (zb_0 I) (zs_0 I) ⟨by decide, rfl⟩ (by omega) (c_OF_reckoned_0 (d - 1) (by omega) U I 3 0 s 0 (by omega) (by omega) (by omega) (by omega) (by omega) (by omega)) ?_
  rintro _ z3 h4 ⟨v2, rfl, I5, f1⟩
  show ov_R u d ov_m156 8 [(0, ov_r 0), (1, ov_i s)] [ov_i v2] z3 h4 (P_OF_worthiest_0 z h s)
  have f6 : -2147483648 ≤ v2 ∧ v2 ≤ 2147483647 ∧ ((h4 36 7) = 1 → ¬ (h4 36 8) = -1) ∧ (¬ v2 = -1 → ¬ (h4 36 8) = -1) ∧ (h4 1 1) = (h 1 1) ∧ (h4 90 2) = (h 90 2) ∧ (h4 0 10) = (h 0 10) ∧ (h4 0 11) = (h 0 11) ∧ (h4 0 12) = (h 0 12) ∧ (h4 0 13) = (h 0 13) ∧ (h4 3 1) = (h 3 1) ∧ (h4 46 3) = (h 46 3) ∧ (h4 46 4) = (h 46 4) ∧ (h4 49 4) = (h 49 4) ∧ (h4 49 5) = (h 49 5) := f1
  clear f1
  refine ov_blk (ls2 := [(0, ov_r 0), (1, ov_i s)]) (st2 := [ov_i (-1), ov_i v2]) (pc2 := 9) b_156_8_1 rfl rfl ?_
  refine ov_icne (tgt := 14) d_156_9 (by decide) (by omega) (by omega) (fun c7 => ?_) (fun c7 => ?_)
  · skip
    refine ov_blk (ls2 := [(0, ov_r 0), (1, ov_i s)]) (st2 := [ov_r 0]) (pc2 := 15) b_156_14_1 rfl rfl ?_
    refine ov_getf (v := ov_r 36) d_156_15 fl_OF_50 (zb_0 I5) (zs_0 I5) (congrArg ov_r (rg_0_6 I5)) ?_
    refine ov_blk (ls2 := [(0, ov_r 0), (1, ov_i s)]) (st2 := [ov_i s, ov_r 36]) (pc2 := 19) b_156_18_1 rfl rfl ?_
    rcases rg_36_8 I5 with e8 | e8 | e8
    · omega
    · skip
      refine ov_cV (as := [ov_i s]) (st := []) (d2 := d - 1) d_156_19 lk_OF_247 rfl (Nat.le_of_ble_eq_true rfl) (c := 2) (zb_36 I5) (zs_36 I5) ⟨by decide, rfl⟩ (by omega) (c_Goers_mostWorthWatching_36_k36_8_58 (d - 1) (by omega) U I5 s e8 (by omega)) ?_
      rintro _ z11 h12 ⟨v10, rfl, I13, f9⟩
      show ov_R u d ov_m156 22 [(0, ov_r 0), (1, ov_i s)] [ov_i v10] z11 h12 (P_OF_worthiest_0 z h s)
      have f14 : -1 ≤ v10 ∧ v10 ≤ 53 ∧ (h12 36 7) = (h4 36 7) ∧ (h12 1 1) = (h4 1 1) ∧ (h12 90 2) = (h4 90 2) ∧ (h12 0 10) = (h4 0 10) ∧ (h12 0 11) = (h4 0 11) ∧ (h12 0 12) = (h4 0 12) ∧ (h12 0 13) = (h4 0 13) ∧ (h12 3 1) = (h4 3 1) ∧ (h12 36 8) = (h4 36 8) ∧ (h12 46 3) = (h4 46 3) ∧ (h12 46 4) = (h4 46 4) ∧ (h12 49 4) = (h4 49 4) ∧ (h12 49 5) = (h4 49 5) := f9
      clear f9
      have e15 : h12 36 8 = 58 := by omega
      refine ov_blk (ls2 := [(0, ov_r 0), (1, ov_i s), (2, ov_i v10)]) (st2 := [ov_i (-1), ov_i v10]) (pc2 := 25) b_156_22_3 rfl rfl ?_
      refine ov_icne (tgt := 32) d_156_25 (by decide) (by omega) (by omega) (fun c16 => ?_) (fun c16 => ?_)
      · skip
        refine ov_blk (ls2 := [(0, ov_r 0), (1, ov_i s), (2, ov_i v10)]) (st2 := [ov_i 6, ov_i v10, ov_i 8]) (pc2 := 37) b_156_32_3 rfl rfl ?_
        refine ov_idiv d_156_37 (by omega) (by omega) (by omega) ?_
        have g17 := ov_td (a := v10) (b := 6) (by omega)
        refine ov_blk (ls2 := [(0, ov_r 0), (1, ov_i s), (2, ov_i v10)]) (st2 := [ov_i 6, ov_i v10, ov_i (8 * (Int.tdiv v10 6))]) (pc2 := 42) b_156_38_3 rfl rfl ?_
        refine ov_irem d_156_42 (by omega) (by omega) (by omega) ?_
        have g18 := ov_tm (a := v10) (b := 6) (by omega)
        have g19 := ov_tmg (a := v10) (b := 6) (by omega) (by omega)
        refine ov_blk (ls2 := [(0, ov_r 0), (1, ov_i s), (2, ov_i v10)]) (st2 := [ov_i ((8 * (Int.tdiv v10 6)) + (Int.tmod v10 6))]) (pc2 := 44) b_156_43_1 rfl rfl ?_
        exact ov_reti (st := []) d_156_44 rfl ⟨_, rfl, I13, (by show ((h12 36 7) = 1 → ¬ (h12 36 8) = -1) ∧ (h12 1 1) = (h 1 1) ∧ (h12 90 2) = (h 90 2) ∧ (h12 0 10) = (h 0 10) ∧ (h12 0 11) = (h 0 11) ∧ (h12 0 12) = (h 0 12) ∧ (h12 0 13) = (h 0 13) ∧ (h12 3 1) = (h 3 1) ∧ (h12 46 3) = (h 46 3) ∧ (h12 46 4) = (h 46 4) ∧ (h12 49 4) = (h 49 4) ∧ (h12 49 5) = (h 49 5); omega)⟩
      · skip
        refine ov_blk (ls2 := [(0, ov_r 0), (1, ov_i s), (2, ov_i v10)]) (st2 := [ov_i (-1)]) (pc2 := 29) b_156_28_1 rfl rfl ?_
        refine ov_goto (tgt := 44) d_156_29 (by decide) ?_
        exact ov_reti (st := []) d_156_44 rfl ⟨_, rfl, I13, (by show ((h12 36 7) = 1 → ¬ (h12 36 8) = -1) ∧ (h12 1 1) = (h 1 1) ∧ (h12 90 2) = (h 90 2) ∧ (h12 0 10) = (h 0 10) ∧ (h12 0 11) = (h 0 11) ∧ (h12 0 12) = (h 0 12) ∧ (h12 0 13) = (h 0 13) ∧ (h12 3 1) = (h 3 1) ∧ (h12 46 3) = (h 46 3) ∧ (h12 46 4) = (h 46 4) ∧ (h12 49 4) = (h 49 4) ∧ (h12 49 5) = (h 49 5); omega)⟩
    · skip
      refine ov_cV (as := [ov_i s]) (st := []) (d2 := d - 1) d_156_19 lk_OF_247 rfl (Nat.le_of_ble_eq_true rfl) (c := 2) (zb_36 I5) (zs_36 I5) ⟨by decide, rfl⟩ (by omega) (c_Goers_mostWorthWatching_36_k36_8_70 (d - 1) (by omega) U I5 s e8 (by omega)) ?_
      rintro _ z22 h23 ⟨v21, rfl, I24, f20⟩
      show ov_R u d ov_m156 22 [(0, ov_r 0), (1, ov_i s)] [ov_i v21] z22 h23 (P_OF_worthiest_0 z h s)
      have f25 : -1 ≤ v21 ∧ v21 ≤ 53 ∧ (h23 36 7) = (h4 36 7) ∧ (h23 1 1) = (h4 1 1) ∧ (h23 90 2) = (h4 90 2) ∧ (h23 0 10) = (h4 0 10) ∧ (h23 0 11) = (h4 0 11) ∧ (h23 0 12) = (h4 0 12) ∧ (h23 0 13) = (h4 0 13) ∧ (h23 3 1) = (h4 3 1) ∧ (h23 36 8) = (h4 36 8) ∧ (h23 46 3) = (h4 46 3) ∧ (h23 46 4) = (h4 46 4) ∧ (h23 49 4) = (h4 49 4) ∧ (h23 49 5) = (h4 49 5) := f20
      clear f20
      have e26 : h23 36 8 = 70 := by omega
      refine ov_blk (ls2 := [(0, ov_r 0), (1, ov_i s), (2, ov_i v21)]) (st2 := [ov_i (-1), ov_i v21]) (pc2 := 25) b_156_22_3 rfl rfl ?_
      refine ov_icne (tgt := 32) d_156_25 (by decide) (by omega) (by omega) (fun c27 => ?_) (fun c27 => ?_)
      · skip
        refine ov_blk (ls2 := [(0, ov_r 0), (1, ov_i s), (2, ov_i v21)]) (st2 := [ov_i 6, ov_i v21, ov_i 8]) (pc2 := 37) b_156_32_3 rfl rfl ?_
        refine ov_idiv d_156_37 (by omega) (by omega) (by omega) ?_
        have g28 := ov_td (a := v21) (b := 6) (by omega)
        refine ov_blk (ls2 := [(0, ov_r 0), (1, ov_i s), (2, ov_i v21)]) (st2 := [ov_i 6, ov_i v21, ov_i (8 * (Int.tdiv v21 6))]) (pc2 := 42) b_156_38_3 rfl rfl ?_
        refine ov_irem d_156_42 (by omega) (by omega) (by omega) ?_
        have g29 := ov_tm (a := v21) (b := 6) (by omega)
        have g30 := ov_tmg (a := v21) (b := 6) (by omega) (by omega)
        refine ov_blk (ls2 := [(0, ov_r 0), (1, ov_i s), (2, ov_i v21)]) (st2 := [ov_i ((8 * (Int.tdiv v21 6)) + (Int.tmod v21 6))]) (pc2 := 44) b_156_43_1 rfl rfl ?_
        exact ov_reti (st := []) d_156_44 rfl ⟨_, rfl, I24, (by show ((h23 36 7) = 1 → ¬ (h23 36 8) = -1) ∧ (h23 1 1) = (h 1 1) ∧ (h23 90 2) = (h 90 2) ∧ (h23 0 10) = (h 0 10) ∧ (h23 0 11) = (h 0 11) ∧ (h23 0 12) = (h 0 12) ∧ (h23 0 13) = (h 0 13) ∧ (h23 3 1) = (h 3 1) ∧ (h23 46 3) = (h 46 3) ∧ (h23 46 4) = (h 46 4) ∧ (h23 49 4) = (h 49 4) ∧ (h23 49 5) = (h 49 5); omega)⟩
      · skip
        refine ov_blk (ls2 := [(0, ov_r 0), (1, ov_i s), (2, ov_i v21)]) (st2 := [ov_i (-1)]) (pc2 := 29) b_156_28_1 rfl rfl ?_
        refine ov_goto (tgt := 44) d_156_29 (by decide) ?_
        exact ov_reti (st := []) d_156_44 rfl ⟨_, rfl, I24, (by show ((h23 36 7) = 1 → ¬ (h23 36 8) = -1) ∧ (h23 1 1) = (h 1 1) ∧ (h23 90 2) = (h 90 2) ∧ (h23 0 10) = (h 0 10) ∧ (h23 0 11) = (h 0 11) ∧ (h23 0 12) = (h 0 12) ∧ (h23 0 13) = (h 0 13) ∧ (h23 3 1) = (h 3 1) ∧ (h23 46 3) = (h 46 3) ∧ (h23 46 4) = (h 46 4) ∧ (h23 49 4) = (h 49 4) ∧ (h23 49 5) = (h 49 5); omega)⟩
  · skip
    refine ov_blk (ls2 := [(0, ov_r 0), (1, ov_i s)]) (st2 := [ov_i (-1)]) (pc2 := 13) b_156_12_1 rfl rfl ?_
    exact ov_reti (st := []) d_156_13 rfl ⟨_, rfl, I5, (by show ((h4 36 7) = 1 → ¬ (h4 36 8) = -1) ∧ (h4 1 1) = (h 1 1) ∧ (h4 90 2) = (h 90 2) ∧ (h4 0 10) = (h 0 10) ∧ (h4 0 11) = (h 0 11) ∧ (h4 0 12) = (h 0 12) ∧ (h4 0 13) = (h 0 13) ∧ (h4 3 1) = (h 3 1) ∧ (h4 46 3) = (h 46 3) ∧ (h4 46 4) = (h 46 4) ∧ (h4 49 4) = (h 49 4) ∧ (h4 49 5) = (h 49 5); omega)⟩
abbrev P_OF_odds_0 (z : ov_Z) (h : ov_H) (g : Int) (s : Int) (by_ : Int) : Option ov_V → ov_Z → ov_H → Prop := fun r0 z' h' => ∃ r : Int, r0 = some (ov_i r) ∧ ov_I z' h' ∧ ((h' 36 7 = 1 → ¬ h' 36 8 = -1) ∧ h' 1 1 = h 1 1 ∧ h' 90 2 = h 90 2 ∧ h' 0 10 = h 0 10 ∧ h' 0 11 = h 0 11 ∧ h' 0 12 = h 0 12 ∧ h' 0 13 = h 0 13 ∧ h' 3 1 = h 3 1 ∧ h' 46 3 = h 46 3 ∧ h' 46 4 = h 46 4 ∧ h' 49 4 = h 49 4 ∧ h' 49 5 = h 49 5)
set_option maxHeartbeats 4000000 in
theorem c_OF_odds_0 {u : ov_U} {z : ov_Z} {h : ov_H} (d : Nat) (hd : 510 ≤ d) (U : ov_cap u) (I : ov_I z h) (g : Int) (s : Int) (by_ : Int) (g_g : ov_g g) (g_s : ov_g s) (g_by_ : ov_g by_) (p0 : h 36 7 = 1 → ¬ h 36 8 = -1) : ov_T u d ov_m158 [ov_r 0, ov_i g, ov_i s, ov_i by_] z h (P_OF_odds_0 z h g s by_) := by
  refine ov_en rfl (Nat.le_of_ble_eq_true rfl) ?_
  show ov_R u d ov_m158 0 [(0, ov_r 0), (1, ov_i g), (2, ov_i s), (3, ov_i by_)] [] z h (P_OF_odds_0 z h g s by_)
  refine ov_blk (ls2 := [(0, ov_r 0), (1, ov_i g), (2, ov_i s), (3, ov_i by_)]) (st2 := [ov_i by_]) (pc2 := 1) b_158_0_1 rfl rfl ?_
  refine ov_cS (as := [ov_i by_]) (st := []) (d2 := d - 1) d_158_1 lk_OF_155 rfl (Nat.le_of_ble_eq_true rfl) (by omega) (c_OF_isSecond (d - 1) (by omega) U I by_ (by omega)) ?_
  rintro _ _ _ ⟨v2, rfl, rfl, rfl, f1⟩
  show ov_R u d ov_m158 4 [(0, ov_r 0), (1, ov_i g), (2, ov_i s), (3, ov_i by_)] [ov_i v2] z h (P_OF_odds_0 z h g s by_)
  have f3 : (v2 = 0 ∨ v2 = 1) ∧ (v2 = 1 → 0 ≤ by_ ∧ by_ ≤ 1000000) := f1
  clear f1
  refine ov_ifeq (tgt := 19) d_158_4 (by decide) (by omega) (fun c4 => ?_) (fun c4 => ?_)
  · skip
    refine ov_blk (ls2 := [(0, ov_r 0), (1, ov_i g), (2, ov_i s), (3, ov_i by_)]) (st2 := [ov_i (-1)]) (pc2 := 20) b_158_19_1 rfl rfl ?_
    exact ov_reti (st := []) d_158_20 rfl ⟨_, rfl, I, (by show ((h 36 7) = 1 → ¬ (h 36 8) = -1) ∧ (h 1 1) = (h 1 1) ∧ (h 90 2) = (h 90 2) ∧ (h 0 10) = (h 0 10) ∧ (h 0 11) = (h 0 11) ∧ (h 0 12) = (h 0 12) ∧ (h 0 13) = (h 0 13) ∧ (h 3 1) = (h 3 1) ∧ (h 46 3) = (h 46 3) ∧ (h 46 4) = (h 46 4) ∧ (h 49 4) = (h 49 4) ∧ (h 49 5) = (h 49 5); omega)⟩
  · skip
    refine ov_blk (ls2 := [(0, ov_r 0), (1, ov_i g), (2, ov_i s), (3, ov_i by_)]) (st2 := [ov_i 0, ov_i s, ov_i 0, ov_i g, ov_r 0]) (pc2 := 12) b_158_7_5 rfl rfl ?_
    refine ov_cV (as := [ov_i g, ov_i 0, ov_i s, ov_i 0]) (st := []) (d2 := d - 1) d_158_12 lk_OF_211 rfl (Nat.le_of_ble_eq_true rfl) (c := 0) (zb_0 I) (zs_0 I) ⟨by decide, rfl⟩ (by omega) (c_OF_reckoned_0 (d - 1) (by omega) U I g 0 s 0 (by omega) (by omega) (by omega) (by omega) (by omega) (by omega)) ?_
    rintro _ z7 h8 ⟨v6, rfl, I9, f5⟩
    show ov_R u d ov_m158 15 [(0, ov_r 0), (1, ov_i g), (2, ov_i s), (3, ov_i by_)] [ov_i v6] z7 h8 (P_OF_odds_0 z h g s by_)
    have f10 : -2147483648 ≤ v6 ∧ v6 ≤ 2147483647 ∧ ((h8 36 7) = 1 → ¬ (h8 36 8) = -1) ∧ (¬ v6 = -1 → ¬ (h8 36 8) = -1) ∧ (h8 1 1) = (h 1 1) ∧ (h8 90 2) = (h 90 2) ∧ (h8 0 10) = (h 0 10) ∧ (h8 0 11) = (h 0 11) ∧ (h8 0 12) = (h 0 12) ∧ (h8 0 13) = (h 0 13) ∧ (h8 3 1) = (h 3 1) ∧ (h8 46 3) = (h 46 3) ∧ (h8 46 4) = (h 46 4) ∧ (h8 49 4) = (h 49 4) ∧ (h8 49 5) = (h 49 5) := f5
    clear f5
    refine ov_blk (ls2 := [(0, ov_r 0), (1, ov_i g), (2, ov_i s), (3, ov_i by_)]) (st2 := [ov_i (-1), ov_i v6]) (pc2 := 16) b_158_15_1 rfl rfl ?_
    refine ov_icne (tgt := 21) d_158_16 (by decide) (by omega) (by omega) (fun c11 => ?_) (fun c11 => ?_)
    · skip
      refine ov_blk (ls2 := [(0, ov_r 0), (1, ov_i g), (2, ov_i s), (3, ov_i by_)]) (st2 := [ov_r 0]) (pc2 := 22) b_158_21_1 rfl rfl ?_
      refine ov_getf (v := ov_r 36) d_158_22 fl_OF_50 (zb_0 I9) (zs_0 I9) (congrArg ov_r (rg_0_6 I9)) ?_
      refine ov_blk (ls2 := [(0, ov_r 0), (1, ov_i g), (2, ov_i s), (3, ov_i by_)]) (st2 := [ov_i by_, ov_i s, ov_r 36]) (pc2 := 27) b_158_25_2 rfl rfl ?_
      rcases rg_36_8 I9 with e12 | e12 | e12
      · omega
      · skip
        refine ov_cV (as := [ov_i s, ov_i by_]) (st := []) (d2 := d - 1) d_158_27 lk_OF_251 rfl (Nat.le_of_ble_eq_true rfl) (c := 2) (zb_36 I9) (zs_36 I9) ⟨by decide, rfl⟩ (by omega) (c_Goers_chanceOf_36_k36_8_58 (d - 1) (by omega) U I9 s by_ e12 (by omega) (by omega)) ?_
        rintro _ z15 h16 ⟨v14, rfl, I17, f13⟩
        show ov_R u d ov_m158 30 [(0, ov_r 0), (1, ov_i g), (2, ov_i s), (3, ov_i by_)] [ov_i v14] z15 h16 (P_OF_odds_0 z h g s by_)
        have f18 : -2147483648 ≤ v14 ∧ v14 ≤ 2147483647 ∧ (h16 36 7) = (h8 36 7) ∧ (h16 1 1) = (h8 1 1) ∧ (h16 90 2) = (h8 90 2) ∧ (h16 0 10) = (h8 0 10) ∧ (h16 0 11) = (h8 0 11) ∧ (h16 0 12) = (h8 0 12) ∧ (h16 0 13) = (h8 0 13) ∧ (h16 3 1) = (h8 3 1) ∧ (h16 36 8) = (h8 36 8) ∧ (h16 46 3) = (h8 46 3) ∧ (h16 46 4) = (h8 46 4) ∧ (h16 49 4) = (h8 49 4) ∧ (h16 49 5) = (h8 49 5) := f13
        clear f13
        have e19 : h16 36 8 = 58 := by omega
        exact ov_reti (st := []) d_158_30 rfl ⟨_, rfl, I17, (by show ((h16 36 7) = 1 → ¬ (h16 36 8) = -1) ∧ (h16 1 1) = (h 1 1) ∧ (h16 90 2) = (h 90 2) ∧ (h16 0 10) = (h 0 10) ∧ (h16 0 11) = (h 0 11) ∧ (h16 0 12) = (h 0 12) ∧ (h16 0 13) = (h 0 13) ∧ (h16 3 1) = (h 3 1) ∧ (h16 46 3) = (h 46 3) ∧ (h16 46 4) = (h 46 4) ∧ (h16 49 4) = (h 49 4) ∧ (h16 49 5) = (h 49 5); omega)⟩
      · skip
        refine ov_cV (as := [ov_i s, ov_i by_]) (st := []) (d2 := d - 1) d_158_27 lk_OF_251 rfl (Nat.le_of_ble_eq_true rfl) (c := 2) (zb_36 I9) (zs_36 I9) ⟨by decide, rfl⟩ (by omega) (c_Goers_chanceOf_36_k36_8_70 (d - 1) (by omega) U I9 s by_ e12 (by omega) (by omega)) ?_
        rintro _ z22 h23 ⟨v21, rfl, I24, f20⟩
        show ov_R u d ov_m158 30 [(0, ov_r 0), (1, ov_i g), (2, ov_i s), (3, ov_i by_)] [ov_i v21] z22 h23 (P_OF_odds_0 z h g s by_)
        have f25 : -2147483648 ≤ v21 ∧ v21 ≤ 2147483647 ∧ (h23 36 7) = (h8 36 7) ∧ (h23 1 1) = (h8 1 1) ∧ (h23 90 2) = (h8 90 2) ∧ (h23 0 10) = (h8 0 10) ∧ (h23 0 11) = (h8 0 11) ∧ (h23 0 12) = (h8 0 12) ∧ (h23 0 13) = (h8 0 13) ∧ (h23 3 1) = (h8 3 1) ∧ (h23 36 8) = (h8 36 8) ∧ (h23 46 3) = (h8 46 3) ∧ (h23 46 4) = (h8 46 4) ∧ (h23 49 4) = (h8 49 4) ∧ (h23 49 5) = (h8 49 5) := f20
        clear f20
        have e26 : h23 36 8 = 70 := by omega
        exact ov_reti (st := []) d_158_30 rfl ⟨_, rfl, I24, (by show ((h23 36 7) = 1 → ¬ (h23 36 8) = -1) ∧ (h23 1 1) = (h 1 1) ∧ (h23 90 2) = (h 90 2) ∧ (h23 0 10) = (h 0 10) ∧ (h23 0 11) = (h 0 11) ∧ (h23 0 12) = (h 0 12) ∧ (h23 0 13) = (h 0 13) ∧ (h23 3 1) = (h 3 1) ∧ (h23 46 3) = (h 46 3) ∧ (h23 46 4) = (h 46 4) ∧ (h23 49 4) = (h 49 4) ∧ (h23 49 5) = (h 49 5); omega)⟩
    · skip
      refine ov_blk (ls2 := [(0, ov_r 0), (1, ov_i g), (2, ov_i s), (3, ov_i by_)]) (st2 := [ov_i (-1)]) (pc2 := 20) b_158_19_1 rfl rfl ?_
      exact ov_reti (st := []) d_158_20 rfl ⟨_, rfl, I9, (by show ((h8 36 7) = 1 → ¬ (h8 36 8) = -1) ∧ (h8 1 1) = (h 1 1) ∧ (h8 90 2) = (h 90 2) ∧ (h8 0 10) = (h 0 10) ∧ (h8 0 11) = (h 0 11) ∧ (h8 0 12) = (h 0 12) ∧ (h8 0 13) = (h 0 13) ∧ (h8 3 1) = (h 3 1) ∧ (h8 46 3) = (h 46 3) ∧ (h8 46 4) = (h 46 4) ∧ (h8 49 4) = (h 49 4) ∧ (h8 49 5) = (h 49 5); omega)⟩
abbrev P_OF_pace_0 (z : ov_Z) (h : ov_H) (s : Int) (w : Int) : Option ov_V → ov_Z → ov_H → Prop := fun r0 z' h' => ∃ r : Int, r0 = some (ov_i r) ∧ ov_I z' h' ∧ (h' 36 7 = h 36 7 ∧ h' 1 1 = h 1 1 ∧ h' 90 2 = h 90 2 ∧ h' 0 10 = h 0 10 ∧ h' 0 11 = h 0 11 ∧ h' 0 12 = h 0 12 ∧ h' 0 13 = h 0 13 ∧ h' 3 1 = h 3 1 ∧ h' 36 8 = h 36 8 ∧ h' 46 3 = h 46 3 ∧ h' 46 4 = h 46 4)
set_option maxHeartbeats 4000000 in
theorem c_OF_pace_0 {u : ov_U} {z : ov_Z} {h : ov_H} (d : Nat) (hd : 80 ≤ d) (U : ov_cap u) (I : ov_I z h) (s : Int) (w : Int) (g_s : ov_g s) (g_w : ov_g w) : ov_T u d ov_m164 [ov_r 0, ov_i s, ov_i w] z h (P_OF_pace_0 z h s w) := by
  refine ov_en rfl (Nat.le_of_ble_eq_true rfl) ?_
  show ov_R u d ov_m164 0 [(0, ov_r 0), (1, ov_i s), (2, ov_i w)] [] z h (P_OF_pace_0 z h s w)
  refine ov_blk (ls2 := [(0, ov_r 0), (1, ov_i s), (2, ov_i w)]) (st2 := [ov_i s]) (pc2 := 1) b_164_0_1 rfl rfl ?_
  refine ov_cS (as := [ov_i s]) (st := []) (d2 := d - 1) d_164_1 lk_OF_155 rfl (Nat.le_of_ble_eq_true rfl) (by omega) (c_OF_isSecond (d - 1) (by omega) U I s (by omega)) ?_
  rintro _ _ _ ⟨v2, rfl, rfl, rfl, f1⟩
  show ov_R u d ov_m164 4 [(0, ov_r 0), (1, ov_i s), (2, ov_i w)] [ov_i v2] z h (P_OF_pace_0 z h s w)
  have f3 : (v2 = 0 ∨ v2 = 1) ∧ (v2 = 1 → 0 ≤ s ∧ s ≤ 1000000) := f1
  clear f1
  refine ov_ifeq (tgt := 34) d_164_4 (by decide) (by omega) (fun c4 => ?_) (fun c4 => ?_)
  · skip
    refine ov_blk (ls2 := [(0, ov_r 0), (1, ov_i s), (2, ov_i w)]) (st2 := [ov_i (-1)]) (pc2 := 35) b_164_34_1 rfl rfl ?_
    exact ov_reti (st := []) d_164_35 rfl ⟨_, rfl, I, (by show (h 36 7) = (h 36 7) ∧ (h 1 1) = (h 1 1) ∧ (h 90 2) = (h 90 2) ∧ (h 0 10) = (h 0 10) ∧ (h 0 11) = (h 0 11) ∧ (h 0 12) = (h 0 12) ∧ (h 0 13) = (h 0 13) ∧ (h 3 1) = (h 3 1) ∧ (h 36 8) = (h 36 8) ∧ (h 46 3) = (h 46 3) ∧ (h 46 4) = (h 46 4); omega)⟩
  · skip
    refine ov_blk (ls2 := [(0, ov_r 0), (1, ov_i s), (2, ov_i w)]) (st2 := [ov_i w]) (pc2 := 8) b_164_7_1 rfl rfl ?_
    refine ov_iflt (tgt := 34) d_164_8 (by decide) (by omega) (fun c5 => ?_) (fun c5 => ?_)
    · skip
      refine ov_blk (ls2 := [(0, ov_r 0), (1, ov_i s), (2, ov_i w)]) (st2 := [ov_i (-1)]) (pc2 := 35) b_164_34_1 rfl rfl ?_
      exact ov_reti (st := []) d_164_35 rfl ⟨_, rfl, I, (by show (h 36 7) = (h 36 7) ∧ (h 1 1) = (h 1 1) ∧ (h 90 2) = (h 90 2) ∧ (h 0 10) = (h 0 10) ∧ (h 0 11) = (h 0 11) ∧ (h 0 12) = (h 0 12) ∧ (h 0 13) = (h 0 13) ∧ (h 3 1) = (h 3 1) ∧ (h 36 8) = (h 36 8) ∧ (h 46 3) = (h 46 3) ∧ (h 46 4) = (h 46 4); omega)⟩
    · skip
      refine ov_blk (ls2 := [(0, ov_r 0), (1, ov_i s), (2, ov_i w)]) (st2 := [ov_r 0, ov_i 2, ov_i w]) (pc2 := 14) b_164_11_3 rfl rfl ?_
      rcases rg_0_12 I with e6 | e6
      · skip
        refine ov_getf (v := ov_r 82) d_164_14 fl_OF_88 (zb_0 I) (zs_0 I) (congrArg ov_r e6) ?_
        refine ov_getf (v := ov_i (h 82 0)) d_164_17 fl_OF_254 (zb_82 I) (zs_82 I) rfl ?_
        have g7 := rg_82_0 I
        refine ov_blk (ls2 := [(0, ov_r 0), (1, ov_i s), (2, ov_i w)]) (st2 := [ov_i (2 + (h 82 0)), ov_i w]) (pc2 := 21) b_164_20_1 rfl rfl ?_
        refine ov_icge (tgt := 34) d_164_21 (by decide) (by omega) (by omega) (fun c8 => ?_) (fun c8 => ?_)
        · skip
          refine ov_blk (ls2 := [(0, ov_r 0), (1, ov_i s), (2, ov_i w)]) (st2 := [ov_i (-1)]) (pc2 := 35) b_164_34_1 rfl rfl ?_
          exact ov_reti (st := []) d_164_35 rfl ⟨_, rfl, I, (by show (h 36 7) = (h 36 7) ∧ (h 1 1) = (h 1 1) ∧ (h 90 2) = (h 90 2) ∧ (h 0 10) = (h 0 10) ∧ (h 0 11) = (h 0 11) ∧ (h 0 12) = (h 0 12) ∧ (h 0 13) = (h 0 13) ∧ (h 3 1) = (h 3 1) ∧ (h 36 8) = (h 36 8) ∧ (h 46 3) = (h 46 3) ∧ (h 46 4) = (h 46 4); omega)⟩
        · skip
          refine ov_blk (ls2 := [(0, ov_r 0), (1, ov_i s), (2, ov_i w)]) (st2 := [ov_r 0]) (pc2 := 25) b_164_24_1 rfl rfl ?_
          refine ov_getf (v := ov_r 82) d_164_25 fl_OF_88 (zb_0 I) (zs_0 I) (congrArg ov_r e6) ?_
          refine ov_getf (v := ov_i (h 82 0)) d_164_28 fl_OF_254 (zb_82 I) (zs_82 I) rfl ?_
          refine ov_ifne (tgt := 36) d_164_31 (by decide) (by omega) (fun c10 => ?_) (fun c10 => ?_)
          · skip
            refine ov_blk (ls2 := [(0, ov_r 0), (1, ov_i s), (2, ov_i w)]) (st2 := [ov_r 0]) (pc2 := 37) b_164_36_1 rfl rfl ?_
            refine ov_getf (v := ov_r 49) d_164_37 fl_OF_64 (zb_0 I) (zs_0 I) (congrArg ov_r (rg_0_8 I)) ?_
            refine ov_blk (ls2 := [(0, ov_r 0), (1, ov_i s), (2, ov_i w)]) (st2 := [ov_r 0, ov_r 49]) (pc2 := 41) b_164_40_1 rfl rfl ?_
            rcases rg_0_10 I with e11 | e11
            · skip
              refine ov_getf (v := ov_r 58) d_164_41 fl_OF_78 (zb_0 I) (zs_0 I) (congrArg ov_r e11) ?_
              refine ov_blk (ls2 := [(0, ov_r 0), (1, ov_i s), (2, ov_i w)]) (st2 := [ov_r 0, ov_r 58, ov_r 49]) (pc2 := 45) b_164_44_1 rfl rfl ?_
              refine ov_getf (v := ov_r 82) d_164_45 fl_OF_88 (zb_0 I) (zs_0 I) (congrArg ov_r e6) ?_
              refine ov_blk (ls2 := [(0, ov_r 0), (1, ov_i s), (2, ov_i w)]) (st2 := [ov_i s, ov_r 82, ov_r 58, ov_r 49]) (pc2 := 49) b_164_48_1 rfl rfl ?_
              refine ov_cV (as := [ov_r 58, ov_r 82, ov_i s]) (st := []) (d2 := d - 1) d_164_49 lk_OF_257 rfl (Nat.le_of_ble_eq_true rfl) (c := 5) (zb_49 I) (zs_49 I) ⟨by decide, rfl⟩ (by omega) (c_Pace_solve_49_58_82 (d - 1) (by omega) U I s (by omega)) ?_
              rintro _ z14 h15 ⟨v13, rfl, I16, f12⟩
              show ov_R u d ov_m164 52 [(0, ov_r 0), (1, ov_i s), (2, ov_i w)] [ov_i v13] z14 h15 (P_OF_pace_0 z h s w)
              have f17 : (v13 = 0 ∨ v13 = 1) ∧ (h15 36 7) = (h 36 7) ∧ (h15 1 1) = (h 1 1) ∧ (h15 90 2) = (h 90 2) ∧ (h15 0 10) = (h 0 10) ∧ (h15 0 11) = (h 0 11) ∧ (h15 0 12) = (h 0 12) ∧ (h15 0 13) = (h 0 13) ∧ (h15 3 1) = (h 3 1) ∧ (h15 36 8) = (h 36 8) ∧ (h15 46 3) = (h 46 3) ∧ (h15 46 4) = (h 46 4) := f12
              clear f12
              have e18 : h15 0 10 = 58 := by omega
              have e19 : h15 0 12 = 82 := by omega
              refine ov_ifne (tgt := 57) d_164_52 (by decide) (by omega) (fun c20 => ?_) (fun c20 => ?_)
              · skip
                refine ov_blk (ls2 := [(0, ov_r 0), (1, ov_i s), (2, ov_i w)]) (st2 := [ov_i w]) (pc2 := 58) b_164_57_1 rfl rfl ?_
                refine ov_ifne (tgt := 69) d_164_58 (by decide) (by omega) (fun c21 => ?_) (fun c21 => ?_)
                · skip
                  refine ov_blk (ls2 := [(0, ov_r 0), (1, ov_i s), (2, ov_i w)]) (st2 := [ov_i 1, ov_i w]) (pc2 := 71) b_164_69_2 rfl rfl ?_
                  refine ov_icne (tgt := 84) d_164_71 (by decide) (by omega) (by omega) (fun c22 => ?_) (fun c22 => ?_)
                  · skip
                    refine ov_blk (ls2 := [(0, ov_r 0), (1, ov_i s), (2, ov_i w)]) (st2 := [ov_r 0]) (pc2 := 85) b_164_84_1 rfl rfl ?_
                    refine ov_getf (v := ov_r 49) d_164_85 fl_OF_64 (zb_0 I16) (zs_0 I16) (congrArg ov_r (rg_0_8 I16)) ?_
                    refine ov_getf (v := ov_r 50) d_164_88 fl_OF_267 (zb_49 I16) (zs_49 I16) (congrArg ov_r (rg_49_2 I16)) ?_
                    refine ov_blk (ls2 := [(0, ov_r 0), (1, ov_i s), (2, ov_i w)]) (st2 := [ov_i (w - 2), ov_r 50]) (pc2 := 94) b_164_91_3 rfl rfl ?_
                    refine ov_iald d_164_94 (zb_50 I16) (zs_50 I16) (by omega) ?_
                    have g23 := ra_50 I16 (w - 2)
                    exact ov_reti (st := []) d_164_95 rfl ⟨_, rfl, I16, (by show (h15 36 7) = (h 36 7) ∧ (h15 1 1) = (h 1 1) ∧ (h15 90 2) = (h 90 2) ∧ (h15 0 10) = (h 0 10) ∧ (h15 0 11) = (h 0 11) ∧ (h15 0 12) = (h 0 12) ∧ (h15 0 13) = (h 0 13) ∧ (h15 3 1) = (h 3 1) ∧ (h15 36 8) = (h 36 8) ∧ (h15 46 3) = (h 46 3) ∧ (h15 46 4) = (h 46 4); omega)⟩
                  · skip
                    refine ov_blk (ls2 := [(0, ov_r 0), (1, ov_i s), (2, ov_i w)]) (st2 := [ov_r 0]) (pc2 := 75) b_164_74_1 rfl rfl ?_
                    refine ov_getf (v := ov_r 49) d_164_75 fl_OF_64 (zb_0 I16) (zs_0 I16) (congrArg ov_r (rg_0_8 I16)) ?_
                    refine ov_getf (v := ov_i (h15 49 1)) d_164_78 fl_OF_264 (zb_49 I16) (zs_49 I16) rfl ?_
                    have g24 := rg_49_1 I16
                    refine ov_goto (tgt := 95) d_164_81 (by decide) ?_
                    exact ov_reti (st := []) d_164_95 rfl ⟨_, rfl, I16, (by show (h15 36 7) = (h 36 7) ∧ (h15 1 1) = (h 1 1) ∧ (h15 90 2) = (h 90 2) ∧ (h15 0 10) = (h 0 10) ∧ (h15 0 11) = (h 0 11) ∧ (h15 0 12) = (h 0 12) ∧ (h15 0 13) = (h 0 13) ∧ (h15 3 1) = (h 3 1) ∧ (h15 36 8) = (h 36 8) ∧ (h15 46 3) = (h 46 3) ∧ (h15 46 4) = (h 46 4); omega)⟩
                · skip
                  refine ov_blk (ls2 := [(0, ov_r 0), (1, ov_i s), (2, ov_i w)]) (st2 := [ov_r 0]) (pc2 := 62) b_164_61_1 rfl rfl ?_
                  refine ov_getf (v := ov_r 49) d_164_62 fl_OF_64 (zb_0 I16) (zs_0 I16) (congrArg ov_r (rg_0_8 I16)) ?_
                  refine ov_getf (v := ov_i (h15 49 0)) d_164_65 fl_OF_261 (zb_49 I16) (zs_49 I16) rfl ?_
                  have g25 := rg_49_0 I16
                  exact ov_reti (st := []) d_164_68 rfl ⟨_, rfl, I16, (by show (h15 36 7) = (h 36 7) ∧ (h15 1 1) = (h 1 1) ∧ (h15 90 2) = (h 90 2) ∧ (h15 0 10) = (h 0 10) ∧ (h15 0 11) = (h 0 11) ∧ (h15 0 12) = (h 0 12) ∧ (h15 0 13) = (h 0 13) ∧ (h15 3 1) = (h 3 1) ∧ (h15 36 8) = (h 36 8) ∧ (h15 46 3) = (h 46 3) ∧ (h15 46 4) = (h 46 4); omega)⟩
              · skip
                refine ov_blk (ls2 := [(0, ov_r 0), (1, ov_i s), (2, ov_i w)]) (st2 := [ov_i (-1)]) (pc2 := 56) b_164_55_1 rfl rfl ?_
                exact ov_reti (st := []) d_164_56 rfl ⟨_, rfl, I16, (by show (h15 36 7) = (h 36 7) ∧ (h15 1 1) = (h 1 1) ∧ (h15 90 2) = (h 90 2) ∧ (h15 0 10) = (h 0 10) ∧ (h15 0 11) = (h 0 11) ∧ (h15 0 12) = (h 0 12) ∧ (h15 0 13) = (h 0 13) ∧ (h15 3 1) = (h 3 1) ∧ (h15 36 8) = (h 36 8) ∧ (h15 46 3) = (h 46 3) ∧ (h15 46 4) = (h 46 4); omega)⟩
            · skip
              refine ov_getf (v := ov_r 70) d_164_41 fl_OF_78 (zb_0 I) (zs_0 I) (congrArg ov_r e11) ?_
              refine ov_blk (ls2 := [(0, ov_r 0), (1, ov_i s), (2, ov_i w)]) (st2 := [ov_r 0, ov_r 70, ov_r 49]) (pc2 := 45) b_164_44_1 rfl rfl ?_
              refine ov_getf (v := ov_r 82) d_164_45 fl_OF_88 (zb_0 I) (zs_0 I) (congrArg ov_r e6) ?_
              refine ov_blk (ls2 := [(0, ov_r 0), (1, ov_i s), (2, ov_i w)]) (st2 := [ov_i s, ov_r 82, ov_r 70, ov_r 49]) (pc2 := 49) b_164_48_1 rfl rfl ?_
              refine ov_cV (as := [ov_r 70, ov_r 82, ov_i s]) (st := []) (d2 := d - 1) d_164_49 lk_OF_257 rfl (Nat.le_of_ble_eq_true rfl) (c := 5) (zb_49 I) (zs_49 I) ⟨by decide, rfl⟩ (by omega) (c_Pace_solve_49_70_82 (d - 1) (by omega) U I s (by omega)) ?_
              rintro _ z28 h29 ⟨v27, rfl, I30, f26⟩
              show ov_R u d ov_m164 52 [(0, ov_r 0), (1, ov_i s), (2, ov_i w)] [ov_i v27] z28 h29 (P_OF_pace_0 z h s w)
              have f31 : (v27 = 0 ∨ v27 = 1) ∧ (h29 36 7) = (h 36 7) ∧ (h29 1 1) = (h 1 1) ∧ (h29 90 2) = (h 90 2) ∧ (h29 0 10) = (h 0 10) ∧ (h29 0 11) = (h 0 11) ∧ (h29 0 12) = (h 0 12) ∧ (h29 0 13) = (h 0 13) ∧ (h29 3 1) = (h 3 1) ∧ (h29 36 8) = (h 36 8) ∧ (h29 46 3) = (h 46 3) ∧ (h29 46 4) = (h 46 4) := f26
              clear f26
              have e32 : h29 0 10 = 70 := by omega
              have e33 : h29 0 12 = 82 := by omega
              refine ov_ifne (tgt := 57) d_164_52 (by decide) (by omega) (fun c34 => ?_) (fun c34 => ?_)
              · skip
                refine ov_blk (ls2 := [(0, ov_r 0), (1, ov_i s), (2, ov_i w)]) (st2 := [ov_i w]) (pc2 := 58) b_164_57_1 rfl rfl ?_
                refine ov_ifne (tgt := 69) d_164_58 (by decide) (by omega) (fun c35 => ?_) (fun c35 => ?_)
                · skip
                  refine ov_blk (ls2 := [(0, ov_r 0), (1, ov_i s), (2, ov_i w)]) (st2 := [ov_i 1, ov_i w]) (pc2 := 71) b_164_69_2 rfl rfl ?_
                  refine ov_icne (tgt := 84) d_164_71 (by decide) (by omega) (by omega) (fun c36 => ?_) (fun c36 => ?_)
                  · skip
                    refine ov_blk (ls2 := [(0, ov_r 0), (1, ov_i s), (2, ov_i w)]) (st2 := [ov_r 0]) (pc2 := 85) b_164_84_1 rfl rfl ?_
                    refine ov_getf (v := ov_r 49) d_164_85 fl_OF_64 (zb_0 I30) (zs_0 I30) (congrArg ov_r (rg_0_8 I30)) ?_
                    refine ov_getf (v := ov_r 50) d_164_88 fl_OF_267 (zb_49 I30) (zs_49 I30) (congrArg ov_r (rg_49_2 I30)) ?_
                    refine ov_blk (ls2 := [(0, ov_r 0), (1, ov_i s), (2, ov_i w)]) (st2 := [ov_i (w - 2), ov_r 50]) (pc2 := 94) b_164_91_3 rfl rfl ?_
                    refine ov_iald d_164_94 (zb_50 I30) (zs_50 I30) (by omega) ?_
                    have g37 := ra_50 I30 (w - 2)
                    exact ov_reti (st := []) d_164_95 rfl ⟨_, rfl, I30, (by show (h29 36 7) = (h 36 7) ∧ (h29 1 1) = (h 1 1) ∧ (h29 90 2) = (h 90 2) ∧ (h29 0 10) = (h 0 10) ∧ (h29 0 11) = (h 0 11) ∧ (h29 0 12) = (h 0 12) ∧ (h29 0 13) = (h 0 13) ∧ (h29 3 1) = (h 3 1) ∧ (h29 36 8) = (h 36 8) ∧ (h29 46 3) = (h 46 3) ∧ (h29 46 4) = (h 46 4); omega)⟩
                  · skip
                    refine ov_blk (ls2 := [(0, ov_r 0), (1, ov_i s), (2, ov_i w)]) (st2 := [ov_r 0]) (pc2 := 75) b_164_74_1 rfl rfl ?_
                    refine ov_getf (v := ov_r 49) d_164_75 fl_OF_64 (zb_0 I30) (zs_0 I30) (congrArg ov_r (rg_0_8 I30)) ?_
                    refine ov_getf (v := ov_i (h29 49 1)) d_164_78 fl_OF_264 (zb_49 I30) (zs_49 I30) rfl ?_
                    have g38 := rg_49_1 I30
                    refine ov_goto (tgt := 95) d_164_81 (by decide) ?_
                    exact ov_reti (st := []) d_164_95 rfl ⟨_, rfl, I30, (by show (h29 36 7) = (h 36 7) ∧ (h29 1 1) = (h 1 1) ∧ (h29 90 2) = (h 90 2) ∧ (h29 0 10) = (h 0 10) ∧ (h29 0 11) = (h 0 11) ∧ (h29 0 12) = (h 0 12) ∧ (h29 0 13) = (h 0 13) ∧ (h29 3 1) = (h 3 1) ∧ (h29 36 8) = (h 36 8) ∧ (h29 46 3) = (h 46 3) ∧ (h29 46 4) = (h 46 4); omega)⟩
                · skip
                  refine ov_blk (ls2 := [(0, ov_r 0), (1, ov_i s), (2, ov_i w)]) (st2 := [ov_r 0]) (pc2 := 62) b_164_61_1 rfl rfl ?_
                  refine ov_getf (v := ov_r 49) d_164_62 fl_OF_64 (zb_0 I30) (zs_0 I30) (congrArg ov_r (rg_0_8 I30)) ?_
                  refine ov_getf (v := ov_i (h29 49 0)) d_164_65 fl_OF_261 (zb_49 I30) (zs_49 I30) rfl ?_
                  have g39 := rg_49_0 I30
                  exact ov_reti (st := []) d_164_68 rfl ⟨_, rfl, I30, (by show (h29 36 7) = (h 36 7) ∧ (h29 1 1) = (h 1 1) ∧ (h29 90 2) = (h 90 2) ∧ (h29 0 10) = (h 0 10) ∧ (h29 0 11) = (h 0 11) ∧ (h29 0 12) = (h 0 12) ∧ (h29 0 13) = (h 0 13) ∧ (h29 3 1) = (h 3 1) ∧ (h29 36 8) = (h 36 8) ∧ (h29 46 3) = (h 46 3) ∧ (h29 46 4) = (h 46 4); omega)⟩
              · skip
                refine ov_blk (ls2 := [(0, ov_r 0), (1, ov_i s), (2, ov_i w)]) (st2 := [ov_i (-1)]) (pc2 := 56) b_164_55_1 rfl rfl ?_
                exact ov_reti (st := []) d_164_56 rfl ⟨_, rfl, I30, (by show (h29 36 7) = (h 36 7) ∧ (h29 1 1) = (h 1 1) ∧ (h29 90 2) = (h 90 2) ∧ (h29 0 10) = (h 0 10) ∧ (h29 0 11) = (h 0 11) ∧ (h29 0 12) = (h 0 12) ∧ (h29 0 13) = (h 0 13) ∧ (h29 3 1) = (h 3 1) ∧ (h29 36 8) = (h 36 8) ∧ (h29 46 3) = (h 46 3) ∧ (h29 46 4) = (h 46 4); omega)⟩
          · skip
            refine ov_blk (ls2 := [(0, ov_r 0), (1, ov_i s), (2, ov_i w)]) (st2 := [ov_i (-1)]) (pc2 := 35) b_164_34_1 rfl rfl ?_
            exact ov_reti (st := []) d_164_35 rfl ⟨_, rfl, I, (by show (h 36 7) = (h 36 7) ∧ (h 1 1) = (h 1 1) ∧ (h 90 2) = (h 90 2) ∧ (h 0 10) = (h 0 10) ∧ (h 0 11) = (h 0 11) ∧ (h 0 12) = (h 0 12) ∧ (h 0 13) = (h 0 13) ∧ (h 3 1) = (h 3 1) ∧ (h 36 8) = (h 36 8) ∧ (h 46 3) = (h 46 3) ∧ (h 46 4) = (h 46 4); omega)⟩
      · skip
        refine ov_getf (v := ov_r 86) d_164_14 fl_OF_88 (zb_0 I) (zs_0 I) (congrArg ov_r e6) ?_
        refine ov_getf (v := ov_i (h 86 0)) d_164_17 fl_OF_254 (zb_86 I) (zs_86 I) rfl ?_
        have g40 := rg_86_0 I
        refine ov_blk (ls2 := [(0, ov_r 0), (1, ov_i s), (2, ov_i w)]) (st2 := [ov_i (2 + (h 86 0)), ov_i w]) (pc2 := 21) b_164_20_1 rfl rfl ?_
        refine ov_icge (tgt := 34) d_164_21 (by decide) (by omega) (by omega) (fun c41 => ?_) (fun c41 => ?_)
        · skip
          refine ov_blk (ls2 := [(0, ov_r 0), (1, ov_i s), (2, ov_i w)]) (st2 := [ov_i (-1)]) (pc2 := 35) b_164_34_1 rfl rfl ?_
          exact ov_reti (st := []) d_164_35 rfl ⟨_, rfl, I, (by show (h 36 7) = (h 36 7) ∧ (h 1 1) = (h 1 1) ∧ (h 90 2) = (h 90 2) ∧ (h 0 10) = (h 0 10) ∧ (h 0 11) = (h 0 11) ∧ (h 0 12) = (h 0 12) ∧ (h 0 13) = (h 0 13) ∧ (h 3 1) = (h 3 1) ∧ (h 36 8) = (h 36 8) ∧ (h 46 3) = (h 46 3) ∧ (h 46 4) = (h 46 4); omega)⟩
        · skip
          refine ov_blk (ls2 := [(0, ov_r 0), (1, ov_i s), (2, ov_i w)]) (st2 := [ov_r 0]) (pc2 := 25) b_164_24_1 rfl rfl ?_
          refine ov_getf (v := ov_r 86) d_164_25 fl_OF_88 (zb_0 I) (zs_0 I) (congrArg ov_r e6) ?_
          refine ov_getf (v := ov_i (h 86 0)) d_164_28 fl_OF_254 (zb_86 I) (zs_86 I) rfl ?_
          refine ov_ifne (tgt := 36) d_164_31 (by decide) (by omega) (fun c43 => ?_) (fun c43 => ?_)
          · skip
            refine ov_blk (ls2 := [(0, ov_r 0), (1, ov_i s), (2, ov_i w)]) (st2 := [ov_r 0]) (pc2 := 37) b_164_36_1 rfl rfl ?_
            refine ov_getf (v := ov_r 49) d_164_37 fl_OF_64 (zb_0 I) (zs_0 I) (congrArg ov_r (rg_0_8 I)) ?_
            refine ov_blk (ls2 := [(0, ov_r 0), (1, ov_i s), (2, ov_i w)]) (st2 := [ov_r 0, ov_r 49]) (pc2 := 41) b_164_40_1 rfl rfl ?_
            rcases rg_0_10 I with e44 | e44
            · skip
              refine ov_getf (v := ov_r 58) d_164_41 fl_OF_78 (zb_0 I) (zs_0 I) (congrArg ov_r e44) ?_
              refine ov_blk (ls2 := [(0, ov_r 0), (1, ov_i s), (2, ov_i w)]) (st2 := [ov_r 0, ov_r 58, ov_r 49]) (pc2 := 45) b_164_44_1 rfl rfl ?_
              refine ov_getf (v := ov_r 86) d_164_45 fl_OF_88 (zb_0 I) (zs_0 I) (congrArg ov_r e6) ?_
              refine ov_blk (ls2 := [(0, ov_r 0), (1, ov_i s), (2, ov_i w)]) (st2 := [ov_i s, ov_r 86, ov_r 58, ov_r 49]) (pc2 := 49) b_164_48_1 rfl rfl ?_
              refine ov_cV (as := [ov_r 58, ov_r 86, ov_i s]) (st := []) (d2 := d - 1) d_164_49 lk_OF_257 rfl (Nat.le_of_ble_eq_true rfl) (c := 5) (zb_49 I) (zs_49 I) ⟨by decide, rfl⟩ (by omega) (c_Pace_solve_49_58_86 (d - 1) (by omega) U I s (by omega)) ?_
              rintro _ z47 h48 ⟨v46, rfl, I49, f45⟩
              show ov_R u d ov_m164 52 [(0, ov_r 0), (1, ov_i s), (2, ov_i w)] [ov_i v46] z47 h48 (P_OF_pace_0 z h s w)
              have f50 : (v46 = 0 ∨ v46 = 1) ∧ (h48 36 7) = (h 36 7) ∧ (h48 1 1) = (h 1 1) ∧ (h48 90 2) = (h 90 2) ∧ (h48 0 10) = (h 0 10) ∧ (h48 0 11) = (h 0 11) ∧ (h48 0 12) = (h 0 12) ∧ (h48 0 13) = (h 0 13) ∧ (h48 3 1) = (h 3 1) ∧ (h48 36 8) = (h 36 8) ∧ (h48 46 3) = (h 46 3) ∧ (h48 46 4) = (h 46 4) := f45
              clear f45
              have e51 : h48 0 10 = 58 := by omega
              have e52 : h48 0 12 = 86 := by omega
              refine ov_ifne (tgt := 57) d_164_52 (by decide) (by omega) (fun c53 => ?_) (fun c53 => ?_)
              · skip
                refine ov_blk (ls2 := [(0, ov_r 0), (1, ov_i s), (2, ov_i w)]) (st2 := [ov_i w]) (pc2 := 58) b_164_57_1 rfl rfl ?_
                refine ov_ifne (tgt := 69) d_164_58 (by decide) (by omega) (fun c54 => ?_) (fun c54 => ?_)
                · skip
                  refine ov_blk (ls2 := [(0, ov_r 0), (1, ov_i s), (2, ov_i w)]) (st2 := [ov_i 1, ov_i w]) (pc2 := 71) b_164_69_2 rfl rfl ?_
                  refine ov_icne (tgt := 84) d_164_71 (by decide) (by omega) (by omega) (fun c55 => ?_) (fun c55 => ?_)
                  · skip
                    refine ov_blk (ls2 := [(0, ov_r 0), (1, ov_i s), (2, ov_i w)]) (st2 := [ov_r 0]) (pc2 := 85) b_164_84_1 rfl rfl ?_
                    refine ov_getf (v := ov_r 49) d_164_85 fl_OF_64 (zb_0 I49) (zs_0 I49) (congrArg ov_r (rg_0_8 I49)) ?_
                    refine ov_getf (v := ov_r 50) d_164_88 fl_OF_267 (zb_49 I49) (zs_49 I49) (congrArg ov_r (rg_49_2 I49)) ?_
                    refine ov_blk (ls2 := [(0, ov_r 0), (1, ov_i s), (2, ov_i w)]) (st2 := [ov_i (w - 2), ov_r 50]) (pc2 := 94) b_164_91_3 rfl rfl ?_
                    refine ov_iald d_164_94 (zb_50 I49) (zs_50 I49) (by omega) ?_
                    have g56 := ra_50 I49 (w - 2)
                    exact ov_reti (st := []) d_164_95 rfl ⟨_, rfl, I49, (by show (h48 36 7) = (h 36 7) ∧ (h48 1 1) = (h 1 1) ∧ (h48 90 2) = (h 90 2) ∧ (h48 0 10) = (h 0 10) ∧ (h48 0 11) = (h 0 11) ∧ (h48 0 12) = (h 0 12) ∧ (h48 0 13) = (h 0 13) ∧ (h48 3 1) = (h 3 1) ∧ (h48 36 8) = (h 36 8) ∧ (h48 46 3) = (h 46 3) ∧ (h48 46 4) = (h 46 4); omega)⟩
                  · skip
                    refine ov_blk (ls2 := [(0, ov_r 0), (1, ov_i s), (2, ov_i w)]) (st2 := [ov_r 0]) (pc2 := 75) b_164_74_1 rfl rfl ?_
                    refine ov_getf (v := ov_r 49) d_164_75 fl_OF_64 (zb_0 I49) (zs_0 I49) (congrArg ov_r (rg_0_8 I49)) ?_
                    refine ov_getf (v := ov_i (h48 49 1)) d_164_78 fl_OF_264 (zb_49 I49) (zs_49 I49) rfl ?_
                    have g57 := rg_49_1 I49
                    refine ov_goto (tgt := 95) d_164_81 (by decide) ?_
                    exact ov_reti (st := []) d_164_95 rfl ⟨_, rfl, I49, (by show (h48 36 7) = (h 36 7) ∧ (h48 1 1) = (h 1 1) ∧ (h48 90 2) = (h 90 2) ∧ (h48 0 10) = (h 0 10) ∧ (h48 0 11) = (h 0 11) ∧ (h48 0 12) = (h 0 12) ∧ (h48 0 13) = (h 0 13) ∧ (h48 3 1) = (h 3 1) ∧ (h48 36 8) = (h 36 8) ∧ (h48 46 3) = (h 46 3) ∧ (h48 46 4) = (h 46 4); omega)⟩
                · skip
                  refine ov_blk (ls2 := [(0, ov_r 0), (1, ov_i s), (2, ov_i w)]) (st2 := [ov_r 0]) (pc2 := 62) b_164_61_1 rfl rfl ?_
                  refine ov_getf (v := ov_r 49) d_164_62 fl_OF_64 (zb_0 I49) (zs_0 I49) (congrArg ov_r (rg_0_8 I49)) ?_
                  refine ov_getf (v := ov_i (h48 49 0)) d_164_65 fl_OF_261 (zb_49 I49) (zs_49 I49) rfl ?_
                  have g58 := rg_49_0 I49
                  exact ov_reti (st := []) d_164_68 rfl ⟨_, rfl, I49, (by show (h48 36 7) = (h 36 7) ∧ (h48 1 1) = (h 1 1) ∧ (h48 90 2) = (h 90 2) ∧ (h48 0 10) = (h 0 10) ∧ (h48 0 11) = (h 0 11) ∧ (h48 0 12) = (h 0 12) ∧ (h48 0 13) = (h 0 13) ∧ (h48 3 1) = (h 3 1) ∧ (h48 36 8) = (h 36 8) ∧ (h48 46 3) = (h 46 3) ∧ (h48 46 4) = (h 46 4); omega)⟩
              · skip
                refine ov_blk (ls2 := [(0, ov_r 0), (1, ov_i s), (2, ov_i w)]) (st2 := [ov_i (-1)]) (pc2 := 56) b_164_55_1 rfl rfl ?_
                exact ov_reti (st := []) d_164_56 rfl ⟨_, rfl, I49, (by show (h48 36 7) = (h 36 7) ∧ (h48 1 1) = (h 1 1) ∧ (h48 90 2) = (h 90 2) ∧ (h48 0 10) = (h 0 10) ∧ (h48 0 11) = (h 0 11) ∧ (h48 0 12) = (h 0 12) ∧ (h48 0 13) = (h 0 13) ∧ (h48 3 1) = (h 3 1) ∧ (h48 36 8) = (h 36 8) ∧ (h48 46 3) = (h 46 3) ∧ (h48 46 4) = (h 46 4); omega)⟩
            · skip
              refine ov_getf (v := ov_r 70) d_164_41 fl_OF_78 (zb_0 I) (zs_0 I) (congrArg ov_r e44) ?_
              refine ov_blk (ls2 := [(0, ov_r 0), (1, ov_i s), (2, ov_i w)]) (st2 := [ov_r 0, ov_r 70, ov_r 49]) (pc2 := 45) b_164_44_1 rfl rfl ?_
              refine ov_getf (v := ov_r 86) d_164_45 fl_OF_88 (zb_0 I) (zs_0 I) (congrArg ov_r e6) ?_
              refine ov_blk (ls2 := [(0, ov_r 0), (1, ov_i s), (2, ov_i w)]) (st2 := [ov_i s, ov_r 86, ov_r 70, ov_r 49]) (pc2 := 49) b_164_48_1 rfl rfl ?_
              refine ov_cV (as := [ov_r 70, ov_r 86, ov_i s]) (st := []) (d2 := d - 1) d_164_49 lk_OF_257 rfl (Nat.le_of_ble_eq_true rfl) (c := 5) (zb_49 I) (zs_49 I) ⟨by decide, rfl⟩ (by omega) (c_Pace_solve_49_70_86 (d - 1) (by omega) U I s (by omega)) ?_
              rintro _ z61 h62 ⟨v60, rfl, I63, f59⟩
              show ov_R u d ov_m164 52 [(0, ov_r 0), (1, ov_i s), (2, ov_i w)] [ov_i v60] z61 h62 (P_OF_pace_0 z h s w)
              have f64 : (v60 = 0 ∨ v60 = 1) ∧ (h62 36 7) = (h 36 7) ∧ (h62 1 1) = (h 1 1) ∧ (h62 90 2) = (h 90 2) ∧ (h62 0 10) = (h 0 10) ∧ (h62 0 11) = (h 0 11) ∧ (h62 0 12) = (h 0 12) ∧ (h62 0 13) = (h 0 13) ∧ (h62 3 1) = (h 3 1) ∧ (h62 36 8) = (h 36 8) ∧ (h62 46 3) = (h 46 3) ∧ (h62 46 4) = (h 46 4) := f59
              clear f59
              have e65 : h62 0 10 = 70 := by omega
              have e66 : h62 0 12 = 86 := by omega
              refine ov_ifne (tgt := 57) d_164_52 (by decide) (by omega) (fun c67 => ?_) (fun c67 => ?_)
              · skip
                refine ov_blk (ls2 := [(0, ov_r 0), (1, ov_i s), (2, ov_i w)]) (st2 := [ov_i w]) (pc2 := 58) b_164_57_1 rfl rfl ?_
                refine ov_ifne (tgt := 69) d_164_58 (by decide) (by omega) (fun c68 => ?_) (fun c68 => ?_)
                · skip
                  refine ov_blk (ls2 := [(0, ov_r 0), (1, ov_i s), (2, ov_i w)]) (st2 := [ov_i 1, ov_i w]) (pc2 := 71) b_164_69_2 rfl rfl ?_
                  refine ov_icne (tgt := 84) d_164_71 (by decide) (by omega) (by omega) (fun c69 => ?_) (fun c69 => ?_)
                  · skip
                    refine ov_blk (ls2 := [(0, ov_r 0), (1, ov_i s), (2, ov_i w)]) (st2 := [ov_r 0]) (pc2 := 85) b_164_84_1 rfl rfl ?_
                    refine ov_getf (v := ov_r 49) d_164_85 fl_OF_64 (zb_0 I63) (zs_0 I63) (congrArg ov_r (rg_0_8 I63)) ?_
                    refine ov_getf (v := ov_r 50) d_164_88 fl_OF_267 (zb_49 I63) (zs_49 I63) (congrArg ov_r (rg_49_2 I63)) ?_
                    refine ov_blk (ls2 := [(0, ov_r 0), (1, ov_i s), (2, ov_i w)]) (st2 := [ov_i (w - 2), ov_r 50]) (pc2 := 94) b_164_91_3 rfl rfl ?_
                    refine ov_iald d_164_94 (zb_50 I63) (zs_50 I63) (by omega) ?_
                    have g70 := ra_50 I63 (w - 2)
                    exact ov_reti (st := []) d_164_95 rfl ⟨_, rfl, I63, (by show (h62 36 7) = (h 36 7) ∧ (h62 1 1) = (h 1 1) ∧ (h62 90 2) = (h 90 2) ∧ (h62 0 10) = (h 0 10) ∧ (h62 0 11) = (h 0 11) ∧ (h62 0 12) = (h 0 12) ∧ (h62 0 13) = (h 0 13) ∧ (h62 3 1) = (h 3 1) ∧ (h62 36 8) = (h 36 8) ∧ (h62 46 3) = (h 46 3) ∧ (h62 46 4) = (h 46 4); omega)⟩
                  · skip
                    refine ov_blk (ls2 := [(0, ov_r 0), (1, ov_i s), (2, ov_i w)]) (st2 := [ov_r 0]) (pc2 := 75) b_164_74_1 rfl rfl ?_
                    refine ov_getf (v := ov_r 49) d_164_75 fl_OF_64 (zb_0 I63) (zs_0 I63) (congrArg ov_r (rg_0_8 I63)) ?_
                    refine ov_getf (v := ov_i (h62 49 1)) d_164_78 fl_OF_264 (zb_49 I63) (zs_49 I63) rfl ?_
                    have g71 := rg_49_1 I63
                    refine ov_goto (tgt := 95) d_164_81 (by decide) ?_
                    exact ov_reti (st := []) d_164_95 rfl ⟨_, rfl, I63, (by show (h62 36 7) = (h 36 7) ∧ (h62 1 1) = (h 1 1) ∧ (h62 90 2) = (h 90 2) ∧ (h62 0 10) = (h 0 10) ∧ (h62 0 11) = (h 0 11) ∧ (h62 0 12) = (h 0 12) ∧ (h62 0 13) = (h 0 13) ∧ (h62 3 1) = (h 3 1) ∧ (h62 36 8) = (h 36 8) ∧ (h62 46 3) = (h 46 3) ∧ (h62 46 4) = (h 46 4); omega)⟩
                · skip
                  refine ov_blk (ls2 := [(0, ov_r 0), (1, ov_i s), (2, ov_i w)]) (st2 := [ov_r 0]) (pc2 := 62) b_164_61_1 rfl rfl ?_
                  refine ov_getf (v := ov_r 49) d_164_62 fl_OF_64 (zb_0 I63) (zs_0 I63) (congrArg ov_r (rg_0_8 I63)) ?_
                  refine ov_getf (v := ov_i (h62 49 0)) d_164_65 fl_OF_261 (zb_49 I63) (zs_49 I63) rfl ?_
                  have g72 := rg_49_0 I63
                  exact ov_reti (st := []) d_164_68 rfl ⟨_, rfl, I63, (by show (h62 36 7) = (h 36 7) ∧ (h62 1 1) = (h 1 1) ∧ (h62 90 2) = (h 90 2) ∧ (h62 0 10) = (h 0 10) ∧ (h62 0 11) = (h 0 11) ∧ (h62 0 12) = (h 0 12) ∧ (h62 0 13) = (h 0 13) ∧ (h62 3 1) = (h 3 1) ∧ (h62 36 8) = (h 36 8) ∧ (h62 46 3) = (h 46 3) ∧ (h62 46 4) = (h 46 4); omega)⟩
              · skip
                refine ov_blk (ls2 := [(0, ov_r 0), (1, ov_i s), (2, ov_i w)]) (st2 := [ov_i (-1)]) (pc2 := 56) b_164_55_1 rfl rfl ?_
                exact ov_reti (st := []) d_164_56 rfl ⟨_, rfl, I63, (by show (h62 36 7) = (h 36 7) ∧ (h62 1 1) = (h 1 1) ∧ (h62 90 2) = (h 90 2) ∧ (h62 0 10) = (h 0 10) ∧ (h62 0 11) = (h 0 11) ∧ (h62 0 12) = (h 0 12) ∧ (h62 0 13) = (h 0 13) ∧ (h62 3 1) = (h 3 1) ∧ (h62 36 8) = (h 36 8) ∧ (h62 46 3) = (h 46 3) ∧ (h62 46 4) = (h 46 4); omega)⟩
          · skip
            refine ov_blk (ls2 := [(0, ov_r 0), (1, ov_i s), (2, ov_i w)]) (st2 := [ov_i (-1)]) (pc2 := 35) b_164_34_1 rfl rfl ?_
            exact ov_reti (st := []) d_164_35 rfl ⟨_, rfl, I, (by show (h 36 7) = (h 36 7) ∧ (h 1 1) = (h 1 1) ∧ (h 90 2) = (h 90 2) ∧ (h 0 10) = (h 0 10) ∧ (h 0 11) = (h 0 11) ∧ (h 0 12) = (h 0 12) ∧ (h 0 13) = (h 0 13) ∧ (h 3 1) = (h 3 1) ∧ (h 36 8) = (h 36 8) ∧ (h 46 3) = (h 46 3) ∧ (h 46 4) = (h 46 4); omega)⟩
abbrev P_OF_tried_0 (z : ov_Z) (h : ov_H) (x : Int) (y : Int) (p : Int) (w : Int) : Option ov_V → ov_Z → ov_H → Prop := fun r0 z' h' => ∃ r : Int, r0 = some (ov_i r) ∧ ov_I z' h' ∧ ((r = 0 ∨ r = 1) ∧ h' 36 7 = h 36 7 ∧ h' 1 1 = h 1 1 ∧ h' 90 2 = h 90 2 ∧ h' 0 10 = h 0 10 ∧ h' 0 11 = h 0 11 ∧ h' 0 12 = h 0 12 ∧ h' 0 13 = h 0 13 ∧ h' 3 1 = h 3 1 ∧ h' 36 8 = h 36 8 ∧ h' 46 3 = h 46 3 ∧ h' 46 4 = h 46 4 ∧ h' 49 4 = h 49 4 ∧ h' 49 5 = h 49 5)
set_option maxHeartbeats 4000000 in
theorem c_OF_tried_0 {u : ov_U} {z : ov_Z} {h : ov_H} (d : Nat) (hd : 1 ≤ d) (U : ov_cap u) (I : ov_I z h) (x : Int) (y : Int) (p : Int) (w : Int) (g_x : ov_g x) (g_y : ov_g y) (g_p : p = 0 ∨ p = 1) (g_w : ov_g w) : ov_T u d ov_m172 [ov_r 0, ov_i x, ov_i y, ov_i p, ov_i w] z h (P_OF_tried_0 z h x y p w) := by
  refine ov_en rfl (Nat.le_of_ble_eq_true rfl) ?_
  show ov_R u d ov_m172 0 [(0, ov_r 0), (1, ov_i x), (2, ov_i y), (3, ov_i p), (4, ov_i w)] [] z h (P_OF_tried_0 z h x y p w)
  refine ov_blk (ls2 := [(0, ov_r 0), (1, ov_i x), (2, ov_i y), (3, ov_i p), (4, ov_i w)]) (st2 := [ov_r 0]) (pc2 := 1) b_172_0_1 rfl rfl ?_
  rcases rg_0_10 I with e1 | e1
  · skip
    refine ov_getf (v := ov_r 58) d_172_1 fl_OF_78 (zb_0 I) (zs_0 I) (congrArg ov_r e1) ?_
    refine ov_blk (ls2 := [(0, ov_r 0), (1, ov_i x), (2, ov_i y), (3, ov_i p), (4, ov_i w)]) (st2 := [ov_i y, ov_i x, ov_r 58]) (pc2 := 6) b_172_4_2 rfl rfl ?_
    refine ov_cV (as := [ov_i x, ov_i y]) (st := []) (d2 := d - 1) d_172_6 lk_OF_131 rfl (Nat.le_of_ble_eq_true rfl) (c := 9) (zb_58 I) (zs_58 I) ⟨by decide, rfl⟩ (by omega) (c_Town_corner_58 (d - 1) (by omega) U I x y (by omega) (by omega)) ?_
    rintro _ _ _ ⟨v3, rfl, rfl, rfl, f2⟩
    show ov_R u d ov_m172 9 [(0, ov_r 0), (1, ov_i x), (2, ov_i y), (3, ov_i p), (4, ov_i w)] [ov_i v3] z h (P_OF_tried_0 z h x y p w)
    have f4 : v3 = -1 ∨ (0 ≤ x ∧ x < (h 58 0) ∧ 0 ≤ y ∧ y < (h 58 1) ∧ v3 = y * 6 + x ∧ (h 58 0) ≤ 6 ∧ (h 58 1) ≤ 9) := f2
    clear f2
    refine ov_blk (ls2 := [(0, ov_r 0), (1, ov_i x), (2, ov_i y), (3, ov_i p), (4, ov_i w), (5, ov_i v3)]) (st2 := [ov_i (-1), ov_i v3]) (pc2 := 14) b_172_9_3 rfl rfl ?_
    refine ov_iceq (tgt := 43) d_172_14 (by decide) (by omega) (by omega) (fun c5 => ?_) (fun c5 => ?_)
    · skip
      refine ov_blk (ls2 := [(0, ov_r 0), (1, ov_i x), (2, ov_i y), (3, ov_i p), (4, ov_i w), (5, ov_i v3)]) (st2 := [ov_i 0]) (pc2 := 44) b_172_43_1 rfl rfl ?_
      exact ov_retz (st := []) d_172_44 rfl (by omega) ⟨_, rfl, I, (by show (0 = 0 ∨ 0 = 1) ∧ (h 36 7) = (h 36 7) ∧ (h 1 1) = (h 1 1) ∧ (h 90 2) = (h 90 2) ∧ (h 0 10) = (h 0 10) ∧ (h 0 11) = (h 0 11) ∧ (h 0 12) = (h 0 12) ∧ (h 0 13) = (h 0 13) ∧ (h 3 1) = (h 3 1) ∧ (h 36 8) = (h 36 8) ∧ (h 46 3) = (h 46 3) ∧ (h 46 4) = (h 46 4) ∧ (h 49 4) = (h 49 4) ∧ (h 49 5) = (h 49 5); omega)⟩
    · skip
      refine ov_blk (ls2 := [(0, ov_r 0), (1, ov_i x), (2, ov_i y), (3, ov_i p), (4, ov_i w), (5, ov_i v3)]) (st2 := [ov_r 0]) (pc2 := 18) b_172_17_1 rfl rfl ?_
      refine ov_getf (v := ov_r 58) d_172_18 fl_OF_78 (zb_0 I) (zs_0 I) (congrArg ov_r e1) ?_
      refine ov_getf (v := ov_r 59) d_172_21 fl_OF_139 (zb_58 I) (zs_58 I) (congrArg ov_r (rg_58_2 I)) ?_
      refine ov_blk (ls2 := [(0, ov_r 0), (1, ov_i x), (2, ov_i y), (3, ov_i p), (4, ov_i w), (5, ov_i v3)]) (st2 := [ov_i v3, ov_r 59]) (pc2 := 26) b_172_24_1 rfl rfl ?_
      refine ov_iald d_172_26 (zb_59 I) (zs_59 I) (by omega) ?_
      have g6 := ra_59 I v3
      refine ov_blk (ls2 := [(0, ov_r 0), (1, ov_i x), (2, ov_i y), (3, ov_i p), (4, ov_i w), (5, ov_i v3)]) (st2 := [ov_i 2, ov_i (h 59 v3)]) (pc2 := 28) b_172_27_1 rfl rfl ?_
      refine ov_icne (tgt := 43) d_172_28 (by decide) (by omega) (by omega) (fun c7 => ?_) (fun c7 => ?_)
      · skip
        refine ov_blk (ls2 := [(0, ov_r 0), (1, ov_i x), (2, ov_i y), (3, ov_i p), (4, ov_i w), (5, ov_i v3)]) (st2 := [ov_i 0]) (pc2 := 44) b_172_43_1 rfl rfl ?_
        exact ov_retz (st := []) d_172_44 rfl (by omega) ⟨_, rfl, I, (by show (0 = 0 ∨ 0 = 1) ∧ (h 36 7) = (h 36 7) ∧ (h 1 1) = (h 1 1) ∧ (h 90 2) = (h 90 2) ∧ (h 0 10) = (h 0 10) ∧ (h 0 11) = (h 0 11) ∧ (h 0 12) = (h 0 12) ∧ (h 0 13) = (h 0 13) ∧ (h 3 1) = (h 3 1) ∧ (h 36 8) = (h 36 8) ∧ (h 46 3) = (h 46 3) ∧ (h 46 4) = (h 46 4) ∧ (h 49 4) = (h 49 4) ∧ (h 49 5) = (h 49 5); omega)⟩
      · skip
        refine ov_blk (ls2 := [(0, ov_r 0), (1, ov_i x), (2, ov_i y), (3, ov_i p), (4, ov_i w), (5, ov_i v3)]) (st2 := [ov_i w]) (pc2 := 33) b_172_31_1 rfl rfl ?_
        refine ov_iflt (tgt := 43) d_172_33 (by decide) (by omega) (fun c8 => ?_) (fun c8 => ?_)
        · skip
          refine ov_blk (ls2 := [(0, ov_r 0), (1, ov_i x), (2, ov_i y), (3, ov_i p), (4, ov_i w), (5, ov_i v3)]) (st2 := [ov_i 0]) (pc2 := 44) b_172_43_1 rfl rfl ?_
          exact ov_retz (st := []) d_172_44 rfl (by omega) ⟨_, rfl, I, (by show (0 = 0 ∨ 0 = 1) ∧ (h 36 7) = (h 36 7) ∧ (h 1 1) = (h 1 1) ∧ (h 90 2) = (h 90 2) ∧ (h 0 10) = (h 0 10) ∧ (h 0 11) = (h 0 11) ∧ (h 0 12) = (h 0 12) ∧ (h 0 13) = (h 0 13) ∧ (h 3 1) = (h 3 1) ∧ (h 36 8) = (h 36 8) ∧ (h 46 3) = (h 46 3) ∧ (h 46 4) = (h 46 4) ∧ (h 49 4) = (h 49 4) ∧ (h 49 5) = (h 49 5); omega)⟩
        · skip
          refine ov_blk (ls2 := [(0, ov_r 0), (1, ov_i x), (2, ov_i y), (3, ov_i p), (4, ov_i w), (5, ov_i v3)]) (st2 := [ov_i 59, ov_i w]) (pc2 := 40) b_172_36_2 rfl rfl ?_
          refine ov_icle (tgt := 45) d_172_40 (by decide) (by omega) (by omega) (fun c9 => ?_) (fun c9 => ?_)
          · skip
            refine ov_blk (ls2 := [(0, ov_r 0), (1, ov_i x), (2, ov_i y), (3, ov_i p), (4, ov_i w), (5, ov_i v3)]) (st2 := [ov_r 0]) (pc2 := 46) b_172_45_1 rfl rfl ?_
            refine ov_getf (v := ov_r 4) d_172_46 fl_OF_28 (zb_0 I) (zs_0 I) (congrArg ov_r (rg_0_2 I)) ?_
            refine ov_blk (ls2 := [(0, ov_r 0), (1, ov_i x), (2, ov_i y), (3, ov_i p), (4, ov_i w), (5, ov_i v3)]) (st2 := [ov_i w, ov_i p, ov_i v3, ov_r 4]) (pc2 := 54) b_172_49_3 rfl rfl ?_
            refine ov_cV (as := [ov_i v3, ov_i p, ov_i w]) (st := []) (d2 := d - 1) d_172_54 lk_OF_270 rfl (Nat.le_of_ble_eq_true rfl) (c := 7) (zb_4 I) (zs_4 I) ⟨by decide, rfl⟩ (by omega) (c_State_addTry_4 (d - 1) (by omega) U I v3 p w (by omega) (by omega) (by omega)) ?_
            rintro _ z12 h13 ⟨v11, rfl, I14, f10⟩
            show ov_R u d ov_m172 57 [(0, ov_r 0), (1, ov_i x), (2, ov_i y), (3, ov_i p), (4, ov_i w), (5, ov_i v3)] [ov_i v11] z12 h13 (P_OF_tried_0 z h x y p w)
            have f15 : (v11 = 0 ∨ v11 = 1) ∧ (h13 36 7) = (h 36 7) ∧ (h13 1 1) = (h 1 1) ∧ (h13 90 2) = (h 90 2) ∧ (h13 0 10) = (h 0 10) ∧ (h13 0 11) = (h 0 11) ∧ (h13 0 12) = (h 0 12) ∧ (h13 0 13) = (h 0 13) ∧ (h13 3 1) = (h 3 1) ∧ (h13 36 8) = (h 36 8) ∧ (h13 46 3) = (h 46 3) ∧ (h13 46 4) = (h 46 4) ∧ (h13 49 4) = (h 49 4) ∧ (h13 49 5) = (h 49 5) := f10
            clear f10
            have e16 : h13 0 10 = 58 := by omega
            exact ov_retz (st := []) d_172_57 rfl (by omega) ⟨_, rfl, I14, (by show (v11 = 0 ∨ v11 = 1) ∧ (h13 36 7) = (h 36 7) ∧ (h13 1 1) = (h 1 1) ∧ (h13 90 2) = (h 90 2) ∧ (h13 0 10) = (h 0 10) ∧ (h13 0 11) = (h 0 11) ∧ (h13 0 12) = (h 0 12) ∧ (h13 0 13) = (h 0 13) ∧ (h13 3 1) = (h 3 1) ∧ (h13 36 8) = (h 36 8) ∧ (h13 46 3) = (h 46 3) ∧ (h13 46 4) = (h 46 4) ∧ (h13 49 4) = (h 49 4) ∧ (h13 49 5) = (h 49 5); omega)⟩
          · skip
            refine ov_blk (ls2 := [(0, ov_r 0), (1, ov_i x), (2, ov_i y), (3, ov_i p), (4, ov_i w), (5, ov_i v3)]) (st2 := [ov_i 0]) (pc2 := 44) b_172_43_1 rfl rfl ?_
            exact ov_retz (st := []) d_172_44 rfl (by omega) ⟨_, rfl, I, (by show (0 = 0 ∨ 0 = 1) ∧ (h 36 7) = (h 36 7) ∧ (h 1 1) = (h 1 1) ∧ (h 90 2) = (h 90 2) ∧ (h 0 10) = (h 0 10) ∧ (h 0 11) = (h 0 11) ∧ (h 0 12) = (h 0 12) ∧ (h 0 13) = (h 0 13) ∧ (h 3 1) = (h 3 1) ∧ (h 36 8) = (h 36 8) ∧ (h 46 3) = (h 46 3) ∧ (h 46 4) = (h 46 4) ∧ (h 49 4) = (h 49 4) ∧ (h 49 5) = (h 49 5); omega)⟩
  · skip
    refine ov_getf (v := ov_r 70) d_172_1 fl_OF_78 (zb_0 I) (zs_0 I) (congrArg ov_r e1) ?_
    refine ov_blk (ls2 := [(0, ov_r 0), (1, ov_i x), (2, ov_i y), (3, ov_i p), (4, ov_i w)]) (st2 := [ov_i y, ov_i x, ov_r 70]) (pc2 := 6) b_172_4_2 rfl rfl ?_
    refine ov_cV (as := [ov_i x, ov_i y]) (st := []) (d2 := d - 1) d_172_6 lk_OF_131 rfl (Nat.le_of_ble_eq_true rfl) (c := 9) (zb_70 I) (zs_70 I) ⟨by decide, rfl⟩ (by omega) (c_Town_corner_70 (d - 1) (by omega) U I x y (by omega) (by omega)) ?_
    rintro _ _ _ ⟨v18, rfl, rfl, rfl, f17⟩
    show ov_R u d ov_m172 9 [(0, ov_r 0), (1, ov_i x), (2, ov_i y), (3, ov_i p), (4, ov_i w)] [ov_i v18] z h (P_OF_tried_0 z h x y p w)
    have f19 : v18 = -1 ∨ (0 ≤ x ∧ x < (h 70 0) ∧ 0 ≤ y ∧ y < (h 70 1) ∧ v18 = y * 6 + x ∧ (h 70 0) ≤ 6 ∧ (h 70 1) ≤ 9) := f17
    clear f17
    refine ov_blk (ls2 := [(0, ov_r 0), (1, ov_i x), (2, ov_i y), (3, ov_i p), (4, ov_i w), (5, ov_i v18)]) (st2 := [ov_i (-1), ov_i v18]) (pc2 := 14) b_172_9_3 rfl rfl ?_
    refine ov_iceq (tgt := 43) d_172_14 (by decide) (by omega) (by omega) (fun c20 => ?_) (fun c20 => ?_)
    · skip
      refine ov_blk (ls2 := [(0, ov_r 0), (1, ov_i x), (2, ov_i y), (3, ov_i p), (4, ov_i w), (5, ov_i v18)]) (st2 := [ov_i 0]) (pc2 := 44) b_172_43_1 rfl rfl ?_
      exact ov_retz (st := []) d_172_44 rfl (by omega) ⟨_, rfl, I, (by show (0 = 0 ∨ 0 = 1) ∧ (h 36 7) = (h 36 7) ∧ (h 1 1) = (h 1 1) ∧ (h 90 2) = (h 90 2) ∧ (h 0 10) = (h 0 10) ∧ (h 0 11) = (h 0 11) ∧ (h 0 12) = (h 0 12) ∧ (h 0 13) = (h 0 13) ∧ (h 3 1) = (h 3 1) ∧ (h 36 8) = (h 36 8) ∧ (h 46 3) = (h 46 3) ∧ (h 46 4) = (h 46 4) ∧ (h 49 4) = (h 49 4) ∧ (h 49 5) = (h 49 5); omega)⟩
    · skip
      refine ov_blk (ls2 := [(0, ov_r 0), (1, ov_i x), (2, ov_i y), (3, ov_i p), (4, ov_i w), (5, ov_i v18)]) (st2 := [ov_r 0]) (pc2 := 18) b_172_17_1 rfl rfl ?_
      refine ov_getf (v := ov_r 70) d_172_18 fl_OF_78 (zb_0 I) (zs_0 I) (congrArg ov_r e1) ?_
      refine ov_getf (v := ov_r 71) d_172_21 fl_OF_139 (zb_70 I) (zs_70 I) (congrArg ov_r (rg_70_2 I)) ?_
      refine ov_blk (ls2 := [(0, ov_r 0), (1, ov_i x), (2, ov_i y), (3, ov_i p), (4, ov_i w), (5, ov_i v18)]) (st2 := [ov_i v18, ov_r 71]) (pc2 := 26) b_172_24_1 rfl rfl ?_
      refine ov_iald d_172_26 (zb_71 I) (zs_71 I) (by omega) ?_
      have g21 := ra_71 I v18
      refine ov_blk (ls2 := [(0, ov_r 0), (1, ov_i x), (2, ov_i y), (3, ov_i p), (4, ov_i w), (5, ov_i v18)]) (st2 := [ov_i 2, ov_i (h 71 v18)]) (pc2 := 28) b_172_27_1 rfl rfl ?_
      refine ov_icne (tgt := 43) d_172_28 (by decide) (by omega) (by omega) (fun c22 => ?_) (fun c22 => ?_)
      · skip
        refine ov_blk (ls2 := [(0, ov_r 0), (1, ov_i x), (2, ov_i y), (3, ov_i p), (4, ov_i w), (5, ov_i v18)]) (st2 := [ov_i 0]) (pc2 := 44) b_172_43_1 rfl rfl ?_
        exact ov_retz (st := []) d_172_44 rfl (by omega) ⟨_, rfl, I, (by show (0 = 0 ∨ 0 = 1) ∧ (h 36 7) = (h 36 7) ∧ (h 1 1) = (h 1 1) ∧ (h 90 2) = (h 90 2) ∧ (h 0 10) = (h 0 10) ∧ (h 0 11) = (h 0 11) ∧ (h 0 12) = (h 0 12) ∧ (h 0 13) = (h 0 13) ∧ (h 3 1) = (h 3 1) ∧ (h 36 8) = (h 36 8) ∧ (h 46 3) = (h 46 3) ∧ (h 46 4) = (h 46 4) ∧ (h 49 4) = (h 49 4) ∧ (h 49 5) = (h 49 5); omega)⟩
      · skip
        refine ov_blk (ls2 := [(0, ov_r 0), (1, ov_i x), (2, ov_i y), (3, ov_i p), (4, ov_i w), (5, ov_i v18)]) (st2 := [ov_i w]) (pc2 := 33) b_172_31_1 rfl rfl ?_
        refine ov_iflt (tgt := 43) d_172_33 (by decide) (by omega) (fun c23 => ?_) (fun c23 => ?_)
        · skip
          refine ov_blk (ls2 := [(0, ov_r 0), (1, ov_i x), (2, ov_i y), (3, ov_i p), (4, ov_i w), (5, ov_i v18)]) (st2 := [ov_i 0]) (pc2 := 44) b_172_43_1 rfl rfl ?_
          exact ov_retz (st := []) d_172_44 rfl (by omega) ⟨_, rfl, I, (by show (0 = 0 ∨ 0 = 1) ∧ (h 36 7) = (h 36 7) ∧ (h 1 1) = (h 1 1) ∧ (h 90 2) = (h 90 2) ∧ (h 0 10) = (h 0 10) ∧ (h 0 11) = (h 0 11) ∧ (h 0 12) = (h 0 12) ∧ (h 0 13) = (h 0 13) ∧ (h 3 1) = (h 3 1) ∧ (h 36 8) = (h 36 8) ∧ (h 46 3) = (h 46 3) ∧ (h 46 4) = (h 46 4) ∧ (h 49 4) = (h 49 4) ∧ (h 49 5) = (h 49 5); omega)⟩
        · skip
          refine ov_blk (ls2 := [(0, ov_r 0), (1, ov_i x), (2, ov_i y), (3, ov_i p), (4, ov_i w), (5, ov_i v18)]) (st2 := [ov_i 59, ov_i w]) (pc2 := 40) b_172_36_2 rfl rfl ?_
          refine ov_icle (tgt := 45) d_172_40 (by decide) (by omega) (by omega) (fun c24 => ?_) (fun c24 => ?_)
          · skip
            refine ov_blk (ls2 := [(0, ov_r 0), (1, ov_i x), (2, ov_i y), (3, ov_i p), (4, ov_i w), (5, ov_i v18)]) (st2 := [ov_r 0]) (pc2 := 46) b_172_45_1 rfl rfl ?_
            refine ov_getf (v := ov_r 4) d_172_46 fl_OF_28 (zb_0 I) (zs_0 I) (congrArg ov_r (rg_0_2 I)) ?_
            refine ov_blk (ls2 := [(0, ov_r 0), (1, ov_i x), (2, ov_i y), (3, ov_i p), (4, ov_i w), (5, ov_i v18)]) (st2 := [ov_i w, ov_i p, ov_i v18, ov_r 4]) (pc2 := 54) b_172_49_3 rfl rfl ?_
            refine ov_cV (as := [ov_i v18, ov_i p, ov_i w]) (st := []) (d2 := d - 1) d_172_54 lk_OF_270 rfl (Nat.le_of_ble_eq_true rfl) (c := 7) (zb_4 I) (zs_4 I) ⟨by decide, rfl⟩ (by omega) (c_State_addTry_4 (d - 1) (by omega) U I v18 p w (by omega) (by omega) (by omega)) ?_
            rintro _ z27 h28 ⟨v26, rfl, I29, f25⟩
            show ov_R u d ov_m172 57 [(0, ov_r 0), (1, ov_i x), (2, ov_i y), (3, ov_i p), (4, ov_i w), (5, ov_i v18)] [ov_i v26] z27 h28 (P_OF_tried_0 z h x y p w)
            have f30 : (v26 = 0 ∨ v26 = 1) ∧ (h28 36 7) = (h 36 7) ∧ (h28 1 1) = (h 1 1) ∧ (h28 90 2) = (h 90 2) ∧ (h28 0 10) = (h 0 10) ∧ (h28 0 11) = (h 0 11) ∧ (h28 0 12) = (h 0 12) ∧ (h28 0 13) = (h 0 13) ∧ (h28 3 1) = (h 3 1) ∧ (h28 36 8) = (h 36 8) ∧ (h28 46 3) = (h 46 3) ∧ (h28 46 4) = (h 46 4) ∧ (h28 49 4) = (h 49 4) ∧ (h28 49 5) = (h 49 5) := f25
            clear f25
            have e31 : h28 0 10 = 70 := by omega
            exact ov_retz (st := []) d_172_57 rfl (by omega) ⟨_, rfl, I29, (by show (v26 = 0 ∨ v26 = 1) ∧ (h28 36 7) = (h 36 7) ∧ (h28 1 1) = (h 1 1) ∧ (h28 90 2) = (h 90 2) ∧ (h28 0 10) = (h 0 10) ∧ (h28 0 11) = (h 0 11) ∧ (h28 0 12) = (h 0 12) ∧ (h28 0 13) = (h 0 13) ∧ (h28 3 1) = (h 3 1) ∧ (h28 36 8) = (h 36 8) ∧ (h28 46 3) = (h 46 3) ∧ (h28 46 4) = (h 46 4) ∧ (h28 49 4) = (h 49 4) ∧ (h28 49 5) = (h 49 5); omega)⟩
          · skip
            refine ov_blk (ls2 := [(0, ov_r 0), (1, ov_i x), (2, ov_i y), (3, ov_i p), (4, ov_i w), (5, ov_i v18)]) (st2 := [ov_i 0]) (pc2 := 44) b_172_43_1 rfl rfl ?_
            exact ov_retz (st := []) d_172_44 rfl (by omega) ⟨_, rfl, I, (by show (0 = 0 ∨ 0 = 1) ∧ (h 36 7) = (h 36 7) ∧ (h 1 1) = (h 1 1) ∧ (h 90 2) = (h 90 2) ∧ (h 0 10) = (h 0 10) ∧ (h 0 11) = (h 0 11) ∧ (h 0 12) = (h 0 12) ∧ (h 0 13) = (h 0 13) ∧ (h 3 1) = (h 3 1) ∧ (h 36 8) = (h 36 8) ∧ (h 46 3) = (h 46 3) ∧ (h 46 4) = (h 46 4) ∧ (h 49 4) = (h 49 4) ∧ (h 49 5) = (h 49 5); omega)⟩
abbrev P_OF_does_0 (z : ov_Z) (h : ov_H) (x : Int) (y : Int) (w : Int) : Option ov_V → ov_Z → ov_H → Prop := fun r0 z' h' => ∃ r : Int, r0 = some (ov_l r) ∧ z = z' ∧ h = h' ∧ (True)
set_option maxHeartbeats 4000000 in
theorem c_OF_does_0 {u : ov_U} {z : ov_Z} {h : ov_H} (d : Nat) (hd : 2 ≤ d) (U : ov_cap u) (I : ov_I z h) (x : Int) (y : Int) (w : Int) (g_x : ov_g x) (g_y : ov_g y) (g_w : ov_g w) : ov_T u d ov_m174 [ov_r 0, ov_i x, ov_i y, ov_i w] z h (P_OF_does_0 z h x y w) := by
  refine ov_en rfl (Nat.le_of_ble_eq_true rfl) ?_
  show ov_R u d ov_m174 0 [(0, ov_r 0), (1, ov_i x), (2, ov_i y), (3, ov_i w)] [] z h (P_OF_does_0 z h x y w)
  refine ov_blk (ls2 := [(0, ov_r 0), (1, ov_i x), (2, ov_i y), (3, ov_i w)]) (st2 := [ov_r 0]) (pc2 := 1) b_174_0_1 rfl rfl ?_
  rcases rg_0_10 I with e1 | e1
  · skip
    refine ov_getf (v := ov_r 58) d_174_1 fl_OF_78 (zb_0 I) (zs_0 I) (congrArg ov_r e1) ?_
    refine ov_blk (ls2 := [(0, ov_r 0), (1, ov_i x), (2, ov_i y), (3, ov_i w)]) (st2 := [ov_i y, ov_i x, ov_r 58]) (pc2 := 6) b_174_4_2 rfl rfl ?_
    refine ov_cV (as := [ov_i x, ov_i y]) (st := []) (d2 := d - 1) d_174_6 lk_OF_131 rfl (Nat.le_of_ble_eq_true rfl) (c := 9) (zb_58 I) (zs_58 I) ⟨by decide, rfl⟩ (by omega) (c_Town_corner_58 (d - 1) (by omega) U I x y (by omega) (by omega)) ?_
    rintro _ _ _ ⟨v3, rfl, rfl, rfl, f2⟩
    show ov_R u d ov_m174 9 [(0, ov_r 0), (1, ov_i x), (2, ov_i y), (3, ov_i w)] [ov_i v3] z h (P_OF_does_0 z h x y w)
    have f4 : v3 = -1 ∨ (0 ≤ x ∧ x < (h 58 0) ∧ 0 ≤ y ∧ y < (h 58 1) ∧ v3 = y * 6 + x ∧ (h 58 0) ≤ 6 ∧ (h 58 1) ≤ 9) := f2
    clear f2
    refine ov_blk (ls2 := [(0, ov_r 0), (1, ov_i x), (2, ov_i y), (3, ov_i w), (4, ov_i v3)]) (st2 := [ov_i (-1), ov_i v3]) (pc2 := 14) b_174_9_3 rfl rfl ?_
    refine ov_iceq (tgt := 40) d_174_14 (by decide) (by omega) (by omega) (fun c5 => ?_) (fun c5 => ?_)
    · skip
      refine ov_ldc2 (n := (-1)) d_174_40 kc_OF_274 ?_
      exact ov_retl (st := []) d_174_43 rfl ⟨_, rfl, rfl, rfl, trivial⟩
    · skip
      refine ov_blk (ls2 := [(0, ov_r 0), (1, ov_i x), (2, ov_i y), (3, ov_i w), (4, ov_i v3)]) (st2 := [ov_r 0]) (pc2 := 18) b_174_17_1 rfl rfl ?_
      refine ov_getf (v := ov_r 58) d_174_18 fl_OF_78 (zb_0 I) (zs_0 I) (congrArg ov_r e1) ?_
      refine ov_getf (v := ov_r 59) d_174_21 fl_OF_139 (zb_58 I) (zs_58 I) (congrArg ov_r (rg_58_2 I)) ?_
      refine ov_blk (ls2 := [(0, ov_r 0), (1, ov_i x), (2, ov_i y), (3, ov_i w), (4, ov_i v3)]) (st2 := [ov_i v3, ov_r 59]) (pc2 := 26) b_174_24_1 rfl rfl ?_
      refine ov_iald d_174_26 (zb_59 I) (zs_59 I) (by omega) ?_
      have g6 := ra_59 I v3
      refine ov_blk (ls2 := [(0, ov_r 0), (1, ov_i x), (2, ov_i y), (3, ov_i w), (4, ov_i v3)]) (st2 := [ov_i 2, ov_i (h 59 v3)]) (pc2 := 28) b_174_27_1 rfl rfl ?_
      refine ov_icne (tgt := 40) d_174_28 (by decide) (by omega) (by omega) (fun c7 => ?_) (fun c7 => ?_)
      · skip
        refine ov_ldc2 (n := (-1)) d_174_40 kc_OF_274 ?_
        exact ov_retl (st := []) d_174_43 rfl ⟨_, rfl, rfl, rfl, trivial⟩
      · skip
        refine ov_blk (ls2 := [(0, ov_r 0), (1, ov_i x), (2, ov_i y), (3, ov_i w), (4, ov_i v3)]) (st2 := [ov_i w]) (pc2 := 32) b_174_31_1 rfl rfl ?_
        refine ov_iflt (tgt := 40) d_174_32 (by decide) (by omega) (fun c8 => ?_) (fun c8 => ?_)
        · skip
          refine ov_ldc2 (n := (-1)) d_174_40 kc_OF_274 ?_
          exact ov_retl (st := []) d_174_43 rfl ⟨_, rfl, rfl, rfl, trivial⟩
        · skip
          refine ov_blk (ls2 := [(0, ov_r 0), (1, ov_i x), (2, ov_i y), (3, ov_i w), (4, ov_i v3)]) (st2 := [ov_i 1, ov_i w]) (pc2 := 37) b_174_35_2 rfl rfl ?_
          refine ov_icle (tgt := 44) d_174_37 (by decide) (by omega) (by omega) (fun c9 => ?_) (fun c9 => ?_)
          · skip
            refine ov_blk (ls2 := [(0, ov_r 0), (1, ov_i x), (2, ov_i y), (3, ov_i w), (4, ov_i v3)]) (st2 := [ov_r 0]) (pc2 := 45) b_174_44_1 rfl rfl ?_
            refine ov_getf (v := ov_r 4) d_174_45 fl_OF_28 (zb_0 I) (zs_0 I) (congrArg ov_r (rg_0_2 I)) ?_
            refine ov_blk (ls2 := [(0, ov_r 0), (1, ov_i x), (2, ov_i y), (3, ov_i w), (4, ov_i v3)]) (st2 := [ov_r 0, ov_i v3, ov_r 4]) (pc2 := 51) b_174_48_2 rfl rfl ?_
            refine ov_getf (v := ov_r 58) d_174_51 fl_OF_78 (zb_0 I) (zs_0 I) (congrArg ov_r e1) ?_
            refine ov_getf (v := ov_r 60) d_174_54 fl_OF_142 (zb_58 I) (zs_58 I) (congrArg ov_r (rg_58_3 I)) ?_
            refine ov_blk (ls2 := [(0, ov_r 0), (1, ov_i x), (2, ov_i y), (3, ov_i w), (4, ov_i v3)]) (st2 := [ov_i v3, ov_r 60, ov_i v3, ov_r 4]) (pc2 := 59) b_174_57_1 rfl rfl ?_
            refine ov_iald d_174_59 (zb_60 I) (zs_60 I) (by omega) ?_
            have g10 := ra_60 I v3
            refine ov_blk (ls2 := [(0, ov_r 0), (1, ov_i x), (2, ov_i y), (3, ov_i w), (4, ov_i v3)]) (st2 := [ov_r 0, ov_i (h 60 v3), ov_i v3, ov_r 4]) (pc2 := 61) b_174_60_1 rfl rfl ?_
            refine ov_getf (v := ov_r 58) d_174_61 fl_OF_78 (zb_0 I) (zs_0 I) (congrArg ov_r e1) ?_
            refine ov_getf (v := ov_r 61) d_174_64 fl_OF_145 (zb_58 I) (zs_58 I) (congrArg ov_r (rg_58_4 I)) ?_
            refine ov_blk (ls2 := [(0, ov_r 0), (1, ov_i x), (2, ov_i y), (3, ov_i w), (4, ov_i v3)]) (st2 := [ov_i v3, ov_r 61, ov_i (h 60 v3), ov_i v3, ov_r 4]) (pc2 := 69) b_174_67_1 rfl rfl ?_
            refine ov_iald d_174_69 (zb_61 I) (zs_61 I) (by omega) ?_
            have g11 := ra_61 I v3
            refine ov_blk (ls2 := [(0, ov_r 0), (1, ov_i x), (2, ov_i y), (3, ov_i w), (4, ov_i v3)]) (st2 := [ov_i w, ov_i ((h 61 v3) + 1), ov_i (h 60 v3), ov_i v3, ov_r 4]) (pc2 := 73) b_174_70_3 rfl rfl ?_
            refine ov_cV (as := [ov_i v3, ov_i (h 60 v3), ov_i ((h 61 v3) + 1), ov_i w]) (st := []) (d2 := d - 1) d_174_73 lk_OF_276 rfl (Nat.le_of_ble_eq_true rfl) (c := 7) (zb_4 I) (zs_4 I) ⟨by decide, rfl⟩ (by omega) (c_State_likelihood_4 (d - 1) (by omega) U I v3 (h 60 v3) ((h 61 v3) + 1) w (by omega) (by omega) (by omega) (by omega)) ?_
            rintro _ _ _ ⟨v13, rfl, rfl, rfl, f12⟩
            show ov_R u d ov_m174 76 [(0, ov_r 0), (1, ov_i x), (2, ov_i y), (3, ov_i w), (4, ov_i v3)] [ov_l v13] z h (P_OF_does_0 z h x y w)
            clear f12
            exact ov_retl (st := []) d_174_76 rfl ⟨_, rfl, rfl, rfl, trivial⟩
          · skip
            refine ov_ldc2 (n := (-1)) d_174_40 kc_OF_274 ?_
            exact ov_retl (st := []) d_174_43 rfl ⟨_, rfl, rfl, rfl, trivial⟩
  · skip
    refine ov_getf (v := ov_r 70) d_174_1 fl_OF_78 (zb_0 I) (zs_0 I) (congrArg ov_r e1) ?_
    refine ov_blk (ls2 := [(0, ov_r 0), (1, ov_i x), (2, ov_i y), (3, ov_i w)]) (st2 := [ov_i y, ov_i x, ov_r 70]) (pc2 := 6) b_174_4_2 rfl rfl ?_
    refine ov_cV (as := [ov_i x, ov_i y]) (st := []) (d2 := d - 1) d_174_6 lk_OF_131 rfl (Nat.le_of_ble_eq_true rfl) (c := 9) (zb_70 I) (zs_70 I) ⟨by decide, rfl⟩ (by omega) (c_Town_corner_70 (d - 1) (by omega) U I x y (by omega) (by omega)) ?_
    rintro _ _ _ ⟨v15, rfl, rfl, rfl, f14⟩
    show ov_R u d ov_m174 9 [(0, ov_r 0), (1, ov_i x), (2, ov_i y), (3, ov_i w)] [ov_i v15] z h (P_OF_does_0 z h x y w)
    have f16 : v15 = -1 ∨ (0 ≤ x ∧ x < (h 70 0) ∧ 0 ≤ y ∧ y < (h 70 1) ∧ v15 = y * 6 + x ∧ (h 70 0) ≤ 6 ∧ (h 70 1) ≤ 9) := f14
    clear f14
    refine ov_blk (ls2 := [(0, ov_r 0), (1, ov_i x), (2, ov_i y), (3, ov_i w), (4, ov_i v15)]) (st2 := [ov_i (-1), ov_i v15]) (pc2 := 14) b_174_9_3 rfl rfl ?_
    refine ov_iceq (tgt := 40) d_174_14 (by decide) (by omega) (by omega) (fun c17 => ?_) (fun c17 => ?_)
    · skip
      refine ov_ldc2 (n := (-1)) d_174_40 kc_OF_274 ?_
      exact ov_retl (st := []) d_174_43 rfl ⟨_, rfl, rfl, rfl, trivial⟩
    · skip
      refine ov_blk (ls2 := [(0, ov_r 0), (1, ov_i x), (2, ov_i y), (3, ov_i w), (4, ov_i v15)]) (st2 := [ov_r 0]) (pc2 := 18) b_174_17_1 rfl rfl ?_
      refine ov_getf (v := ov_r 70) d_174_18 fl_OF_78 (zb_0 I) (zs_0 I) (congrArg ov_r e1) ?_
      refine ov_getf (v := ov_r 71) d_174_21 fl_OF_139 (zb_70 I) (zs_70 I) (congrArg ov_r (rg_70_2 I)) ?_
      refine ov_blk (ls2 := [(0, ov_r 0), (1, ov_i x), (2, ov_i y), (3, ov_i w), (4, ov_i v15)]) (st2 := [ov_i v15, ov_r 71]) (pc2 := 26) b_174_24_1 rfl rfl ?_
      refine ov_iald d_174_26 (zb_71 I) (zs_71 I) (by omega) ?_
      have g18 := ra_71 I v15
      refine ov_blk (ls2 := [(0, ov_r 0), (1, ov_i x), (2, ov_i y), (3, ov_i w), (4, ov_i v15)]) (st2 := [ov_i 2, ov_i (h 71 v15)]) (pc2 := 28) b_174_27_1 rfl rfl ?_
      refine ov_icne (tgt := 40) d_174_28 (by decide) (by omega) (by omega) (fun c19 => ?_) (fun c19 => ?_)
      · skip
        refine ov_ldc2 (n := (-1)) d_174_40 kc_OF_274 ?_
        exact ov_retl (st := []) d_174_43 rfl ⟨_, rfl, rfl, rfl, trivial⟩
      · skip
        refine ov_blk (ls2 := [(0, ov_r 0), (1, ov_i x), (2, ov_i y), (3, ov_i w), (4, ov_i v15)]) (st2 := [ov_i w]) (pc2 := 32) b_174_31_1 rfl rfl ?_
        refine ov_iflt (tgt := 40) d_174_32 (by decide) (by omega) (fun c20 => ?_) (fun c20 => ?_)
        · skip
          refine ov_ldc2 (n := (-1)) d_174_40 kc_OF_274 ?_
          exact ov_retl (st := []) d_174_43 rfl ⟨_, rfl, rfl, rfl, trivial⟩
        · skip
          refine ov_blk (ls2 := [(0, ov_r 0), (1, ov_i x), (2, ov_i y), (3, ov_i w), (4, ov_i v15)]) (st2 := [ov_i 1, ov_i w]) (pc2 := 37) b_174_35_2 rfl rfl ?_
          refine ov_icle (tgt := 44) d_174_37 (by decide) (by omega) (by omega) (fun c21 => ?_) (fun c21 => ?_)
          · skip
            refine ov_blk (ls2 := [(0, ov_r 0), (1, ov_i x), (2, ov_i y), (3, ov_i w), (4, ov_i v15)]) (st2 := [ov_r 0]) (pc2 := 45) b_174_44_1 rfl rfl ?_
            refine ov_getf (v := ov_r 4) d_174_45 fl_OF_28 (zb_0 I) (zs_0 I) (congrArg ov_r (rg_0_2 I)) ?_
            refine ov_blk (ls2 := [(0, ov_r 0), (1, ov_i x), (2, ov_i y), (3, ov_i w), (4, ov_i v15)]) (st2 := [ov_r 0, ov_i v15, ov_r 4]) (pc2 := 51) b_174_48_2 rfl rfl ?_
            refine ov_getf (v := ov_r 70) d_174_51 fl_OF_78 (zb_0 I) (zs_0 I) (congrArg ov_r e1) ?_
            refine ov_getf (v := ov_r 72) d_174_54 fl_OF_142 (zb_70 I) (zs_70 I) (congrArg ov_r (rg_70_3 I)) ?_
            refine ov_blk (ls2 := [(0, ov_r 0), (1, ov_i x), (2, ov_i y), (3, ov_i w), (4, ov_i v15)]) (st2 := [ov_i v15, ov_r 72, ov_i v15, ov_r 4]) (pc2 := 59) b_174_57_1 rfl rfl ?_
            refine ov_iald d_174_59 (zb_72 I) (zs_72 I) (by omega) ?_
            have g22 := ra_72 I v15
            refine ov_blk (ls2 := [(0, ov_r 0), (1, ov_i x), (2, ov_i y), (3, ov_i w), (4, ov_i v15)]) (st2 := [ov_r 0, ov_i (h 72 v15), ov_i v15, ov_r 4]) (pc2 := 61) b_174_60_1 rfl rfl ?_
            refine ov_getf (v := ov_r 70) d_174_61 fl_OF_78 (zb_0 I) (zs_0 I) (congrArg ov_r e1) ?_
            refine ov_getf (v := ov_r 73) d_174_64 fl_OF_145 (zb_70 I) (zs_70 I) (congrArg ov_r (rg_70_4 I)) ?_
            refine ov_blk (ls2 := [(0, ov_r 0), (1, ov_i x), (2, ov_i y), (3, ov_i w), (4, ov_i v15)]) (st2 := [ov_i v15, ov_r 73, ov_i (h 72 v15), ov_i v15, ov_r 4]) (pc2 := 69) b_174_67_1 rfl rfl ?_
            refine ov_iald d_174_69 (zb_73 I) (zs_73 I) (by omega) ?_
            have g23 := ra_73 I v15
            refine ov_blk (ls2 := [(0, ov_r 0), (1, ov_i x), (2, ov_i y), (3, ov_i w), (4, ov_i v15)]) (st2 := [ov_i w, ov_i ((h 73 v15) + 1), ov_i (h 72 v15), ov_i v15, ov_r 4]) (pc2 := 73) b_174_70_3 rfl rfl ?_
            refine ov_cV (as := [ov_i v15, ov_i (h 72 v15), ov_i ((h 73 v15) + 1), ov_i w]) (st := []) (d2 := d - 1) d_174_73 lk_OF_276 rfl (Nat.le_of_ble_eq_true rfl) (c := 7) (zb_4 I) (zs_4 I) ⟨by decide, rfl⟩ (by omega) (c_State_likelihood_4 (d - 1) (by omega) U I v15 (h 72 v15) ((h 73 v15) + 1) w (by omega) (by omega) (by omega) (by omega)) ?_
            rintro _ _ _ ⟨v25, rfl, rfl, rfl, f24⟩
            show ov_R u d ov_m174 76 [(0, ov_r 0), (1, ov_i x), (2, ov_i y), (3, ov_i w), (4, ov_i v15)] [ov_l v25] z h (P_OF_does_0 z h x y w)
            clear f24
            exact ov_retl (st := []) d_174_76 rfl ⟨_, rfl, rfl, rfl, trivial⟩
          · skip
            refine ov_ldc2 (n := (-1)) d_174_40 kc_OF_274 ?_
            exact ov_retl (st := []) d_174_43 rfl ⟨_, rfl, rfl, rfl, trivial⟩
abbrev P_OF_wave_0 (z : ov_Z) (h : ov_H) (x : Int) (y : Int) (n : Int) (b : Int) (w : Int) : Option ov_V → ov_Z → ov_H → Prop := fun r0 z' h' => ∃ r : Int, r0 = some (ov_i r) ∧ ov_I z' h' ∧ (h' 36 7 = h 36 7 ∧ h' 1 1 = h 1 1 ∧ h' 90 2 = h 90 2 ∧ h' 0 10 = h 0 10 ∧ h' 0 11 = h 0 11 ∧ h' 0 12 = h 0 12 ∧ h' 0 13 = h 0 13 ∧ h' 3 1 = h 3 1 ∧ h' 36 8 = h 36 8 ∧ h' 46 3 = h 46 3 ∧ h' 46 4 = h 46 4 ∧ h' 49 4 = h 49 4 ∧ h' 49 5 = h 49 5)
set_option maxHeartbeats 4000000 in
theorem c_OF_wave_0 {u : ov_U} {z : ov_Z} {h : ov_H} (d : Nat) (hd : 30 ≤ d) (U : ov_cap u) (I : ov_I z h) (x : Int) (y : Int) (n : Int) (b : Int) (w : Int) (g_x : ov_g x) (g_y : ov_g y) (g_n : ov_g n) (g_b : b = 0 ∨ b = 1) (g_w : ov_g w) : ov_T u d ov_m176 [ov_r 0, ov_i x, ov_i y, ov_i n, ov_i b, ov_i w] z h (P_OF_wave_0 z h x y n b w) := by
  refine ov_en rfl (Nat.le_of_ble_eq_true rfl) ?_
  show ov_R u d ov_m176 0 [(0, ov_r 0), (1, ov_i x), (2, ov_i y), (3, ov_i n), (4, ov_i b), (5, ov_i w)] [] z h (P_OF_wave_0 z h x y n b w)
  refine ov_blk (ls2 := [(0, ov_r 0), (1, ov_i x), (2, ov_i y), (3, ov_i n), (4, ov_i b), (5, ov_i w)]) (st2 := [ov_r 0]) (pc2 := 1) b_176_0_1 rfl rfl ?_
  rcases rg_0_10 I with e1 | e1
  · skip
    refine ov_getf (v := ov_r 58) d_176_1 fl_OF_78 (zb_0 I) (zs_0 I) (congrArg ov_r e1) ?_
    refine ov_blk (ls2 := [(0, ov_r 0), (1, ov_i x), (2, ov_i y), (3, ov_i n), (4, ov_i b), (5, ov_i w)]) (st2 := [ov_i y, ov_i x, ov_r 58]) (pc2 := 6) b_176_4_2 rfl rfl ?_
    refine ov_cV (as := [ov_i x, ov_i y]) (st := []) (d2 := d - 1) d_176_6 lk_OF_131 rfl (Nat.le_of_ble_eq_true rfl) (c := 9) (zb_58 I) (zs_58 I) ⟨by decide, rfl⟩ (by omega) (c_Town_corner_58 (d - 1) (by omega) U I x y (by omega) (by omega)) ?_
    rintro _ _ _ ⟨v3, rfl, rfl, rfl, f2⟩
    show ov_R u d ov_m176 9 [(0, ov_r 0), (1, ov_i x), (2, ov_i y), (3, ov_i n), (4, ov_i b), (5, ov_i w)] [ov_i v3] z h (P_OF_wave_0 z h x y n b w)
    have f4 : v3 = -1 ∨ (0 ≤ x ∧ x < (h 58 0) ∧ 0 ≤ y ∧ y < (h 58 1) ∧ v3 = y * 6 + x ∧ (h 58 0) ≤ 6 ∧ (h 58 1) ≤ 9) := f2
    clear f2
    refine ov_blk (ls2 := [(0, ov_r 0), (1, ov_i x), (2, ov_i y), (3, ov_i n), (4, ov_i b), (5, ov_i w), (6, ov_i v3)]) (st2 := [ov_i (-1), ov_i v3]) (pc2 := 14) b_176_9_3 rfl rfl ?_
    refine ov_iceq (tgt := 38) d_176_14 (by decide) (by omega) (by omega) (fun c5 => ?_) (fun c5 => ?_)
    · skip
      refine ov_blk (ls2 := [(0, ov_r 0), (1, ov_i x), (2, ov_i y), (3, ov_i n), (4, ov_i b), (5, ov_i w), (6, ov_i v3)]) (st2 := [ov_i (-1)]) (pc2 := 39) b_176_38_1 rfl rfl ?_
      exact ov_reti (st := []) d_176_39 rfl ⟨_, rfl, I, (by show (h 36 7) = (h 36 7) ∧ (h 1 1) = (h 1 1) ∧ (h 90 2) = (h 90 2) ∧ (h 0 10) = (h 0 10) ∧ (h 0 11) = (h 0 11) ∧ (h 0 12) = (h 0 12) ∧ (h 0 13) = (h 0 13) ∧ (h 3 1) = (h 3 1) ∧ (h 36 8) = (h 36 8) ∧ (h 46 3) = (h 46 3) ∧ (h 46 4) = (h 46 4) ∧ (h 49 4) = (h 49 4) ∧ (h 49 5) = (h 49 5); omega)⟩
    · skip
      refine ov_blk (ls2 := [(0, ov_r 0), (1, ov_i x), (2, ov_i y), (3, ov_i n), (4, ov_i b), (5, ov_i w), (6, ov_i v3)]) (st2 := [ov_i 2, ov_i n]) (pc2 := 19) b_176_17_2 rfl rfl ?_
      refine ov_iclt (tgt := 38) d_176_19 (by decide) (by omega) (by omega) (fun c6 => ?_) (fun c6 => ?_)
      · skip
        refine ov_blk (ls2 := [(0, ov_r 0), (1, ov_i x), (2, ov_i y), (3, ov_i n), (4, ov_i b), (5, ov_i w), (6, ov_i v3)]) (st2 := [ov_i (-1)]) (pc2 := 39) b_176_38_1 rfl rfl ?_
        exact ov_reti (st := []) d_176_39 rfl ⟨_, rfl, I, (by show (h 36 7) = (h 36 7) ∧ (h 1 1) = (h 1 1) ∧ (h 90 2) = (h 90 2) ∧ (h 0 10) = (h 0 10) ∧ (h 0 11) = (h 0 11) ∧ (h 0 12) = (h 0 12) ∧ (h 0 13) = (h 0 13) ∧ (h 3 1) = (h 3 1) ∧ (h 36 8) = (h 36 8) ∧ (h 46 3) = (h 46 3) ∧ (h 46 4) = (h 46 4) ∧ (h 49 4) = (h 49 4) ∧ (h 49 5) = (h 49 5); omega)⟩
      · skip
        refine ov_blk (ls2 := [(0, ov_r 0), (1, ov_i x), (2, ov_i y), (3, ov_i n), (4, ov_i b), (5, ov_i w), (6, ov_i v3)]) (st2 := [ov_i 4, ov_i n]) (pc2 := 24) b_176_22_2 rfl rfl ?_
        refine ov_icgt (tgt := 38) d_176_24 (by decide) (by omega) (by omega) (fun c7 => ?_) (fun c7 => ?_)
        · skip
          refine ov_blk (ls2 := [(0, ov_r 0), (1, ov_i x), (2, ov_i y), (3, ov_i n), (4, ov_i b), (5, ov_i w), (6, ov_i v3)]) (st2 := [ov_i (-1)]) (pc2 := 39) b_176_38_1 rfl rfl ?_
          exact ov_reti (st := []) d_176_39 rfl ⟨_, rfl, I, (by show (h 36 7) = (h 36 7) ∧ (h 1 1) = (h 1 1) ∧ (h 90 2) = (h 90 2) ∧ (h 0 10) = (h 0 10) ∧ (h 0 11) = (h 0 11) ∧ (h 0 12) = (h 0 12) ∧ (h 0 13) = (h 0 13) ∧ (h 3 1) = (h 3 1) ∧ (h 36 8) = (h 36 8) ∧ (h 46 3) = (h 46 3) ∧ (h 46 4) = (h 46 4) ∧ (h 49 4) = (h 49 4) ∧ (h 49 5) = (h 49 5); omega)⟩
        · skip
          refine ov_blk (ls2 := [(0, ov_r 0), (1, ov_i x), (2, ov_i y), (3, ov_i n), (4, ov_i b), (5, ov_i w), (6, ov_i v3)]) (st2 := [ov_i w]) (pc2 := 29) b_176_27_1 rfl rfl ?_
          refine ov_iflt (tgt := 38) d_176_29 (by decide) (by omega) (fun c8 => ?_) (fun c8 => ?_)
          · skip
            refine ov_blk (ls2 := [(0, ov_r 0), (1, ov_i x), (2, ov_i y), (3, ov_i n), (4, ov_i b), (5, ov_i w), (6, ov_i v3)]) (st2 := [ov_i (-1)]) (pc2 := 39) b_176_38_1 rfl rfl ?_
            exact ov_reti (st := []) d_176_39 rfl ⟨_, rfl, I, (by show (h 36 7) = (h 36 7) ∧ (h 1 1) = (h 1 1) ∧ (h 90 2) = (h 90 2) ∧ (h 0 10) = (h 0 10) ∧ (h 0 11) = (h 0 11) ∧ (h 0 12) = (h 0 12) ∧ (h 0 13) = (h 0 13) ∧ (h 3 1) = (h 3 1) ∧ (h 36 8) = (h 36 8) ∧ (h 46 3) = (h 46 3) ∧ (h 46 4) = (h 46 4) ∧ (h 49 4) = (h 49 4) ∧ (h 49 5) = (h 49 5); omega)⟩
          · skip
            refine ov_blk (ls2 := [(0, ov_r 0), (1, ov_i x), (2, ov_i y), (3, ov_i n), (4, ov_i b), (5, ov_i w), (6, ov_i v3)]) (st2 := [ov_i n, ov_i w]) (pc2 := 35) b_176_32_2 rfl rfl ?_
            refine ov_iclt (tgt := 40) d_176_35 (by decide) (by omega) (by omega) (fun c9 => ?_) (fun c9 => ?_)
            · skip
              refine ov_blk (ls2 := [(0, ov_r 0), (1, ov_i x), (2, ov_i y), (3, ov_i n), (4, ov_i b), (5, ov_i w), (6, ov_i v3)]) (st2 := [ov_r 0]) (pc2 := 41) b_176_40_1 rfl rfl ?_
              refine ov_getf (v := ov_r 58) d_176_41 fl_OF_78 (zb_0 I) (zs_0 I) (congrArg ov_r e1) ?_
              refine ov_blk (ls2 := [(0, ov_r 0), (1, ov_i x), (2, ov_i y), (3, ov_i n), (4, ov_i b), (5, ov_i w), (6, ov_i v3)]) (st2 := [ov_i ((y + n) - 1), ov_i x, ov_r 58]) (pc2 := 50) b_176_44_6 rfl rfl ?_
              refine ov_cV (as := [ov_i x, ov_i ((y + n) - 1)]) (st := []) (d2 := d - 1) d_176_50 lk_OF_131 rfl (Nat.le_of_ble_eq_true rfl) (c := 9) (zb_58 I) (zs_58 I) ⟨by decide, rfl⟩ (by omega) (c_Town_corner_58 (d - 1) (by omega) U I x ((y + n) - 1) (by omega) (by omega)) ?_
              rintro _ _ _ ⟨v11, rfl, rfl, rfl, f10⟩
              show ov_R u d ov_m176 53 [(0, ov_r 0), (1, ov_i x), (2, ov_i y), (3, ov_i n), (4, ov_i b), (5, ov_i w), (6, ov_i v3)] [ov_i v11] z h (P_OF_wave_0 z h x y n b w)
              have f12 : v11 = -1 ∨ (0 ≤ x ∧ x < (h 58 0) ∧ 0 ≤ ((y + n) - 1) ∧ ((y + n) - 1) < (h 58 1) ∧ v11 = ((y + n) - 1) * 6 + x ∧ (h 58 0) ≤ 6 ∧ (h 58 1) ≤ 9) := f10
              clear f10
              refine ov_blk (ls2 := [(0, ov_r 0), (1, ov_i x), (2, ov_i y), (3, ov_i n), (4, ov_i b), (5, ov_i w), (6, ov_i v3)]) (st2 := [ov_i (-1), ov_i v11]) (pc2 := 54) b_176_53_1 rfl rfl ?_
              refine ov_iceq (tgt := 70) d_176_54 (by decide) (by omega) (by omega) (fun c13 => ?_) (fun c13 => ?_)
              · skip
                refine ov_blk (ls2 := [(0, ov_r 0), (1, ov_i x), (2, ov_i y), (3, ov_i n), (4, ov_i b), (5, ov_i w), (6, ov_i v3)]) (st2 := [ov_i (-1)]) (pc2 := 71) b_176_70_1 rfl rfl ?_
                exact ov_reti (st := []) d_176_71 rfl ⟨_, rfl, I, (by show (h 36 7) = (h 36 7) ∧ (h 1 1) = (h 1 1) ∧ (h 90 2) = (h 90 2) ∧ (h 0 10) = (h 0 10) ∧ (h 0 11) = (h 0 11) ∧ (h 0 12) = (h 0 12) ∧ (h 0 13) = (h 0 13) ∧ (h 3 1) = (h 3 1) ∧ (h 36 8) = (h 36 8) ∧ (h 46 3) = (h 46 3) ∧ (h 46 4) = (h 46 4) ∧ (h 49 4) = (h 49 4) ∧ (h 49 5) = (h 49 5); omega)⟩
              · skip
                refine ov_blk (ls2 := [(0, ov_r 0), (1, ov_i x), (2, ov_i y), (3, ov_i n), (4, ov_i b), (5, ov_i w), (6, ov_i v3)]) (st2 := [ov_r 0]) (pc2 := 58) b_176_57_1 rfl rfl ?_
                refine ov_getf (v := ov_r 58) d_176_58 fl_OF_78 (zb_0 I) (zs_0 I) (congrArg ov_r e1) ?_
                refine ov_blk (ls2 := [(0, ov_r 0), (1, ov_i x), (2, ov_i y), (3, ov_i n), (4, ov_i b), (5, ov_i w), (6, ov_i v3)]) (st2 := [ov_i n, ov_i v3, ov_r 58]) (pc2 := 64) b_176_61_2 rfl rfl ?_
                refine ov_cV (as := [ov_i v3, ov_i n]) (st := []) (d2 := d - 1) d_176_64 lk_OF_280 rfl (Nat.le_of_ble_eq_true rfl) (c := 9) (zb_58 I) (zs_58 I) ⟨by decide, rfl⟩ (by omega) (c_Town_shareRound_58 (d - 1) (by omega) U I v3 n (by omega) (by omega) (by omega) (by omega)) ?_
                rintro _ _ _ ⟨v15, rfl, rfl, rfl, f14⟩
                show ov_R u d ov_m176 67 [(0, ov_r 0), (1, ov_i x), (2, ov_i y), (3, ov_i n), (4, ov_i b), (5, ov_i w), (6, ov_i v3)] [ov_i v15] z h (P_OF_wave_0 z h x y n b w)
                have f16 : (v15 = 0 ∨ v15 = 1) := f14
                clear f14
                refine ov_ifne (tgt := 72) d_176_67 (by decide) (by omega) (fun c17 => ?_) (fun c17 => ?_)
                · skip
                  refine ov_blk (ls2 := [(0, ov_r 0), (1, ov_i x), (2, ov_i y), (3, ov_i n), (4, ov_i b), (5, ov_i w), (6, ov_i v3)]) (st2 := [ov_r 0]) (pc2 := 73) b_176_72_1 rfl rfl ?_
                  refine ov_getf (v := ov_r 54) d_176_73 fl_OF_71 (zb_0 I) (zs_0 I) (congrArg ov_r (rg_0_9 I)) ?_
                  refine ov_blk (ls2 := [(0, ov_r 0), (1, ov_i x), (2, ov_i y), (3, ov_i n), (4, ov_i b), (5, ov_i w), (6, ov_i v3)]) (st2 := [ov_r 0, ov_r 54]) (pc2 := 77) b_176_76_1 rfl rfl ?_
                  refine ov_getf (v := ov_r 58) d_176_77 fl_OF_78 (zb_0 I) (zs_0 I) (congrArg ov_r e1) ?_
                  refine ov_blk (ls2 := [(0, ov_r 0), (1, ov_i x), (2, ov_i y), (3, ov_i n), (4, ov_i b), (5, ov_i w), (6, ov_i v3)]) (st2 := [ov_i b, ov_i n, ov_i v3, ov_r 58, ov_r 54]) (pc2 := 85) b_176_80_3 rfl rfl ?_
                  refine ov_cV (as := [ov_r 58, ov_i v3, ov_i n, ov_i b]) (st := []) (d2 := d - 1) d_176_85 lk_OF_283 rfl (Nat.le_of_ble_eq_true rfl) (c := 11) (zb_54 I) (zs_54 I) ⟨by decide, rfl⟩ (by omega) (c_Wave_solve_54_58 (d - 1) (by omega) U I v3 n b (by omega) (by omega) (by omega) (by omega) (by omega)) ?_
                  rintro _ z19 h20 ⟨rfl, I21, f18⟩
                  show ov_R u d ov_m176 88 [(0, ov_r 0), (1, ov_i x), (2, ov_i y), (3, ov_i n), (4, ov_i b), (5, ov_i w), (6, ov_i v3)] [] z19 h20 (P_OF_wave_0 z h x y n b w)
                  have f22 : (h20 36 7) = (h 36 7) ∧ (h20 1 1) = (h 1 1) ∧ (h20 90 2) = (h 90 2) ∧ (h20 0 10) = (h 0 10) ∧ (h20 0 11) = (h 0 11) ∧ (h20 0 12) = (h 0 12) ∧ (h20 0 13) = (h 0 13) ∧ (h20 3 1) = (h 3 1) ∧ (h20 36 8) = (h 36 8) ∧ (h20 46 3) = (h 46 3) ∧ (h20 46 4) = (h 46 4) ∧ (h20 49 4) = (h 49 4) ∧ (h20 49 5) = (h 49 5) := f18
                  clear f18
                  have e23 : h20 0 10 = 58 := by omega
                  refine ov_blk (ls2 := [(0, ov_r 0), (1, ov_i x), (2, ov_i y), (3, ov_i n), (4, ov_i b), (5, ov_i w), (6, ov_i v3)]) (st2 := [ov_i w]) (pc2 := 90) b_176_88_1 rfl rfl ?_
                  refine ov_ifne (tgt := 103) d_176_90 (by decide) (by omega) (fun c24 => ?_) (fun c24 => ?_)
                  · skip
                    refine ov_blk (ls2 := [(0, ov_r 0), (1, ov_i x), (2, ov_i y), (3, ov_i n), (4, ov_i b), (5, ov_i w), (6, ov_i v3)]) (st2 := [ov_r 0]) (pc2 := 104) b_176_103_1 rfl rfl ?_
                    refine ov_getf (v := ov_r 54) d_176_104 fl_OF_71 (zb_0 I21) (zs_0 I21) (congrArg ov_r (rg_0_9 I21)) ?_
                    refine ov_getf (v := ov_r 55) d_176_107 fl_OF_289 (zb_54 I21) (zs_54 I21) (congrArg ov_r (rg_54_1 I21)) ?_
                    refine ov_blk (ls2 := [(0, ov_r 0), (1, ov_i x), (2, ov_i y), (3, ov_i n), (4, ov_i b), (5, ov_i w), (6, ov_i v3)]) (st2 := [ov_i w, ov_r 55]) (pc2 := 112) b_176_110_1 rfl rfl ?_
                    refine ov_iald d_176_112 (zb_55 I21) (zs_55 I21) (by omega) ?_
                    have g25 := ra_55 I21 w
                    exact ov_reti (st := []) d_176_113 rfl ⟨_, rfl, I21, (by show (h20 36 7) = (h 36 7) ∧ (h20 1 1) = (h 1 1) ∧ (h20 90 2) = (h 90 2) ∧ (h20 0 10) = (h 0 10) ∧ (h20 0 11) = (h 0 11) ∧ (h20 0 12) = (h 0 12) ∧ (h20 0 13) = (h 0 13) ∧ (h20 3 1) = (h 3 1) ∧ (h20 36 8) = (h 36 8) ∧ (h20 46 3) = (h 46 3) ∧ (h20 46 4) = (h 46 4) ∧ (h20 49 4) = (h 49 4) ∧ (h20 49 5) = (h 49 5); omega)⟩
                  · skip
                    refine ov_blk (ls2 := [(0, ov_r 0), (1, ov_i x), (2, ov_i y), (3, ov_i n), (4, ov_i b), (5, ov_i w), (6, ov_i v3)]) (st2 := [ov_r 0]) (pc2 := 94) b_176_93_1 rfl rfl ?_
                    refine ov_getf (v := ov_r 54) d_176_94 fl_OF_71 (zb_0 I21) (zs_0 I21) (congrArg ov_r (rg_0_9 I21)) ?_
                    refine ov_getf (v := ov_i (h20 54 0)) d_176_97 fl_OF_286 (zb_54 I21) (zs_54 I21) rfl ?_
                    have g26 := rg_54_0 I21
                    refine ov_goto (tgt := 113) d_176_100 (by decide) ?_
                    exact ov_reti (st := []) d_176_113 rfl ⟨_, rfl, I21, (by show (h20 36 7) = (h 36 7) ∧ (h20 1 1) = (h 1 1) ∧ (h20 90 2) = (h 90 2) ∧ (h20 0 10) = (h 0 10) ∧ (h20 0 11) = (h 0 11) ∧ (h20 0 12) = (h 0 12) ∧ (h20 0 13) = (h 0 13) ∧ (h20 3 1) = (h 3 1) ∧ (h20 36 8) = (h 36 8) ∧ (h20 46 3) = (h 46 3) ∧ (h20 46 4) = (h 46 4) ∧ (h20 49 4) = (h 49 4) ∧ (h20 49 5) = (h 49 5); omega)⟩
                · skip
                  refine ov_blk (ls2 := [(0, ov_r 0), (1, ov_i x), (2, ov_i y), (3, ov_i n), (4, ov_i b), (5, ov_i w), (6, ov_i v3)]) (st2 := [ov_i (-1)]) (pc2 := 71) b_176_70_1 rfl rfl ?_
                  exact ov_reti (st := []) d_176_71 rfl ⟨_, rfl, I, (by show (h 36 7) = (h 36 7) ∧ (h 1 1) = (h 1 1) ∧ (h 90 2) = (h 90 2) ∧ (h 0 10) = (h 0 10) ∧ (h 0 11) = (h 0 11) ∧ (h 0 12) = (h 0 12) ∧ (h 0 13) = (h 0 13) ∧ (h 3 1) = (h 3 1) ∧ (h 36 8) = (h 36 8) ∧ (h 46 3) = (h 46 3) ∧ (h 46 4) = (h 46 4) ∧ (h 49 4) = (h 49 4) ∧ (h 49 5) = (h 49 5); omega)⟩
            · skip
              refine ov_blk (ls2 := [(0, ov_r 0), (1, ov_i x), (2, ov_i y), (3, ov_i n), (4, ov_i b), (5, ov_i w), (6, ov_i v3)]) (st2 := [ov_i (-1)]) (pc2 := 39) b_176_38_1 rfl rfl ?_
              exact ov_reti (st := []) d_176_39 rfl ⟨_, rfl, I, (by show (h 36 7) = (h 36 7) ∧ (h 1 1) = (h 1 1) ∧ (h 90 2) = (h 90 2) ∧ (h 0 10) = (h 0 10) ∧ (h 0 11) = (h 0 11) ∧ (h 0 12) = (h 0 12) ∧ (h 0 13) = (h 0 13) ∧ (h 3 1) = (h 3 1) ∧ (h 36 8) = (h 36 8) ∧ (h 46 3) = (h 46 3) ∧ (h 46 4) = (h 46 4) ∧ (h 49 4) = (h 49 4) ∧ (h 49 5) = (h 49 5); omega)⟩
  · skip
    refine ov_getf (v := ov_r 70) d_176_1 fl_OF_78 (zb_0 I) (zs_0 I) (congrArg ov_r e1) ?_
    refine ov_blk (ls2 := [(0, ov_r 0), (1, ov_i x), (2, ov_i y), (3, ov_i n), (4, ov_i b), (5, ov_i w)]) (st2 := [ov_i y, ov_i x, ov_r 70]) (pc2 := 6) b_176_4_2 rfl rfl ?_
    refine ov_cV (as := [ov_i x, ov_i y]) (st := []) (d2 := d - 1) d_176_6 lk_OF_131 rfl (Nat.le_of_ble_eq_true rfl) (c := 9) (zb_70 I) (zs_70 I) ⟨by decide, rfl⟩ (by omega) (c_Town_corner_70 (d - 1) (by omega) U I x y (by omega) (by omega)) ?_
    rintro _ _ _ ⟨v28, rfl, rfl, rfl, f27⟩
    show ov_R u d ov_m176 9 [(0, ov_r 0), (1, ov_i x), (2, ov_i y), (3, ov_i n), (4, ov_i b), (5, ov_i w)] [ov_i v28] z h (P_OF_wave_0 z h x y n b w)
    have f29 : v28 = -1 ∨ (0 ≤ x ∧ x < (h 70 0) ∧ 0 ≤ y ∧ y < (h 70 1) ∧ v28 = y * 6 + x ∧ (h 70 0) ≤ 6 ∧ (h 70 1) ≤ 9) := f27
    clear f27
    refine ov_blk (ls2 := [(0, ov_r 0), (1, ov_i x), (2, ov_i y), (3, ov_i n), (4, ov_i b), (5, ov_i w), (6, ov_i v28)]) (st2 := [ov_i (-1), ov_i v28]) (pc2 := 14) b_176_9_3 rfl rfl ?_
    refine ov_iceq (tgt := 38) d_176_14 (by decide) (by omega) (by omega) (fun c30 => ?_) (fun c30 => ?_)
    · skip
      refine ov_blk (ls2 := [(0, ov_r 0), (1, ov_i x), (2, ov_i y), (3, ov_i n), (4, ov_i b), (5, ov_i w), (6, ov_i v28)]) (st2 := [ov_i (-1)]) (pc2 := 39) b_176_38_1 rfl rfl ?_
      exact ov_reti (st := []) d_176_39 rfl ⟨_, rfl, I, (by show (h 36 7) = (h 36 7) ∧ (h 1 1) = (h 1 1) ∧ (h 90 2) = (h 90 2) ∧ (h 0 10) = (h 0 10) ∧ (h 0 11) = (h 0 11) ∧ (h 0 12) = (h 0 12) ∧ (h 0 13) = (h 0 13) ∧ (h 3 1) = (h 3 1) ∧ (h 36 8) = (h 36 8) ∧ (h 46 3) = (h 46 3) ∧ (h 46 4) = (h 46 4) ∧ (h 49 4) = (h 49 4) ∧ (h 49 5) = (h 49 5); omega)⟩
    · skip
      refine ov_blk (ls2 := [(0, ov_r 0), (1, ov_i x), (2, ov_i y), (3, ov_i n), (4, ov_i b), (5, ov_i w), (6, ov_i v28)]) (st2 := [ov_i 2, ov_i n]) (pc2 := 19) b_176_17_2 rfl rfl ?_
      refine ov_iclt (tgt := 38) d_176_19 (by decide) (by omega) (by omega) (fun c31 => ?_) (fun c31 => ?_)
      · skip
        refine ov_blk (ls2 := [(0, ov_r 0), (1, ov_i x), (2, ov_i y), (3, ov_i n), (4, ov_i b), (5, ov_i w), (6, ov_i v28)]) (st2 := [ov_i (-1)]) (pc2 := 39) b_176_38_1 rfl rfl ?_
        exact ov_reti (st := []) d_176_39 rfl ⟨_, rfl, I, (by show (h 36 7) = (h 36 7) ∧ (h 1 1) = (h 1 1) ∧ (h 90 2) = (h 90 2) ∧ (h 0 10) = (h 0 10) ∧ (h 0 11) = (h 0 11) ∧ (h 0 12) = (h 0 12) ∧ (h 0 13) = (h 0 13) ∧ (h 3 1) = (h 3 1) ∧ (h 36 8) = (h 36 8) ∧ (h 46 3) = (h 46 3) ∧ (h 46 4) = (h 46 4) ∧ (h 49 4) = (h 49 4) ∧ (h 49 5) = (h 49 5); omega)⟩
      · skip
        refine ov_blk (ls2 := [(0, ov_r 0), (1, ov_i x), (2, ov_i y), (3, ov_i n), (4, ov_i b), (5, ov_i w), (6, ov_i v28)]) (st2 := [ov_i 4, ov_i n]) (pc2 := 24) b_176_22_2 rfl rfl ?_
        refine ov_icgt (tgt := 38) d_176_24 (by decide) (by omega) (by omega) (fun c32 => ?_) (fun c32 => ?_)
        · skip
          refine ov_blk (ls2 := [(0, ov_r 0), (1, ov_i x), (2, ov_i y), (3, ov_i n), (4, ov_i b), (5, ov_i w), (6, ov_i v28)]) (st2 := [ov_i (-1)]) (pc2 := 39) b_176_38_1 rfl rfl ?_
          exact ov_reti (st := []) d_176_39 rfl ⟨_, rfl, I, (by show (h 36 7) = (h 36 7) ∧ (h 1 1) = (h 1 1) ∧ (h 90 2) = (h 90 2) ∧ (h 0 10) = (h 0 10) ∧ (h 0 11) = (h 0 11) ∧ (h 0 12) = (h 0 12) ∧ (h 0 13) = (h 0 13) ∧ (h 3 1) = (h 3 1) ∧ (h 36 8) = (h 36 8) ∧ (h 46 3) = (h 46 3) ∧ (h 46 4) = (h 46 4) ∧ (h 49 4) = (h 49 4) ∧ (h 49 5) = (h 49 5); omega)⟩
        · skip
          refine ov_blk (ls2 := [(0, ov_r 0), (1, ov_i x), (2, ov_i y), (3, ov_i n), (4, ov_i b), (5, ov_i w), (6, ov_i v28)]) (st2 := [ov_i w]) (pc2 := 29) b_176_27_1 rfl rfl ?_
          refine ov_iflt (tgt := 38) d_176_29 (by decide) (by omega) (fun c33 => ?_) (fun c33 => ?_)
          · skip
            refine ov_blk (ls2 := [(0, ov_r 0), (1, ov_i x), (2, ov_i y), (3, ov_i n), (4, ov_i b), (5, ov_i w), (6, ov_i v28)]) (st2 := [ov_i (-1)]) (pc2 := 39) b_176_38_1 rfl rfl ?_
            exact ov_reti (st := []) d_176_39 rfl ⟨_, rfl, I, (by show (h 36 7) = (h 36 7) ∧ (h 1 1) = (h 1 1) ∧ (h 90 2) = (h 90 2) ∧ (h 0 10) = (h 0 10) ∧ (h 0 11) = (h 0 11) ∧ (h 0 12) = (h 0 12) ∧ (h 0 13) = (h 0 13) ∧ (h 3 1) = (h 3 1) ∧ (h 36 8) = (h 36 8) ∧ (h 46 3) = (h 46 3) ∧ (h 46 4) = (h 46 4) ∧ (h 49 4) = (h 49 4) ∧ (h 49 5) = (h 49 5); omega)⟩
          · skip
            refine ov_blk (ls2 := [(0, ov_r 0), (1, ov_i x), (2, ov_i y), (3, ov_i n), (4, ov_i b), (5, ov_i w), (6, ov_i v28)]) (st2 := [ov_i n, ov_i w]) (pc2 := 35) b_176_32_2 rfl rfl ?_
            refine ov_iclt (tgt := 40) d_176_35 (by decide) (by omega) (by omega) (fun c34 => ?_) (fun c34 => ?_)
            · skip
              refine ov_blk (ls2 := [(0, ov_r 0), (1, ov_i x), (2, ov_i y), (3, ov_i n), (4, ov_i b), (5, ov_i w), (6, ov_i v28)]) (st2 := [ov_r 0]) (pc2 := 41) b_176_40_1 rfl rfl ?_
              refine ov_getf (v := ov_r 70) d_176_41 fl_OF_78 (zb_0 I) (zs_0 I) (congrArg ov_r e1) ?_
              refine ov_blk (ls2 := [(0, ov_r 0), (1, ov_i x), (2, ov_i y), (3, ov_i n), (4, ov_i b), (5, ov_i w), (6, ov_i v28)]) (st2 := [ov_i ((y + n) - 1), ov_i x, ov_r 70]) (pc2 := 50) b_176_44_6 rfl rfl ?_
              refine ov_cV (as := [ov_i x, ov_i ((y + n) - 1)]) (st := []) (d2 := d - 1) d_176_50 lk_OF_131 rfl (Nat.le_of_ble_eq_true rfl) (c := 9) (zb_70 I) (zs_70 I) ⟨by decide, rfl⟩ (by omega) (c_Town_corner_70 (d - 1) (by omega) U I x ((y + n) - 1) (by omega) (by omega)) ?_
              rintro _ _ _ ⟨v36, rfl, rfl, rfl, f35⟩
              show ov_R u d ov_m176 53 [(0, ov_r 0), (1, ov_i x), (2, ov_i y), (3, ov_i n), (4, ov_i b), (5, ov_i w), (6, ov_i v28)] [ov_i v36] z h (P_OF_wave_0 z h x y n b w)
              have f37 : v36 = -1 ∨ (0 ≤ x ∧ x < (h 70 0) ∧ 0 ≤ ((y + n) - 1) ∧ ((y + n) - 1) < (h 70 1) ∧ v36 = ((y + n) - 1) * 6 + x ∧ (h 70 0) ≤ 6 ∧ (h 70 1) ≤ 9) := f35
              clear f35
              refine ov_blk (ls2 := [(0, ov_r 0), (1, ov_i x), (2, ov_i y), (3, ov_i n), (4, ov_i b), (5, ov_i w), (6, ov_i v28)]) (st2 := [ov_i (-1), ov_i v36]) (pc2 := 54) b_176_53_1 rfl rfl ?_
              refine ov_iceq (tgt := 70) d_176_54 (by decide) (by omega) (by omega) (fun c38 => ?_) (fun c38 => ?_)
              · skip
                refine ov_blk (ls2 := [(0, ov_r 0), (1, ov_i x), (2, ov_i y), (3, ov_i n), (4, ov_i b), (5, ov_i w), (6, ov_i v28)]) (st2 := [ov_i (-1)]) (pc2 := 71) b_176_70_1 rfl rfl ?_
                exact ov_reti (st := []) d_176_71 rfl ⟨_, rfl, I, (by show (h 36 7) = (h 36 7) ∧ (h 1 1) = (h 1 1) ∧ (h 90 2) = (h 90 2) ∧ (h 0 10) = (h 0 10) ∧ (h 0 11) = (h 0 11) ∧ (h 0 12) = (h 0 12) ∧ (h 0 13) = (h 0 13) ∧ (h 3 1) = (h 3 1) ∧ (h 36 8) = (h 36 8) ∧ (h 46 3) = (h 46 3) ∧ (h 46 4) = (h 46 4) ∧ (h 49 4) = (h 49 4) ∧ (h 49 5) = (h 49 5); omega)⟩
              · skip
                refine ov_blk (ls2 := [(0, ov_r 0), (1, ov_i x), (2, ov_i y), (3, ov_i n), (4, ov_i b), (5, ov_i w), (6, ov_i v28)]) (st2 := [ov_r 0]) (pc2 := 58) b_176_57_1 rfl rfl ?_
                refine ov_getf (v := ov_r 70) d_176_58 fl_OF_78 (zb_0 I) (zs_0 I) (congrArg ov_r e1) ?_
                refine ov_blk (ls2 := [(0, ov_r 0), (1, ov_i x), (2, ov_i y), (3, ov_i n), (4, ov_i b), (5, ov_i w), (6, ov_i v28)]) (st2 := [ov_i n, ov_i v28, ov_r 70]) (pc2 := 64) b_176_61_2 rfl rfl ?_
                refine ov_cV (as := [ov_i v28, ov_i n]) (st := []) (d2 := d - 1) d_176_64 lk_OF_280 rfl (Nat.le_of_ble_eq_true rfl) (c := 9) (zb_70 I) (zs_70 I) ⟨by decide, rfl⟩ (by omega) (c_Town_shareRound_70 (d - 1) (by omega) U I v28 n (by omega) (by omega) (by omega) (by omega)) ?_
                rintro _ _ _ ⟨v40, rfl, rfl, rfl, f39⟩
                show ov_R u d ov_m176 67 [(0, ov_r 0), (1, ov_i x), (2, ov_i y), (3, ov_i n), (4, ov_i b), (5, ov_i w), (6, ov_i v28)] [ov_i v40] z h (P_OF_wave_0 z h x y n b w)
                have f41 : (v40 = 0 ∨ v40 = 1) := f39
                clear f39
                refine ov_ifne (tgt := 72) d_176_67 (by decide) (by omega) (fun c42 => ?_) (fun c42 => ?_)
                · skip
                  refine ov_blk (ls2 := [(0, ov_r 0), (1, ov_i x), (2, ov_i y), (3, ov_i n), (4, ov_i b), (5, ov_i w), (6, ov_i v28)]) (st2 := [ov_r 0]) (pc2 := 73) b_176_72_1 rfl rfl ?_
                  refine ov_getf (v := ov_r 54) d_176_73 fl_OF_71 (zb_0 I) (zs_0 I) (congrArg ov_r (rg_0_9 I)) ?_
                  refine ov_blk (ls2 := [(0, ov_r 0), (1, ov_i x), (2, ov_i y), (3, ov_i n), (4, ov_i b), (5, ov_i w), (6, ov_i v28)]) (st2 := [ov_r 0, ov_r 54]) (pc2 := 77) b_176_76_1 rfl rfl ?_
                  refine ov_getf (v := ov_r 70) d_176_77 fl_OF_78 (zb_0 I) (zs_0 I) (congrArg ov_r e1) ?_
                  refine ov_blk (ls2 := [(0, ov_r 0), (1, ov_i x), (2, ov_i y), (3, ov_i n), (4, ov_i b), (5, ov_i w), (6, ov_i v28)]) (st2 := [ov_i b, ov_i n, ov_i v28, ov_r 70, ov_r 54]) (pc2 := 85) b_176_80_3 rfl rfl ?_
                  refine ov_cV (as := [ov_r 70, ov_i v28, ov_i n, ov_i b]) (st := []) (d2 := d - 1) d_176_85 lk_OF_283 rfl (Nat.le_of_ble_eq_true rfl) (c := 11) (zb_54 I) (zs_54 I) ⟨by decide, rfl⟩ (by omega) (c_Wave_solve_54_70 (d - 1) (by omega) U I v28 n b (by omega) (by omega) (by omega) (by omega) (by omega)) ?_
                  rintro _ z44 h45 ⟨rfl, I46, f43⟩
                  show ov_R u d ov_m176 88 [(0, ov_r 0), (1, ov_i x), (2, ov_i y), (3, ov_i n), (4, ov_i b), (5, ov_i w), (6, ov_i v28)] [] z44 h45 (P_OF_wave_0 z h x y n b w)
                  have f47 : (h45 36 7) = (h 36 7) ∧ (h45 1 1) = (h 1 1) ∧ (h45 90 2) = (h 90 2) ∧ (h45 0 10) = (h 0 10) ∧ (h45 0 11) = (h 0 11) ∧ (h45 0 12) = (h 0 12) ∧ (h45 0 13) = (h 0 13) ∧ (h45 3 1) = (h 3 1) ∧ (h45 36 8) = (h 36 8) ∧ (h45 46 3) = (h 46 3) ∧ (h45 46 4) = (h 46 4) ∧ (h45 49 4) = (h 49 4) ∧ (h45 49 5) = (h 49 5) := f43
                  clear f43
                  have e48 : h45 0 10 = 70 := by omega
                  refine ov_blk (ls2 := [(0, ov_r 0), (1, ov_i x), (2, ov_i y), (3, ov_i n), (4, ov_i b), (5, ov_i w), (6, ov_i v28)]) (st2 := [ov_i w]) (pc2 := 90) b_176_88_1 rfl rfl ?_
                  refine ov_ifne (tgt := 103) d_176_90 (by decide) (by omega) (fun c49 => ?_) (fun c49 => ?_)
                  · skip
                    refine ov_blk (ls2 := [(0, ov_r 0), (1, ov_i x), (2, ov_i y), (3, ov_i n), (4, ov_i b), (5, ov_i w), (6, ov_i v28)]) (st2 := [ov_r 0]) (pc2 := 104) b_176_103_1 rfl rfl ?_
                    refine ov_getf (v := ov_r 54) d_176_104 fl_OF_71 (zb_0 I46) (zs_0 I46) (congrArg ov_r (rg_0_9 I46)) ?_
                    refine ov_getf (v := ov_r 55) d_176_107 fl_OF_289 (zb_54 I46) (zs_54 I46) (congrArg ov_r (rg_54_1 I46)) ?_
                    refine ov_blk (ls2 := [(0, ov_r 0), (1, ov_i x), (2, ov_i y), (3, ov_i n), (4, ov_i b), (5, ov_i w), (6, ov_i v28)]) (st2 := [ov_i w, ov_r 55]) (pc2 := 112) b_176_110_1 rfl rfl ?_
                    refine ov_iald d_176_112 (zb_55 I46) (zs_55 I46) (by omega) ?_
                    have g50 := ra_55 I46 w
                    exact ov_reti (st := []) d_176_113 rfl ⟨_, rfl, I46, (by show (h45 36 7) = (h 36 7) ∧ (h45 1 1) = (h 1 1) ∧ (h45 90 2) = (h 90 2) ∧ (h45 0 10) = (h 0 10) ∧ (h45 0 11) = (h 0 11) ∧ (h45 0 12) = (h 0 12) ∧ (h45 0 13) = (h 0 13) ∧ (h45 3 1) = (h 3 1) ∧ (h45 36 8) = (h 36 8) ∧ (h45 46 3) = (h 46 3) ∧ (h45 46 4) = (h 46 4) ∧ (h45 49 4) = (h 49 4) ∧ (h45 49 5) = (h 49 5); omega)⟩
                  · skip
                    refine ov_blk (ls2 := [(0, ov_r 0), (1, ov_i x), (2, ov_i y), (3, ov_i n), (4, ov_i b), (5, ov_i w), (6, ov_i v28)]) (st2 := [ov_r 0]) (pc2 := 94) b_176_93_1 rfl rfl ?_
                    refine ov_getf (v := ov_r 54) d_176_94 fl_OF_71 (zb_0 I46) (zs_0 I46) (congrArg ov_r (rg_0_9 I46)) ?_
                    refine ov_getf (v := ov_i (h45 54 0)) d_176_97 fl_OF_286 (zb_54 I46) (zs_54 I46) rfl ?_
                    have g51 := rg_54_0 I46
                    refine ov_goto (tgt := 113) d_176_100 (by decide) ?_
                    exact ov_reti (st := []) d_176_113 rfl ⟨_, rfl, I46, (by show (h45 36 7) = (h 36 7) ∧ (h45 1 1) = (h 1 1) ∧ (h45 90 2) = (h 90 2) ∧ (h45 0 10) = (h 0 10) ∧ (h45 0 11) = (h 0 11) ∧ (h45 0 12) = (h 0 12) ∧ (h45 0 13) = (h 0 13) ∧ (h45 3 1) = (h 3 1) ∧ (h45 36 8) = (h 36 8) ∧ (h45 46 3) = (h 46 3) ∧ (h45 46 4) = (h 46 4) ∧ (h45 49 4) = (h 49 4) ∧ (h45 49 5) = (h 49 5); omega)⟩
                · skip
                  refine ov_blk (ls2 := [(0, ov_r 0), (1, ov_i x), (2, ov_i y), (3, ov_i n), (4, ov_i b), (5, ov_i w), (6, ov_i v28)]) (st2 := [ov_i (-1)]) (pc2 := 71) b_176_70_1 rfl rfl ?_
                  exact ov_reti (st := []) d_176_71 rfl ⟨_, rfl, I, (by show (h 36 7) = (h 36 7) ∧ (h 1 1) = (h 1 1) ∧ (h 90 2) = (h 90 2) ∧ (h 0 10) = (h 0 10) ∧ (h 0 11) = (h 0 11) ∧ (h 0 12) = (h 0 12) ∧ (h 0 13) = (h 0 13) ∧ (h 3 1) = (h 3 1) ∧ (h 36 8) = (h 36 8) ∧ (h 46 3) = (h 46 3) ∧ (h 46 4) = (h 46 4) ∧ (h 49 4) = (h 49 4) ∧ (h 49 5) = (h 49 5); omega)⟩
            · skip
              refine ov_blk (ls2 := [(0, ov_r 0), (1, ov_i x), (2, ov_i y), (3, ov_i n), (4, ov_i b), (5, ov_i w), (6, ov_i v28)]) (st2 := [ov_i (-1)]) (pc2 := 39) b_176_38_1 rfl rfl ?_
              exact ov_reti (st := []) d_176_39 rfl ⟨_, rfl, I, (by show (h 36 7) = (h 36 7) ∧ (h 1 1) = (h 1 1) ∧ (h 90 2) = (h 90 2) ∧ (h 0 10) = (h 0 10) ∧ (h 0 11) = (h 0 11) ∧ (h 0 12) = (h 0 12) ∧ (h 0 13) = (h 0 13) ∧ (h 3 1) = (h 3 1) ∧ (h 36 8) = (h 36 8) ∧ (h 46 3) = (h 46 3) ∧ (h 46 4) = (h 46 4) ∧ (h 49 4) = (h 49 4) ∧ (h 49 5) = (h 49 5); omega)⟩
abbrev P_OF_rules_0 (z : ov_Z) (h : ov_H)  : Option ov_V → ov_Z → ov_H → Prop := fun r0 z' h' => ∃ r : Int, r0 = some (ov_i r) ∧ ov_I z' h' ∧ ((h' 36 7 = 1 → ¬ h' 36 8 = -1) ∧ h' 1 1 = h 1 1 ∧ h' 90 2 = h 90 2 ∧ h' 0 10 = h 0 10 ∧ h' 0 11 = h 0 11 ∧ h' 0 12 = h 0 12 ∧ h' 0 13 = h 0 13 ∧ h' 3 1 = h 3 1 ∧ h' 46 3 = h 46 3 ∧ h' 46 4 = h 46 4 ∧ h' 49 4 = h 49 4 ∧ h' 49 5 = h 49 5)
set_option maxHeartbeats 4000000 in
theorem c_OF_rules_0 {u : ov_U} {z : ov_Z} {h : ov_H} (d : Nat) (hd : 302 ≤ d) (U : ov_cap u) (I : ov_I z h) (p0 : h 36 7 = 1 → ¬ h 36 8 = -1) : ov_T u d ov_m184 [ov_r 0] z h (P_OF_rules_0 z h) := by
  refine ov_en rfl (Nat.le_of_ble_eq_true rfl) ?_
  show ov_R u d ov_m184 0 [(0, ov_r 0)] [] z h (P_OF_rules_0 z h)
  refine ov_blk (ls2 := [(0, ov_r 0), (1, ov_i (-1)), (2, ov_i (-1)), (3, ov_i 0)]) (st2 := []) (pc2 := 6) b_184_0_6 rfl rfl ?_
  have L4 : ∀ (n1 : Nat) (x1 : Int) (x2 : Int) (x3 : Int) (z5 : ov_Z) (h6 : ov_H) (I7 : ov_I z5 h6) (q3 : ov_g x1 ∧ -1 ≤ x2 ∧ x2 ≤ 4 ∧ 0 ≤ x3 ∧ x3 ≤ 4 ∧ ((h6 36 7) = 1 → ¬ (h6 36 8) = -1) ∧ (h6 1 1) = (h 1 1) ∧ (h6 90 2) = (h 90 2) ∧ (h6 0 10) = (h 0 10) ∧ (h6 0 11) = (h 0 11) ∧ (h6 0 12) = (h 0 12) ∧ (h6 0 13) = (h 0 13) ∧ (h6 3 1) = (h 3 1) ∧ (h6 46 3) = (h 46 3) ∧ (h6 46 4) = (h 46 4) ∧ (h6 49 4) = (h 49 4) ∧ (h6 49 5) = (h 49 5)), 4 - x3 < (n1 : Int) → ov_R u d ov_m184 6 [(0, ov_r 0), (1, ov_i x1), (2, ov_i x2), (3, ov_i x3)] [] z5 h6 (P_OF_rules_0 z h) := by
    intro n1
    induction n1 with
    | zero =>
      intro x1 x2 x3 z5 h6 I7 q3 hn8
      exact absurd hn8 (by omega)
    | succ n1 ih2 =>
      intro x1 x2 x3 z5 h6 I7 q3 hn8
      refine ov_blk (ls2 := [(0, ov_r 0), (1, ov_i x1), (2, ov_i x2), (3, ov_i x3)]) (st2 := [ov_r 0, ov_i x3]) (pc2 := 8) b_184_6_2 rfl rfl ?_
      rcases rg_0_10 I7 with e9 | e9
      · skip
        refine ov_getf (v := ov_r 58) d_184_8 fl_OF_78 (zb_0 I7) (zs_0 I7) (congrArg ov_r e9) ?_
        refine ov_getf (v := ov_i (h6 58 11)) d_184_11 fl_OF_292 (zb_58 I7) (zs_58 I7) rfl ?_
        have g10 := rg_58_11 I7
        refine ov_icge (tgt := 57) d_184_14 (by decide) (by omega) (by omega) (fun c11 => ?_) (fun c11 => ?_)
        · skip
          refine ov_blk (ls2 := [(0, ov_r 0), (1, ov_i x1), (2, ov_i x2), (3, ov_i x3)]) (st2 := [ov_i x2]) (pc2 := 58) b_184_57_1 rfl rfl ?_
          exact ov_reti (st := []) d_184_58 rfl ⟨_, rfl, I7, (by show ((h6 36 7) = 1 → ¬ (h6 36 8) = -1) ∧ (h6 1 1) = (h 1 1) ∧ (h6 90 2) = (h 90 2) ∧ (h6 0 10) = (h 0 10) ∧ (h6 0 11) = (h 0 11) ∧ (h6 0 12) = (h 0 12) ∧ (h6 0 13) = (h 0 13) ∧ (h6 3 1) = (h 3 1) ∧ (h6 46 3) = (h 46 3) ∧ (h6 46 4) = (h 46 4) ∧ (h6 49 4) = (h 49 4) ∧ (h6 49 5) = (h 49 5); omega)⟩
        · skip
          refine ov_blk (ls2 := [(0, ov_r 0), (1, ov_i x1), (2, ov_i x2), (3, ov_i x3)]) (st2 := [ov_i 0, ov_i 0, ov_i 0, ov_i (4 + x3), ov_r 0]) (pc2 := 24) b_184_17_7 rfl rfl ?_
          refine ov_cV (as := [ov_i (4 + x3), ov_i 0, ov_i 0, ov_i 0]) (st := []) (d2 := d - 1) d_184_24 lk_OF_211 rfl (Nat.le_of_ble_eq_true rfl) (c := 0) (zb_0 I7) (zs_0 I7) ⟨by decide, rfl⟩ (by omega) (c_OF_reckoned_0 (d - 1) (by omega) U I7 (4 + x3) 0 0 0 (by omega) (by omega) (by omega) (by omega) (by omega) (by omega)) ?_
          rintro _ z14 h15 ⟨v13, rfl, I16, f12⟩
          show ov_R u d ov_m184 27 [(0, ov_r 0), (1, ov_i x1), (2, ov_i x2), (3, ov_i x3)] [ov_i v13] z14 h15 (P_OF_rules_0 z h)
          have f17 : -2147483648 ≤ v13 ∧ v13 ≤ 2147483647 ∧ ((h15 36 7) = 1 → ¬ (h15 36 8) = -1) ∧ (¬ v13 = -1 → ¬ (h15 36 8) = -1) ∧ (h15 1 1) = (h6 1 1) ∧ (h15 90 2) = (h6 90 2) ∧ (h15 0 10) = (h6 0 10) ∧ (h15 0 11) = (h6 0 11) ∧ (h15 0 12) = (h6 0 12) ∧ (h15 0 13) = (h6 0 13) ∧ (h15 3 1) = (h6 3 1) ∧ (h15 46 3) = (h6 46 3) ∧ (h15 46 4) = (h6 46 4) ∧ (h15 49 4) = (h6 49 4) ∧ (h15 49 5) = (h6 49 5) := f12
          clear f12
          have e18 : h15 0 10 = 58 := by omega
          refine ov_blk (ls2 := [(0, ov_r 0), (1, ov_i x1), (2, ov_i x2), (3, ov_i x3), (4, ov_i v13)]) (st2 := [ov_i (-1), ov_i v13]) (pc2 := 32) b_184_27_3 rfl rfl ?_
          refine ov_iceq (tgt := 51) d_184_32 (by decide) (by omega) (by omega) (fun c19 => ?_) (fun c19 => ?_)
          · skip
            refine ov_blk (ls2 := [(0, ov_r 0), (1, ov_i x1), (2, ov_i x2), (3, ov_i (x3 + 1)), (4, ov_i v13)]) (st2 := []) (pc2 := 54) b_184_51_1 rfl rfl ?_
            refine ov_goto (tgt := 6) d_184_54 (by decide) ?_
            refine ov_sub (ls2 := [(0, ov_r 0), (1, ov_i x1), (2, ov_i x2), (3, ov_i (x3 + 1))]) (List.Sublist.subset (by repeat (first | exact List.Sublist.refl _ | apply List.Sublist.cons_cons | apply List.Sublist.cons))) ?_
            exact ih2 x1 x2 (x3 + 1) _ _ I16 (by show ov_g x1 ∧ -1 ≤ x2 ∧ x2 ≤ 4 ∧ 0 ≤ (x3 + 1) ∧ (x3 + 1) ≤ 4 ∧ ((h15 36 7) = 1 → ¬ (h15 36 8) = -1) ∧ (h15 1 1) = (h 1 1) ∧ (h15 90 2) = (h 90 2) ∧ (h15 0 10) = (h 0 10) ∧ (h15 0 11) = (h 0 11) ∧ (h15 0 12) = (h 0 12) ∧ (h15 0 13) = (h 0 13) ∧ (h15 3 1) = (h 3 1) ∧ (h15 46 3) = (h 46 3) ∧ (h15 46 4) = (h 46 4) ∧ (h15 49 4) = (h 49 4) ∧ (h15 49 5) = (h 49 5); omega) (by omega)
          · skip
            refine ov_blk (ls2 := [(0, ov_r 0), (1, ov_i x1), (2, ov_i x2), (3, ov_i x3), (4, ov_i v13)]) (st2 := [ov_i (-1), ov_i x1]) (pc2 := 37) b_184_35_2 rfl rfl ?_
            refine ov_iceq (tgt := 46) d_184_37 (by decide) (by omega) (by omega) (fun c20 => ?_) (fun c20 => ?_)
            · skip
              refine ov_blk (ls2 := [(0, ov_r 0), (1, ov_i v13), (2, ov_i x3), (3, ov_i (x3 + 1)), (4, ov_i v13)]) (st2 := []) (pc2 := 54) b_184_46_5 rfl rfl ?_
              refine ov_goto (tgt := 6) d_184_54 (by decide) ?_
              refine ov_sub (ls2 := [(0, ov_r 0), (1, ov_i v13), (2, ov_i x3), (3, ov_i (x3 + 1))]) (List.Sublist.subset (by repeat (first | exact List.Sublist.refl _ | apply List.Sublist.cons_cons | apply List.Sublist.cons))) ?_
              exact ih2 v13 x3 (x3 + 1) _ _ I16 (by show ov_g v13 ∧ -1 ≤ x3 ∧ x3 ≤ 4 ∧ 0 ≤ (x3 + 1) ∧ (x3 + 1) ≤ 4 ∧ ((h15 36 7) = 1 → ¬ (h15 36 8) = -1) ∧ (h15 1 1) = (h 1 1) ∧ (h15 90 2) = (h 90 2) ∧ (h15 0 10) = (h 0 10) ∧ (h15 0 11) = (h 0 11) ∧ (h15 0 12) = (h 0 12) ∧ (h15 0 13) = (h 0 13) ∧ (h15 3 1) = (h 3 1) ∧ (h15 46 3) = (h 46 3) ∧ (h15 46 4) = (h 46 4) ∧ (h15 49 4) = (h 49 4) ∧ (h15 49 5) = (h 49 5); omega) (by omega)
            · skip
              refine ov_blk (ls2 := [(0, ov_r 0), (1, ov_i x1), (2, ov_i x2), (3, ov_i x3), (4, ov_i v13)]) (st2 := [ov_i x1, ov_i v13]) (pc2 := 43) b_184_40_2 rfl rfl ?_
              refine ov_icge (tgt := 51) d_184_43 (by decide) (by omega) (by omega) (fun c21 => ?_) (fun c21 => ?_)
              · skip
                refine ov_blk (ls2 := [(0, ov_r 0), (1, ov_i x1), (2, ov_i x2), (3, ov_i (x3 + 1)), (4, ov_i v13)]) (st2 := []) (pc2 := 54) b_184_51_1 rfl rfl ?_
                refine ov_goto (tgt := 6) d_184_54 (by decide) ?_
                refine ov_sub (ls2 := [(0, ov_r 0), (1, ov_i x1), (2, ov_i x2), (3, ov_i (x3 + 1))]) (List.Sublist.subset (by repeat (first | exact List.Sublist.refl _ | apply List.Sublist.cons_cons | apply List.Sublist.cons))) ?_
                exact ih2 x1 x2 (x3 + 1) _ _ I16 (by show ov_g x1 ∧ -1 ≤ x2 ∧ x2 ≤ 4 ∧ 0 ≤ (x3 + 1) ∧ (x3 + 1) ≤ 4 ∧ ((h15 36 7) = 1 → ¬ (h15 36 8) = -1) ∧ (h15 1 1) = (h 1 1) ∧ (h15 90 2) = (h 90 2) ∧ (h15 0 10) = (h 0 10) ∧ (h15 0 11) = (h 0 11) ∧ (h15 0 12) = (h 0 12) ∧ (h15 0 13) = (h 0 13) ∧ (h15 3 1) = (h 3 1) ∧ (h15 46 3) = (h 46 3) ∧ (h15 46 4) = (h 46 4) ∧ (h15 49 4) = (h 49 4) ∧ (h15 49 5) = (h 49 5); omega) (by omega)
              · skip
                refine ov_blk (ls2 := [(0, ov_r 0), (1, ov_i v13), (2, ov_i x3), (3, ov_i (x3 + 1)), (4, ov_i v13)]) (st2 := []) (pc2 := 54) b_184_46_5 rfl rfl ?_
                refine ov_goto (tgt := 6) d_184_54 (by decide) ?_
                refine ov_sub (ls2 := [(0, ov_r 0), (1, ov_i v13), (2, ov_i x3), (3, ov_i (x3 + 1))]) (List.Sublist.subset (by repeat (first | exact List.Sublist.refl _ | apply List.Sublist.cons_cons | apply List.Sublist.cons))) ?_
                exact ih2 v13 x3 (x3 + 1) _ _ I16 (by show ov_g v13 ∧ -1 ≤ x3 ∧ x3 ≤ 4 ∧ 0 ≤ (x3 + 1) ∧ (x3 + 1) ≤ 4 ∧ ((h15 36 7) = 1 → ¬ (h15 36 8) = -1) ∧ (h15 1 1) = (h 1 1) ∧ (h15 90 2) = (h 90 2) ∧ (h15 0 10) = (h 0 10) ∧ (h15 0 11) = (h 0 11) ∧ (h15 0 12) = (h 0 12) ∧ (h15 0 13) = (h 0 13) ∧ (h15 3 1) = (h 3 1) ∧ (h15 46 3) = (h 46 3) ∧ (h15 46 4) = (h 46 4) ∧ (h15 49 4) = (h 49 4) ∧ (h15 49 5) = (h 49 5); omega) (by omega)
      · skip
        refine ov_getf (v := ov_r 70) d_184_8 fl_OF_78 (zb_0 I7) (zs_0 I7) (congrArg ov_r e9) ?_
        refine ov_getf (v := ov_i (h6 70 11)) d_184_11 fl_OF_292 (zb_70 I7) (zs_70 I7) rfl ?_
        have g22 := rg_70_11 I7
        refine ov_icge (tgt := 57) d_184_14 (by decide) (by omega) (by omega) (fun c23 => ?_) (fun c23 => ?_)
        · skip
          refine ov_blk (ls2 := [(0, ov_r 0), (1, ov_i x1), (2, ov_i x2), (3, ov_i x3)]) (st2 := [ov_i x2]) (pc2 := 58) b_184_57_1 rfl rfl ?_
          exact ov_reti (st := []) d_184_58 rfl ⟨_, rfl, I7, (by show ((h6 36 7) = 1 → ¬ (h6 36 8) = -1) ∧ (h6 1 1) = (h 1 1) ∧ (h6 90 2) = (h 90 2) ∧ (h6 0 10) = (h 0 10) ∧ (h6 0 11) = (h 0 11) ∧ (h6 0 12) = (h 0 12) ∧ (h6 0 13) = (h 0 13) ∧ (h6 3 1) = (h 3 1) ∧ (h6 46 3) = (h 46 3) ∧ (h6 46 4) = (h 46 4) ∧ (h6 49 4) = (h 49 4) ∧ (h6 49 5) = (h 49 5); omega)⟩
        · skip
          refine ov_blk (ls2 := [(0, ov_r 0), (1, ov_i x1), (2, ov_i x2), (3, ov_i x3)]) (st2 := [ov_i 0, ov_i 0, ov_i 0, ov_i (4 + x3), ov_r 0]) (pc2 := 24) b_184_17_7 rfl rfl ?_
          refine ov_cV (as := [ov_i (4 + x3), ov_i 0, ov_i 0, ov_i 0]) (st := []) (d2 := d - 1) d_184_24 lk_OF_211 rfl (Nat.le_of_ble_eq_true rfl) (c := 0) (zb_0 I7) (zs_0 I7) ⟨by decide, rfl⟩ (by omega) (c_OF_reckoned_0 (d - 1) (by omega) U I7 (4 + x3) 0 0 0 (by omega) (by omega) (by omega) (by omega) (by omega) (by omega)) ?_
          rintro _ z26 h27 ⟨v25, rfl, I28, f24⟩
          show ov_R u d ov_m184 27 [(0, ov_r 0), (1, ov_i x1), (2, ov_i x2), (3, ov_i x3)] [ov_i v25] z26 h27 (P_OF_rules_0 z h)
          have f29 : -2147483648 ≤ v25 ∧ v25 ≤ 2147483647 ∧ ((h27 36 7) = 1 → ¬ (h27 36 8) = -1) ∧ (¬ v25 = -1 → ¬ (h27 36 8) = -1) ∧ (h27 1 1) = (h6 1 1) ∧ (h27 90 2) = (h6 90 2) ∧ (h27 0 10) = (h6 0 10) ∧ (h27 0 11) = (h6 0 11) ∧ (h27 0 12) = (h6 0 12) ∧ (h27 0 13) = (h6 0 13) ∧ (h27 3 1) = (h6 3 1) ∧ (h27 46 3) = (h6 46 3) ∧ (h27 46 4) = (h6 46 4) ∧ (h27 49 4) = (h6 49 4) ∧ (h27 49 5) = (h6 49 5) := f24
          clear f24
          have e30 : h27 0 10 = 70 := by omega
          refine ov_blk (ls2 := [(0, ov_r 0), (1, ov_i x1), (2, ov_i x2), (3, ov_i x3), (4, ov_i v25)]) (st2 := [ov_i (-1), ov_i v25]) (pc2 := 32) b_184_27_3 rfl rfl ?_
          refine ov_iceq (tgt := 51) d_184_32 (by decide) (by omega) (by omega) (fun c31 => ?_) (fun c31 => ?_)
          · skip
            refine ov_blk (ls2 := [(0, ov_r 0), (1, ov_i x1), (2, ov_i x2), (3, ov_i (x3 + 1)), (4, ov_i v25)]) (st2 := []) (pc2 := 54) b_184_51_1 rfl rfl ?_
            refine ov_goto (tgt := 6) d_184_54 (by decide) ?_
            refine ov_sub (ls2 := [(0, ov_r 0), (1, ov_i x1), (2, ov_i x2), (3, ov_i (x3 + 1))]) (List.Sublist.subset (by repeat (first | exact List.Sublist.refl _ | apply List.Sublist.cons_cons | apply List.Sublist.cons))) ?_
            exact ih2 x1 x2 (x3 + 1) _ _ I28 (by show ov_g x1 ∧ -1 ≤ x2 ∧ x2 ≤ 4 ∧ 0 ≤ (x3 + 1) ∧ (x3 + 1) ≤ 4 ∧ ((h27 36 7) = 1 → ¬ (h27 36 8) = -1) ∧ (h27 1 1) = (h 1 1) ∧ (h27 90 2) = (h 90 2) ∧ (h27 0 10) = (h 0 10) ∧ (h27 0 11) = (h 0 11) ∧ (h27 0 12) = (h 0 12) ∧ (h27 0 13) = (h 0 13) ∧ (h27 3 1) = (h 3 1) ∧ (h27 46 3) = (h 46 3) ∧ (h27 46 4) = (h 46 4) ∧ (h27 49 4) = (h 49 4) ∧ (h27 49 5) = (h 49 5); omega) (by omega)
          · skip
            refine ov_blk (ls2 := [(0, ov_r 0), (1, ov_i x1), (2, ov_i x2), (3, ov_i x3), (4, ov_i v25)]) (st2 := [ov_i (-1), ov_i x1]) (pc2 := 37) b_184_35_2 rfl rfl ?_
            refine ov_iceq (tgt := 46) d_184_37 (by decide) (by omega) (by omega) (fun c32 => ?_) (fun c32 => ?_)
            · skip
              refine ov_blk (ls2 := [(0, ov_r 0), (1, ov_i v25), (2, ov_i x3), (3, ov_i (x3 + 1)), (4, ov_i v25)]) (st2 := []) (pc2 := 54) b_184_46_5 rfl rfl ?_
              refine ov_goto (tgt := 6) d_184_54 (by decide) ?_
              refine ov_sub (ls2 := [(0, ov_r 0), (1, ov_i v25), (2, ov_i x3), (3, ov_i (x3 + 1))]) (List.Sublist.subset (by repeat (first | exact List.Sublist.refl _ | apply List.Sublist.cons_cons | apply List.Sublist.cons))) ?_
              exact ih2 v25 x3 (x3 + 1) _ _ I28 (by show ov_g v25 ∧ -1 ≤ x3 ∧ x3 ≤ 4 ∧ 0 ≤ (x3 + 1) ∧ (x3 + 1) ≤ 4 ∧ ((h27 36 7) = 1 → ¬ (h27 36 8) = -1) ∧ (h27 1 1) = (h 1 1) ∧ (h27 90 2) = (h 90 2) ∧ (h27 0 10) = (h 0 10) ∧ (h27 0 11) = (h 0 11) ∧ (h27 0 12) = (h 0 12) ∧ (h27 0 13) = (h 0 13) ∧ (h27 3 1) = (h 3 1) ∧ (h27 46 3) = (h 46 3) ∧ (h27 46 4) = (h 46 4) ∧ (h27 49 4) = (h 49 4) ∧ (h27 49 5) = (h 49 5); omega) (by omega)
            · skip
              refine ov_blk (ls2 := [(0, ov_r 0), (1, ov_i x1), (2, ov_i x2), (3, ov_i x3), (4, ov_i v25)]) (st2 := [ov_i x1, ov_i v25]) (pc2 := 43) b_184_40_2 rfl rfl ?_
              refine ov_icge (tgt := 51) d_184_43 (by decide) (by omega) (by omega) (fun c33 => ?_) (fun c33 => ?_)
              · skip
                refine ov_blk (ls2 := [(0, ov_r 0), (1, ov_i x1), (2, ov_i x2), (3, ov_i (x3 + 1)), (4, ov_i v25)]) (st2 := []) (pc2 := 54) b_184_51_1 rfl rfl ?_
                refine ov_goto (tgt := 6) d_184_54 (by decide) ?_
                refine ov_sub (ls2 := [(0, ov_r 0), (1, ov_i x1), (2, ov_i x2), (3, ov_i (x3 + 1))]) (List.Sublist.subset (by repeat (first | exact List.Sublist.refl _ | apply List.Sublist.cons_cons | apply List.Sublist.cons))) ?_
                exact ih2 x1 x2 (x3 + 1) _ _ I28 (by show ov_g x1 ∧ -1 ≤ x2 ∧ x2 ≤ 4 ∧ 0 ≤ (x3 + 1) ∧ (x3 + 1) ≤ 4 ∧ ((h27 36 7) = 1 → ¬ (h27 36 8) = -1) ∧ (h27 1 1) = (h 1 1) ∧ (h27 90 2) = (h 90 2) ∧ (h27 0 10) = (h 0 10) ∧ (h27 0 11) = (h 0 11) ∧ (h27 0 12) = (h 0 12) ∧ (h27 0 13) = (h 0 13) ∧ (h27 3 1) = (h 3 1) ∧ (h27 46 3) = (h 46 3) ∧ (h27 46 4) = (h 46 4) ∧ (h27 49 4) = (h 49 4) ∧ (h27 49 5) = (h 49 5); omega) (by omega)
              · skip
                refine ov_blk (ls2 := [(0, ov_r 0), (1, ov_i v25), (2, ov_i x3), (3, ov_i (x3 + 1)), (4, ov_i v25)]) (st2 := []) (pc2 := 54) b_184_46_5 rfl rfl ?_
                refine ov_goto (tgt := 6) d_184_54 (by decide) ?_
                refine ov_sub (ls2 := [(0, ov_r 0), (1, ov_i v25), (2, ov_i x3), (3, ov_i (x3 + 1))]) (List.Sublist.subset (by repeat (first | exact List.Sublist.refl _ | apply List.Sublist.cons_cons | apply List.Sublist.cons))) ?_
                exact ih2 v25 x3 (x3 + 1) _ _ I28 (by show ov_g v25 ∧ -1 ≤ x3 ∧ x3 ≤ 4 ∧ 0 ≤ (x3 + 1) ∧ (x3 + 1) ≤ 4 ∧ ((h27 36 7) = 1 → ¬ (h27 36 8) = -1) ∧ (h27 1 1) = (h 1 1) ∧ (h27 90 2) = (h 90 2) ∧ (h27 0 10) = (h 0 10) ∧ (h27 0 11) = (h 0 11) ∧ (h27 0 12) = (h 0 12) ∧ (h27 0 13) = (h 0 13) ∧ (h27 3 1) = (h 3 1) ∧ (h27 46 3) = (h 46 3) ∧ (h27 46 4) = (h 46 4) ∧ (h27 49 4) = (h 49 4) ∧ (h27 49 5) = (h 49 5); omega) (by omega)
  exact L4 5 (-1) (-1) 0 _ _ I (by show ov_g (-1) ∧ -1 ≤ (-1) ∧ (-1) ≤ 4 ∧ 0 ≤ 0 ∧ 0 ≤ 4 ∧ ((h 36 7) = 1 → ¬ (h 36 8) = -1) ∧ (h 1 1) = (h 1 1) ∧ (h 90 2) = (h 90 2) ∧ (h 0 10) = (h 0 10) ∧ (h 0 11) = (h 0 11) ∧ (h 0 12) = (h 0 12) ∧ (h 0 13) = (h 0 13) ∧ (h 3 1) = (h 3 1) ∧ (h 46 3) = (h 46 3) ∧ (h 46 4) = (h 46 4) ∧ (h 49 4) = (h 49 4) ∧ (h 49 5) = (h 49 5); omega) (by omega)
abbrev P_OF_was_0 (z : ov_Z) (h : ov_H) (x : Int) (y : Int) (s : Int) : Option ov_V → ov_Z → ov_H → Prop := fun r0 z' h' => ∃ r : Int, r0 = some (ov_i r) ∧ ov_I z' h' ∧ ((r = 0 ∨ r = 1) ∧ h' 36 7 = h 36 7 ∧ h' 1 1 = h 1 1 ∧ h' 90 2 = h 90 2 ∧ h' 0 10 = h 0 10 ∧ h' 0 11 = h 0 11 ∧ h' 0 12 = h 0 12 ∧ h' 0 13 = h 0 13 ∧ h' 3 1 = h 3 1 ∧ h' 36 8 = h 36 8 ∧ h' 46 3 = h 46 3 ∧ h' 46 4 = h 46 4 ∧ h' 49 4 = h 49 4 ∧ h' 49 5 = h 49 5)
set_option maxHeartbeats 4000000 in
theorem c_OF_was_0 {u : ov_U} {z : ov_Z} {h : ov_H} (d : Nat) (hd : 1 ≤ d) (U : ov_cap u) (I : ov_I z h) (x : Int) (y : Int) (s : Int) (g_x : ov_g x) (g_y : ov_g y) (g_s : ov_g s) : ov_T u d ov_m185 [ov_r 0, ov_i x, ov_i y, ov_i s] z h (P_OF_was_0 z h x y s) := by
  refine ov_en rfl (Nat.le_of_ble_eq_true rfl) ?_
  show ov_R u d ov_m185 0 [(0, ov_r 0), (1, ov_i x), (2, ov_i y), (3, ov_i s)] [] z h (P_OF_was_0 z h x y s)
  refine ov_blk (ls2 := [(0, ov_r 0), (1, ov_i x), (2, ov_i y), (3, ov_i s)]) (st2 := [ov_r 0]) (pc2 := 1) b_185_0_1 rfl rfl ?_
  rcases rg_0_10 I with e1 | e1
  · skip
    refine ov_getf (v := ov_r 58) d_185_1 fl_OF_78 (zb_0 I) (zs_0 I) (congrArg ov_r e1) ?_
    refine ov_blk (ls2 := [(0, ov_r 0), (1, ov_i x), (2, ov_i y), (3, ov_i s)]) (st2 := [ov_i y, ov_i x, ov_r 58]) (pc2 := 6) b_185_4_2 rfl rfl ?_
    refine ov_cV (as := [ov_i x, ov_i y]) (st := []) (d2 := d - 1) d_185_6 lk_OF_131 rfl (Nat.le_of_ble_eq_true rfl) (c := 9) (zb_58 I) (zs_58 I) ⟨by decide, rfl⟩ (by omega) (c_Town_corner_58 (d - 1) (by omega) U I x y (by omega) (by omega)) ?_
    rintro _ _ _ ⟨v3, rfl, rfl, rfl, f2⟩
    show ov_R u d ov_m185 9 [(0, ov_r 0), (1, ov_i x), (2, ov_i y), (3, ov_i s)] [ov_i v3] z h (P_OF_was_0 z h x y s)
    have f4 : v3 = -1 ∨ (0 ≤ x ∧ x < (h 58 0) ∧ 0 ≤ y ∧ y < (h 58 1) ∧ v3 = y * 6 + x ∧ (h 58 0) ≤ 6 ∧ (h 58 1) ≤ 9) := f2
    clear f2
    refine ov_blk (ls2 := [(0, ov_r 0), (1, ov_i x), (2, ov_i y), (3, ov_i s), (4, ov_i v3)]) (st2 := [ov_i (-1), ov_i v3]) (pc2 := 14) b_185_9_3 rfl rfl ?_
    refine ov_iceq (tgt := 28) d_185_14 (by decide) (by omega) (by omega) (fun c5 => ?_) (fun c5 => ?_)
    · skip
      refine ov_blk (ls2 := [(0, ov_r 0), (1, ov_i x), (2, ov_i y), (3, ov_i s), (4, ov_i v3)]) (st2 := [ov_i 0]) (pc2 := 29) b_185_28_1 rfl rfl ?_
      exact ov_retz (st := []) d_185_29 rfl (by omega) ⟨_, rfl, I, (by show (0 = 0 ∨ 0 = 1) ∧ (h 36 7) = (h 36 7) ∧ (h 1 1) = (h 1 1) ∧ (h 90 2) = (h 90 2) ∧ (h 0 10) = (h 0 10) ∧ (h 0 11) = (h 0 11) ∧ (h 0 12) = (h 0 12) ∧ (h 0 13) = (h 0 13) ∧ (h 3 1) = (h 3 1) ∧ (h 36 8) = (h 36 8) ∧ (h 46 3) = (h 46 3) ∧ (h 46 4) = (h 46 4) ∧ (h 49 4) = (h 49 4) ∧ (h 49 5) = (h 49 5); omega)⟩
    · skip
      refine ov_blk (ls2 := [(0, ov_r 0), (1, ov_i x), (2, ov_i y), (3, ov_i s), (4, ov_i v3)]) (st2 := [ov_i s]) (pc2 := 18) b_185_17_1 rfl rfl ?_
      refine ov_iflt (tgt := 28) d_185_18 (by decide) (by omega) (fun c6 => ?_) (fun c6 => ?_)
      · skip
        refine ov_blk (ls2 := [(0, ov_r 0), (1, ov_i x), (2, ov_i y), (3, ov_i s), (4, ov_i v3)]) (st2 := [ov_i 0]) (pc2 := 29) b_185_28_1 rfl rfl ?_
        exact ov_retz (st := []) d_185_29 rfl (by omega) ⟨_, rfl, I, (by show (0 = 0 ∨ 0 = 1) ∧ (h 36 7) = (h 36 7) ∧ (h 1 1) = (h 1 1) ∧ (h 90 2) = (h 90 2) ∧ (h 0 10) = (h 0 10) ∧ (h 0 11) = (h 0 11) ∧ (h 0 12) = (h 0 12) ∧ (h 0 13) = (h 0 13) ∧ (h 3 1) = (h 3 1) ∧ (h 36 8) = (h 36 8) ∧ (h 46 3) = (h 46 3) ∧ (h 46 4) = (h 46 4) ∧ (h 49 4) = (h 49 4) ∧ (h 49 5) = (h 49 5); omega)⟩
      · skip
        refine ov_blk (ls2 := [(0, ov_r 0), (1, ov_i x), (2, ov_i y), (3, ov_i s), (4, ov_i v3)]) (st2 := [ov_i 9999, ov_i s]) (pc2 := 25) b_185_21_2 rfl rfl ?_
        refine ov_icle (tgt := 30) d_185_25 (by decide) (by omega) (by omega) (fun c7 => ?_) (fun c7 => ?_)
        · skip
          refine ov_blk (ls2 := [(0, ov_r 0), (1, ov_i x), (2, ov_i y), (3, ov_i s), (4, ov_i v3)]) (st2 := [ov_r 0]) (pc2 := 31) b_185_30_1 rfl rfl ?_
          refine ov_getf (v := ov_r 4) d_185_31 fl_OF_28 (zb_0 I) (zs_0 I) (congrArg ov_r (rg_0_2 I)) ?_
          refine ov_blk (ls2 := [(0, ov_r 0), (1, ov_i x), (2, ov_i y), (3, ov_i s), (4, ov_i v3)]) (st2 := [ov_i s, ov_i v3, ov_r 4]) (pc2 := 37) b_185_34_2 rfl rfl ?_
          refine ov_cV (as := [ov_i v3, ov_i s]) (st := []) (d2 := d - 1) d_185_37 lk_OF_295 rfl (Nat.le_of_ble_eq_true rfl) (c := 7) (zb_4 I) (zs_4 I) ⟨by decide, rfl⟩ (by omega) (c_State_addSighting_4 (d - 1) (by omega) U I v3 s (by omega) (by omega)) ?_
          rintro _ z10 h11 ⟨v9, rfl, I12, f8⟩
          show ov_R u d ov_m185 40 [(0, ov_r 0), (1, ov_i x), (2, ov_i y), (3, ov_i s), (4, ov_i v3)] [ov_i v9] z10 h11 (P_OF_was_0 z h x y s)
          have f13 : (v9 = 0 ∨ v9 = 1) ∧ (h11 36 7) = (h 36 7) ∧ (h11 1 1) = (h 1 1) ∧ (h11 90 2) = (h 90 2) ∧ (h11 0 10) = (h 0 10) ∧ (h11 0 11) = (h 0 11) ∧ (h11 0 12) = (h 0 12) ∧ (h11 0 13) = (h 0 13) ∧ (h11 3 1) = (h 3 1) ∧ (h11 36 8) = (h 36 8) ∧ (h11 46 3) = (h 46 3) ∧ (h11 46 4) = (h 46 4) ∧ (h11 49 4) = (h 49 4) ∧ (h11 49 5) = (h 49 5) := f8
          clear f8
          have e14 : h11 0 10 = 58 := by omega
          exact ov_retz (st := []) d_185_40 rfl (by omega) ⟨_, rfl, I12, (by show (v9 = 0 ∨ v9 = 1) ∧ (h11 36 7) = (h 36 7) ∧ (h11 1 1) = (h 1 1) ∧ (h11 90 2) = (h 90 2) ∧ (h11 0 10) = (h 0 10) ∧ (h11 0 11) = (h 0 11) ∧ (h11 0 12) = (h 0 12) ∧ (h11 0 13) = (h 0 13) ∧ (h11 3 1) = (h 3 1) ∧ (h11 36 8) = (h 36 8) ∧ (h11 46 3) = (h 46 3) ∧ (h11 46 4) = (h 46 4) ∧ (h11 49 4) = (h 49 4) ∧ (h11 49 5) = (h 49 5); omega)⟩
        · skip
          refine ov_blk (ls2 := [(0, ov_r 0), (1, ov_i x), (2, ov_i y), (3, ov_i s), (4, ov_i v3)]) (st2 := [ov_i 0]) (pc2 := 29) b_185_28_1 rfl rfl ?_
          exact ov_retz (st := []) d_185_29 rfl (by omega) ⟨_, rfl, I, (by show (0 = 0 ∨ 0 = 1) ∧ (h 36 7) = (h 36 7) ∧ (h 1 1) = (h 1 1) ∧ (h 90 2) = (h 90 2) ∧ (h 0 10) = (h 0 10) ∧ (h 0 11) = (h 0 11) ∧ (h 0 12) = (h 0 12) ∧ (h 0 13) = (h 0 13) ∧ (h 3 1) = (h 3 1) ∧ (h 36 8) = (h 36 8) ∧ (h 46 3) = (h 46 3) ∧ (h 46 4) = (h 46 4) ∧ (h 49 4) = (h 49 4) ∧ (h 49 5) = (h 49 5); omega)⟩
  · skip
    refine ov_getf (v := ov_r 70) d_185_1 fl_OF_78 (zb_0 I) (zs_0 I) (congrArg ov_r e1) ?_
    refine ov_blk (ls2 := [(0, ov_r 0), (1, ov_i x), (2, ov_i y), (3, ov_i s)]) (st2 := [ov_i y, ov_i x, ov_r 70]) (pc2 := 6) b_185_4_2 rfl rfl ?_
    refine ov_cV (as := [ov_i x, ov_i y]) (st := []) (d2 := d - 1) d_185_6 lk_OF_131 rfl (Nat.le_of_ble_eq_true rfl) (c := 9) (zb_70 I) (zs_70 I) ⟨by decide, rfl⟩ (by omega) (c_Town_corner_70 (d - 1) (by omega) U I x y (by omega) (by omega)) ?_
    rintro _ _ _ ⟨v16, rfl, rfl, rfl, f15⟩
    show ov_R u d ov_m185 9 [(0, ov_r 0), (1, ov_i x), (2, ov_i y), (3, ov_i s)] [ov_i v16] z h (P_OF_was_0 z h x y s)
    have f17 : v16 = -1 ∨ (0 ≤ x ∧ x < (h 70 0) ∧ 0 ≤ y ∧ y < (h 70 1) ∧ v16 = y * 6 + x ∧ (h 70 0) ≤ 6 ∧ (h 70 1) ≤ 9) := f15
    clear f15
    refine ov_blk (ls2 := [(0, ov_r 0), (1, ov_i x), (2, ov_i y), (3, ov_i s), (4, ov_i v16)]) (st2 := [ov_i (-1), ov_i v16]) (pc2 := 14) b_185_9_3 rfl rfl ?_
    refine ov_iceq (tgt := 28) d_185_14 (by decide) (by omega) (by omega) (fun c18 => ?_) (fun c18 => ?_)
    · skip
      refine ov_blk (ls2 := [(0, ov_r 0), (1, ov_i x), (2, ov_i y), (3, ov_i s), (4, ov_i v16)]) (st2 := [ov_i 0]) (pc2 := 29) b_185_28_1 rfl rfl ?_
      exact ov_retz (st := []) d_185_29 rfl (by omega) ⟨_, rfl, I, (by show (0 = 0 ∨ 0 = 1) ∧ (h 36 7) = (h 36 7) ∧ (h 1 1) = (h 1 1) ∧ (h 90 2) = (h 90 2) ∧ (h 0 10) = (h 0 10) ∧ (h 0 11) = (h 0 11) ∧ (h 0 12) = (h 0 12) ∧ (h 0 13) = (h 0 13) ∧ (h 3 1) = (h 3 1) ∧ (h 36 8) = (h 36 8) ∧ (h 46 3) = (h 46 3) ∧ (h 46 4) = (h 46 4) ∧ (h 49 4) = (h 49 4) ∧ (h 49 5) = (h 49 5); omega)⟩
    · skip
      refine ov_blk (ls2 := [(0, ov_r 0), (1, ov_i x), (2, ov_i y), (3, ov_i s), (4, ov_i v16)]) (st2 := [ov_i s]) (pc2 := 18) b_185_17_1 rfl rfl ?_
      refine ov_iflt (tgt := 28) d_185_18 (by decide) (by omega) (fun c19 => ?_) (fun c19 => ?_)
      · skip
        refine ov_blk (ls2 := [(0, ov_r 0), (1, ov_i x), (2, ov_i y), (3, ov_i s), (4, ov_i v16)]) (st2 := [ov_i 0]) (pc2 := 29) b_185_28_1 rfl rfl ?_
        exact ov_retz (st := []) d_185_29 rfl (by omega) ⟨_, rfl, I, (by show (0 = 0 ∨ 0 = 1) ∧ (h 36 7) = (h 36 7) ∧ (h 1 1) = (h 1 1) ∧ (h 90 2) = (h 90 2) ∧ (h 0 10) = (h 0 10) ∧ (h 0 11) = (h 0 11) ∧ (h 0 12) = (h 0 12) ∧ (h 0 13) = (h 0 13) ∧ (h 3 1) = (h 3 1) ∧ (h 36 8) = (h 36 8) ∧ (h 46 3) = (h 46 3) ∧ (h 46 4) = (h 46 4) ∧ (h 49 4) = (h 49 4) ∧ (h 49 5) = (h 49 5); omega)⟩
      · skip
        refine ov_blk (ls2 := [(0, ov_r 0), (1, ov_i x), (2, ov_i y), (3, ov_i s), (4, ov_i v16)]) (st2 := [ov_i 9999, ov_i s]) (pc2 := 25) b_185_21_2 rfl rfl ?_
        refine ov_icle (tgt := 30) d_185_25 (by decide) (by omega) (by omega) (fun c20 => ?_) (fun c20 => ?_)
        · skip
          refine ov_blk (ls2 := [(0, ov_r 0), (1, ov_i x), (2, ov_i y), (3, ov_i s), (4, ov_i v16)]) (st2 := [ov_r 0]) (pc2 := 31) b_185_30_1 rfl rfl ?_
          refine ov_getf (v := ov_r 4) d_185_31 fl_OF_28 (zb_0 I) (zs_0 I) (congrArg ov_r (rg_0_2 I)) ?_
          refine ov_blk (ls2 := [(0, ov_r 0), (1, ov_i x), (2, ov_i y), (3, ov_i s), (4, ov_i v16)]) (st2 := [ov_i s, ov_i v16, ov_r 4]) (pc2 := 37) b_185_34_2 rfl rfl ?_
          refine ov_cV (as := [ov_i v16, ov_i s]) (st := []) (d2 := d - 1) d_185_37 lk_OF_295 rfl (Nat.le_of_ble_eq_true rfl) (c := 7) (zb_4 I) (zs_4 I) ⟨by decide, rfl⟩ (by omega) (c_State_addSighting_4 (d - 1) (by omega) U I v16 s (by omega) (by omega)) ?_
          rintro _ z23 h24 ⟨v22, rfl, I25, f21⟩
          show ov_R u d ov_m185 40 [(0, ov_r 0), (1, ov_i x), (2, ov_i y), (3, ov_i s), (4, ov_i v16)] [ov_i v22] z23 h24 (P_OF_was_0 z h x y s)
          have f26 : (v22 = 0 ∨ v22 = 1) ∧ (h24 36 7) = (h 36 7) ∧ (h24 1 1) = (h 1 1) ∧ (h24 90 2) = (h 90 2) ∧ (h24 0 10) = (h 0 10) ∧ (h24 0 11) = (h 0 11) ∧ (h24 0 12) = (h 0 12) ∧ (h24 0 13) = (h 0 13) ∧ (h24 3 1) = (h 3 1) ∧ (h24 36 8) = (h 36 8) ∧ (h24 46 3) = (h 46 3) ∧ (h24 46 4) = (h 46 4) ∧ (h24 49 4) = (h 49 4) ∧ (h24 49 5) = (h 49 5) := f21
          clear f21
          have e27 : h24 0 10 = 70 := by omega
          exact ov_retz (st := []) d_185_40 rfl (by omega) ⟨_, rfl, I25, (by show (v22 = 0 ∨ v22 = 1) ∧ (h24 36 7) = (h 36 7) ∧ (h24 1 1) = (h 1 1) ∧ (h24 90 2) = (h 90 2) ∧ (h24 0 10) = (h 0 10) ∧ (h24 0 11) = (h 0 11) ∧ (h24 0 12) = (h 0 12) ∧ (h24 0 13) = (h 0 13) ∧ (h24 3 1) = (h 3 1) ∧ (h24 36 8) = (h 36 8) ∧ (h24 46 3) = (h 46 3) ∧ (h24 46 4) = (h 46 4) ∧ (h24 49 4) = (h 49 4) ∧ (h24 49 5) = (h 49 5); omega)⟩
        · skip
          refine ov_blk (ls2 := [(0, ov_r 0), (1, ov_i x), (2, ov_i y), (3, ov_i s), (4, ov_i v16)]) (st2 := [ov_i 0]) (pc2 := 29) b_185_28_1 rfl rfl ?_
          exact ov_retz (st := []) d_185_29 rfl (by omega) ⟨_, rfl, I, (by show (0 = 0 ∨ 0 = 1) ∧ (h 36 7) = (h 36 7) ∧ (h 1 1) = (h 1 1) ∧ (h 90 2) = (h 90 2) ∧ (h 0 10) = (h 0 10) ∧ (h 0 11) = (h 0 11) ∧ (h 0 12) = (h 0 12) ∧ (h 0 13) = (h 0 13) ∧ (h 3 1) = (h 3 1) ∧ (h 36 8) = (h 36 8) ∧ (h 46 3) = (h 46 3) ∧ (h 46 4) = (h 46 4) ∧ (h 49 4) = (h 49 4) ∧ (h 49 5) = (h 49 5); omega)⟩
abbrev P_OF_fits_0 (z : ov_Z) (h : ov_H) (w : Int) : Option ov_V → ov_Z → ov_H → Prop := fun r0 z' h' => ∃ r : Int, r0 = some (ov_l r) ∧ ov_I z' h' ∧ (h' 36 7 = h 36 7 ∧ h' 1 1 = h 1 1 ∧ h' 90 2 = h 90 2 ∧ h' 0 10 = h 0 10 ∧ h' 0 11 = h 0 11 ∧ h' 0 12 = h 0 12 ∧ h' 0 13 = h 0 13 ∧ h' 3 1 = h 3 1 ∧ h' 36 8 = h 36 8 ∧ h' 49 4 = h 49 4 ∧ h' 49 5 = h 49 5)
set_option maxHeartbeats 4000000 in
theorem c_OF_fits_0 {u : ov_U} {z : ov_Z} {h : ov_H} (d : Nat) (hd : 40 ≤ d) (U : ov_cap u) (I : ov_I z h) (w : Int) (g_w : ov_g w) : ov_T u d ov_m187 [ov_r 0, ov_i w] z h (P_OF_fits_0 z h w) := by
  refine ov_en rfl (Nat.le_of_ble_eq_true rfl) ?_
  show ov_R u d ov_m187 0 [(0, ov_r 0), (1, ov_i w)] [] z h (P_OF_fits_0 z h w)
  refine ov_blk (ls2 := [(0, ov_r 0), (1, ov_i w)]) (st2 := [ov_i w]) (pc2 := 1) b_187_0_1 rfl rfl ?_
  refine ov_iflt (tgt := 9) d_187_1 (by decide) (by omega) (fun c1 => ?_) (fun c1 => ?_)
  · skip
    refine ov_ldc2 (n := (-1)) d_187_9 kc_OF_274 ?_
    exact ov_retl (st := []) d_187_12 rfl ⟨_, rfl, I, (by show (h 36 7) = (h 36 7) ∧ (h 1 1) = (h 1 1) ∧ (h 90 2) = (h 90 2) ∧ (h 0 10) = (h 0 10) ∧ (h 0 11) = (h 0 11) ∧ (h 0 12) = (h 0 12) ∧ (h 0 13) = (h 0 13) ∧ (h 3 1) = (h 3 1) ∧ (h 36 8) = (h 36 8) ∧ (h 49 4) = (h 49 4) ∧ (h 49 5) = (h 49 5); omega)⟩
  · skip
    refine ov_blk (ls2 := [(0, ov_r 0), (1, ov_i w)]) (st2 := [ov_i 3, ov_i w]) (pc2 := 6) b_187_4_2 rfl rfl ?_
    refine ov_icle (tgt := 13) d_187_6 (by decide) (by omega) (by omega) (fun c2 => ?_) (fun c2 => ?_)
    · skip
      refine ov_blk (ls2 := [(0, ov_r 0), (1, ov_i w)]) (st2 := [ov_r 0]) (pc2 := 14) b_187_13_1 rfl rfl ?_
      refine ov_getf (v := ov_r 46) d_187_14 fl_OF_57 (zb_0 I) (zs_0 I) (congrArg ov_r (rg_0_7 I)) ?_
      refine ov_blk (ls2 := [(0, ov_r 0), (1, ov_i w)]) (st2 := [ov_r 0, ov_r 46]) (pc2 := 18) b_187_17_1 rfl rfl ?_
      rcases rg_0_10 I with e3 | e3
      · skip
        refine ov_getf (v := ov_r 58) d_187_18 fl_OF_78 (zb_0 I) (zs_0 I) (congrArg ov_r e3) ?_
        refine ov_blk (ls2 := [(0, ov_r 0), (1, ov_i w)]) (st2 := [ov_r 0, ov_r 58, ov_r 46]) (pc2 := 22) b_187_21_1 rfl rfl ?_
        refine ov_getf (v := ov_r 4) d_187_22 fl_OF_28 (zb_0 I) (zs_0 I) (congrArg ov_r (rg_0_2 I)) ?_
        refine ov_cV (as := [ov_r 58, ov_r 4]) (st := []) (d2 := d - 1) d_187_25 lk_OF_298 rfl (Nat.le_of_ble_eq_true rfl) (c := 12) (zb_46 I) (zs_46 I) ⟨by decide, rfl⟩ (by omega) (c_Ways_fitSightings_46_58_4 (d - 1) (by omega) U I) ?_
        rintro _ z5 h6 ⟨rfl, I7, f4⟩
        show ov_R u d ov_m187 28 [(0, ov_r 0), (1, ov_i w)] [] z5 h6 (P_OF_fits_0 z h w)
        have f8 : (h6 36 7) = (h 36 7) ∧ (h6 1 1) = (h 1 1) ∧ (h6 90 2) = (h 90 2) ∧ (h6 0 10) = (h 0 10) ∧ (h6 0 11) = (h 0 11) ∧ (h6 0 12) = (h 0 12) ∧ (h6 0 13) = (h 0 13) ∧ (h6 3 1) = (h 3 1) ∧ (h6 36 8) = (h 36 8) ∧ (h6 49 4) = (h 49 4) ∧ (h6 49 5) = (h 49 5) := f4
        clear f4
        have e9 : h6 0 10 = 58 := by omega
        refine ov_blk (ls2 := [(0, ov_r 0), (1, ov_i w)]) (st2 := [ov_i w]) (pc2 := 29) b_187_28_1 rfl rfl ?_
        refine ov_ifne (tgt := 41) d_187_29 (by decide) (by omega) (fun c10 => ?_) (fun c10 => ?_)
        · skip
          refine ov_blk (ls2 := [(0, ov_r 0), (1, ov_i w)]) (st2 := [ov_r 0]) (pc2 := 42) b_187_41_1 rfl rfl ?_
          refine ov_getf (v := ov_r 46) d_187_42 fl_OF_57 (zb_0 I7) (zs_0 I7) (congrArg ov_r (rg_0_7 I7)) ?_
          refine ov_getf (v := ov_i (h6 46 0)) d_187_45 fl_OF_302 (zb_46 I7) (zs_46 I7) rfl ?_
          have g11 := rg_46_0 I7
          refine ov_ifne (tgt := 55) d_187_48 (by decide) (by omega) (fun c12 => ?_) (fun c12 => ?_)
          · skip
            refine ov_blk (ls2 := [(0, ov_r 0), (1, ov_i w)]) (st2 := [ov_i 1, ov_i w]) (pc2 := 57) b_187_55_2 rfl rfl ?_
            refine ov_icne (tgt := 68) d_187_57 (by decide) (by omega) (by omega) (fun c13 => ?_) (fun c13 => ?_)
            · skip
              refine ov_blk (ls2 := [(0, ov_r 0), (1, ov_i w)]) (st2 := [ov_i 2, ov_i w]) (pc2 := 70) b_187_68_2 rfl rfl ?_
              refine ov_icne (tgt := 86) d_187_70 (by decide) (by omega) (by omega) (fun c14 => ?_) (fun c14 => ?_)
              · skip
                refine ov_blk (ls2 := [(0, ov_r 0), (1, ov_i w)]) (st2 := [ov_r 0]) (pc2 := 87) b_187_86_1 rfl rfl ?_
                refine ov_getf (v := ov_r 46) d_187_87 fl_OF_57 (zb_0 I7) (zs_0 I7) (congrArg ov_r (rg_0_7 I7)) ?_
                refine ov_blk (ls2 := [(0, ov_r 0), (1, ov_i w)]) (st2 := [ov_i 9, ov_i 8, ov_r 46]) (pc2 := 94) b_187_90_2 rfl rfl ?_
                refine ov_cV (as := [ov_i 8, ov_i 9]) (st := []) (d2 := d - 1) d_187_94 lk_OF_308 rfl (Nat.le_of_ble_eq_true rfl) (c := 12) (zb_46 I7) (zs_46 I7) ⟨by decide, rfl⟩ (by omega) (c_Ways_commonRows_46 (d - 1) (by omega) U I7 8 9 (by omega) (by omega) (by omega)) ?_
                rintro _ _ _ ⟨v16, rfl, rfl, rfl, f15⟩
                show ov_R u d ov_m187 97 [(0, ov_r 0), (1, ov_i w)] [ov_l v16] z5 h6 (P_OF_fits_0 z h w)
                clear f15
                exact ov_retl (st := []) d_187_97 rfl ⟨_, rfl, I7, (by show (h6 36 7) = (h 36 7) ∧ (h6 1 1) = (h 1 1) ∧ (h6 90 2) = (h 90 2) ∧ (h6 0 10) = (h 0 10) ∧ (h6 0 11) = (h 0 11) ∧ (h6 0 12) = (h 0 12) ∧ (h6 0 13) = (h 0 13) ∧ (h6 3 1) = (h 3 1) ∧ (h6 36 8) = (h 36 8) ∧ (h6 49 4) = (h 49 4) ∧ (h6 49 5) = (h 49 5); omega)⟩
              · skip
                refine ov_blk (ls2 := [(0, ov_r 0), (1, ov_i w)]) (st2 := [ov_r 0]) (pc2 := 74) b_187_73_1 rfl rfl ?_
                refine ov_getf (v := ov_r 46) d_187_74 fl_OF_57 (zb_0 I7) (zs_0 I7) (congrArg ov_r (rg_0_7 I7)) ?_
                refine ov_blk (ls2 := [(0, ov_r 0), (1, ov_i w)]) (st2 := [ov_i 8, ov_i 0, ov_r 46]) (pc2 := 80) b_187_77_2 rfl rfl ?_
                refine ov_cV (as := [ov_i 0, ov_i 8]) (st := []) (d2 := d - 1) d_187_80 lk_OF_308 rfl (Nat.le_of_ble_eq_true rfl) (c := 12) (zb_46 I7) (zs_46 I7) ⟨by decide, rfl⟩ (by omega) (c_Ways_commonRows_46 (d - 1) (by omega) U I7 0 8 (by omega) (by omega) (by omega)) ?_
                rintro _ _ _ ⟨v18, rfl, rfl, rfl, f17⟩
                show ov_R u d ov_m187 83 [(0, ov_r 0), (1, ov_i w)] [ov_l v18] z5 h6 (P_OF_fits_0 z h w)
                clear f17
                refine ov_goto (tgt := 97) d_187_83 (by decide) ?_
                exact ov_retl (st := []) d_187_97 rfl ⟨_, rfl, I7, (by show (h6 36 7) = (h 36 7) ∧ (h6 1 1) = (h 1 1) ∧ (h6 90 2) = (h 90 2) ∧ (h6 0 10) = (h 0 10) ∧ (h6 0 11) = (h 0 11) ∧ (h6 0 12) = (h 0 12) ∧ (h6 0 13) = (h 0 13) ∧ (h6 3 1) = (h 3 1) ∧ (h6 36 8) = (h 36 8) ∧ (h6 49 4) = (h 49 4) ∧ (h6 49 5) = (h 49 5); omega)⟩
            · skip
              refine ov_blk (ls2 := [(0, ov_r 0), (1, ov_i w)]) (st2 := [ov_r 0]) (pc2 := 61) b_187_60_1 rfl rfl ?_
              refine ov_getf (v := ov_r 46) d_187_61 fl_OF_57 (zb_0 I7) (zs_0 I7) (congrArg ov_r (rg_0_7 I7)) ?_
              refine ov_getf (v := ov_l (h6 46 1)) d_187_64 fl_OF_305 (zb_46 I7) (zs_46 I7) rfl ?_
              exact ov_retl (st := []) d_187_67 rfl ⟨_, rfl, I7, (by show (h6 36 7) = (h 36 7) ∧ (h6 1 1) = (h 1 1) ∧ (h6 90 2) = (h 90 2) ∧ (h6 0 10) = (h 0 10) ∧ (h6 0 11) = (h 0 11) ∧ (h6 0 12) = (h 0 12) ∧ (h6 0 13) = (h 0 13) ∧ (h6 3 1) = (h 3 1) ∧ (h6 36 8) = (h 36 8) ∧ (h6 49 4) = (h 49 4) ∧ (h6 49 5) = (h 49 5); omega)⟩
          · skip
            refine ov_ldc2 (n := (-1)) d_187_51 kc_OF_274 ?_
            exact ov_retl (st := []) d_187_54 rfl ⟨_, rfl, I7, (by show (h6 36 7) = (h 36 7) ∧ (h6 1 1) = (h 1 1) ∧ (h6 90 2) = (h 90 2) ∧ (h6 0 10) = (h 0 10) ∧ (h6 0 11) = (h 0 11) ∧ (h6 0 12) = (h 0 12) ∧ (h6 0 13) = (h 0 13) ∧ (h6 3 1) = (h 3 1) ∧ (h6 36 8) = (h 36 8) ∧ (h6 49 4) = (h 49 4) ∧ (h6 49 5) = (h 49 5); omega)⟩
        · skip
          refine ov_blk (ls2 := [(0, ov_r 0), (1, ov_i w)]) (st2 := [ov_r 0]) (pc2 := 33) b_187_32_1 rfl rfl ?_
          refine ov_getf (v := ov_r 46) d_187_33 fl_OF_57 (zb_0 I7) (zs_0 I7) (congrArg ov_r (rg_0_7 I7)) ?_
          refine ov_getf (v := ov_i (h6 46 0)) d_187_36 fl_OF_302 (zb_46 I7) (zs_46 I7) rfl ?_
          have g19 := rg_46_0 I7
          refine ov_blk (ls2 := [(0, ov_r 0), (1, ov_i w)]) (st2 := [ov_l (ov_w (h6 46 0))]) (pc2 := 40) b_187_39_1 rfl rfl ?_
          have g20 := ov_wg (h6 46 0)
          have g21 := ov_wq (h6 46 0)
          exact ov_retl (st := []) d_187_40 rfl ⟨_, rfl, I7, (by show (h6 36 7) = (h 36 7) ∧ (h6 1 1) = (h 1 1) ∧ (h6 90 2) = (h 90 2) ∧ (h6 0 10) = (h 0 10) ∧ (h6 0 11) = (h 0 11) ∧ (h6 0 12) = (h 0 12) ∧ (h6 0 13) = (h 0 13) ∧ (h6 3 1) = (h 3 1) ∧ (h6 36 8) = (h 36 8) ∧ (h6 49 4) = (h 49 4) ∧ (h6 49 5) = (h 49 5); omega)⟩
      · skip
        refine ov_getf (v := ov_r 70) d_187_18 fl_OF_78 (zb_0 I) (zs_0 I) (congrArg ov_r e3) ?_
        refine ov_blk (ls2 := [(0, ov_r 0), (1, ov_i w)]) (st2 := [ov_r 0, ov_r 70, ov_r 46]) (pc2 := 22) b_187_21_1 rfl rfl ?_
        refine ov_getf (v := ov_r 4) d_187_22 fl_OF_28 (zb_0 I) (zs_0 I) (congrArg ov_r (rg_0_2 I)) ?_
        refine ov_cV (as := [ov_r 70, ov_r 4]) (st := []) (d2 := d - 1) d_187_25 lk_OF_298 rfl (Nat.le_of_ble_eq_true rfl) (c := 12) (zb_46 I) (zs_46 I) ⟨by decide, rfl⟩ (by omega) (c_Ways_fitSightings_46_70_4 (d - 1) (by omega) U I) ?_
        rintro _ z23 h24 ⟨rfl, I25, f22⟩
        show ov_R u d ov_m187 28 [(0, ov_r 0), (1, ov_i w)] [] z23 h24 (P_OF_fits_0 z h w)
        have f26 : (h24 36 7) = (h 36 7) ∧ (h24 1 1) = (h 1 1) ∧ (h24 90 2) = (h 90 2) ∧ (h24 0 10) = (h 0 10) ∧ (h24 0 11) = (h 0 11) ∧ (h24 0 12) = (h 0 12) ∧ (h24 0 13) = (h 0 13) ∧ (h24 3 1) = (h 3 1) ∧ (h24 36 8) = (h 36 8) ∧ (h24 49 4) = (h 49 4) ∧ (h24 49 5) = (h 49 5) := f22
        clear f22
        have e27 : h24 0 10 = 70 := by omega
        refine ov_blk (ls2 := [(0, ov_r 0), (1, ov_i w)]) (st2 := [ov_i w]) (pc2 := 29) b_187_28_1 rfl rfl ?_
        refine ov_ifne (tgt := 41) d_187_29 (by decide) (by omega) (fun c28 => ?_) (fun c28 => ?_)
        · skip
          refine ov_blk (ls2 := [(0, ov_r 0), (1, ov_i w)]) (st2 := [ov_r 0]) (pc2 := 42) b_187_41_1 rfl rfl ?_
          refine ov_getf (v := ov_r 46) d_187_42 fl_OF_57 (zb_0 I25) (zs_0 I25) (congrArg ov_r (rg_0_7 I25)) ?_
          refine ov_getf (v := ov_i (h24 46 0)) d_187_45 fl_OF_302 (zb_46 I25) (zs_46 I25) rfl ?_
          have g29 := rg_46_0 I25
          refine ov_ifne (tgt := 55) d_187_48 (by decide) (by omega) (fun c30 => ?_) (fun c30 => ?_)
          · skip
            refine ov_blk (ls2 := [(0, ov_r 0), (1, ov_i w)]) (st2 := [ov_i 1, ov_i w]) (pc2 := 57) b_187_55_2 rfl rfl ?_
            refine ov_icne (tgt := 68) d_187_57 (by decide) (by omega) (by omega) (fun c31 => ?_) (fun c31 => ?_)
            · skip
              refine ov_blk (ls2 := [(0, ov_r 0), (1, ov_i w)]) (st2 := [ov_i 2, ov_i w]) (pc2 := 70) b_187_68_2 rfl rfl ?_
              refine ov_icne (tgt := 86) d_187_70 (by decide) (by omega) (by omega) (fun c32 => ?_) (fun c32 => ?_)
              · skip
                refine ov_blk (ls2 := [(0, ov_r 0), (1, ov_i w)]) (st2 := [ov_r 0]) (pc2 := 87) b_187_86_1 rfl rfl ?_
                refine ov_getf (v := ov_r 46) d_187_87 fl_OF_57 (zb_0 I25) (zs_0 I25) (congrArg ov_r (rg_0_7 I25)) ?_
                refine ov_blk (ls2 := [(0, ov_r 0), (1, ov_i w)]) (st2 := [ov_i 9, ov_i 8, ov_r 46]) (pc2 := 94) b_187_90_2 rfl rfl ?_
                refine ov_cV (as := [ov_i 8, ov_i 9]) (st := []) (d2 := d - 1) d_187_94 lk_OF_308 rfl (Nat.le_of_ble_eq_true rfl) (c := 12) (zb_46 I25) (zs_46 I25) ⟨by decide, rfl⟩ (by omega) (c_Ways_commonRows_46 (d - 1) (by omega) U I25 8 9 (by omega) (by omega) (by omega)) ?_
                rintro _ _ _ ⟨v34, rfl, rfl, rfl, f33⟩
                show ov_R u d ov_m187 97 [(0, ov_r 0), (1, ov_i w)] [ov_l v34] z23 h24 (P_OF_fits_0 z h w)
                clear f33
                exact ov_retl (st := []) d_187_97 rfl ⟨_, rfl, I25, (by show (h24 36 7) = (h 36 7) ∧ (h24 1 1) = (h 1 1) ∧ (h24 90 2) = (h 90 2) ∧ (h24 0 10) = (h 0 10) ∧ (h24 0 11) = (h 0 11) ∧ (h24 0 12) = (h 0 12) ∧ (h24 0 13) = (h 0 13) ∧ (h24 3 1) = (h 3 1) ∧ (h24 36 8) = (h 36 8) ∧ (h24 49 4) = (h 49 4) ∧ (h24 49 5) = (h 49 5); omega)⟩
              · skip
                refine ov_blk (ls2 := [(0, ov_r 0), (1, ov_i w)]) (st2 := [ov_r 0]) (pc2 := 74) b_187_73_1 rfl rfl ?_
                refine ov_getf (v := ov_r 46) d_187_74 fl_OF_57 (zb_0 I25) (zs_0 I25) (congrArg ov_r (rg_0_7 I25)) ?_
                refine ov_blk (ls2 := [(0, ov_r 0), (1, ov_i w)]) (st2 := [ov_i 8, ov_i 0, ov_r 46]) (pc2 := 80) b_187_77_2 rfl rfl ?_
                refine ov_cV (as := [ov_i 0, ov_i 8]) (st := []) (d2 := d - 1) d_187_80 lk_OF_308 rfl (Nat.le_of_ble_eq_true rfl) (c := 12) (zb_46 I25) (zs_46 I25) ⟨by decide, rfl⟩ (by omega) (c_Ways_commonRows_46 (d - 1) (by omega) U I25 0 8 (by omega) (by omega) (by omega)) ?_
                rintro _ _ _ ⟨v36, rfl, rfl, rfl, f35⟩
                show ov_R u d ov_m187 83 [(0, ov_r 0), (1, ov_i w)] [ov_l v36] z23 h24 (P_OF_fits_0 z h w)
                clear f35
                refine ov_goto (tgt := 97) d_187_83 (by decide) ?_
                exact ov_retl (st := []) d_187_97 rfl ⟨_, rfl, I25, (by show (h24 36 7) = (h 36 7) ∧ (h24 1 1) = (h 1 1) ∧ (h24 90 2) = (h 90 2) ∧ (h24 0 10) = (h 0 10) ∧ (h24 0 11) = (h 0 11) ∧ (h24 0 12) = (h 0 12) ∧ (h24 0 13) = (h 0 13) ∧ (h24 3 1) = (h 3 1) ∧ (h24 36 8) = (h 36 8) ∧ (h24 49 4) = (h 49 4) ∧ (h24 49 5) = (h 49 5); omega)⟩
            · skip
              refine ov_blk (ls2 := [(0, ov_r 0), (1, ov_i w)]) (st2 := [ov_r 0]) (pc2 := 61) b_187_60_1 rfl rfl ?_
              refine ov_getf (v := ov_r 46) d_187_61 fl_OF_57 (zb_0 I25) (zs_0 I25) (congrArg ov_r (rg_0_7 I25)) ?_
              refine ov_getf (v := ov_l (h24 46 1)) d_187_64 fl_OF_305 (zb_46 I25) (zs_46 I25) rfl ?_
              exact ov_retl (st := []) d_187_67 rfl ⟨_, rfl, I25, (by show (h24 36 7) = (h 36 7) ∧ (h24 1 1) = (h 1 1) ∧ (h24 90 2) = (h 90 2) ∧ (h24 0 10) = (h 0 10) ∧ (h24 0 11) = (h 0 11) ∧ (h24 0 12) = (h 0 12) ∧ (h24 0 13) = (h 0 13) ∧ (h24 3 1) = (h 3 1) ∧ (h24 36 8) = (h 36 8) ∧ (h24 49 4) = (h 49 4) ∧ (h24 49 5) = (h 49 5); omega)⟩
          · skip
            refine ov_ldc2 (n := (-1)) d_187_51 kc_OF_274 ?_
            exact ov_retl (st := []) d_187_54 rfl ⟨_, rfl, I25, (by show (h24 36 7) = (h 36 7) ∧ (h24 1 1) = (h 1 1) ∧ (h24 90 2) = (h 90 2) ∧ (h24 0 10) = (h 0 10) ∧ (h24 0 11) = (h 0 11) ∧ (h24 0 12) = (h 0 12) ∧ (h24 0 13) = (h 0 13) ∧ (h24 3 1) = (h 3 1) ∧ (h24 36 8) = (h 36 8) ∧ (h24 49 4) = (h 49 4) ∧ (h24 49 5) = (h 49 5); omega)⟩
        · skip
          refine ov_blk (ls2 := [(0, ov_r 0), (1, ov_i w)]) (st2 := [ov_r 0]) (pc2 := 33) b_187_32_1 rfl rfl ?_
          refine ov_getf (v := ov_r 46) d_187_33 fl_OF_57 (zb_0 I25) (zs_0 I25) (congrArg ov_r (rg_0_7 I25)) ?_
          refine ov_getf (v := ov_i (h24 46 0)) d_187_36 fl_OF_302 (zb_46 I25) (zs_46 I25) rfl ?_
          have g37 := rg_46_0 I25
          refine ov_blk (ls2 := [(0, ov_r 0), (1, ov_i w)]) (st2 := [ov_l (ov_w (h24 46 0))]) (pc2 := 40) b_187_39_1 rfl rfl ?_
          have g38 := ov_wg (h24 46 0)
          have g39 := ov_wq (h24 46 0)
          exact ov_retl (st := []) d_187_40 rfl ⟨_, rfl, I25, (by show (h24 36 7) = (h 36 7) ∧ (h24 1 1) = (h 1 1) ∧ (h24 90 2) = (h 90 2) ∧ (h24 0 10) = (h 0 10) ∧ (h24 0 11) = (h 0 11) ∧ (h24 0 12) = (h 0 12) ∧ (h24 0 13) = (h 0 13) ∧ (h24 3 1) = (h 3 1) ∧ (h24 36 8) = (h 36 8) ∧ (h24 49 4) = (h 49 4) ∧ (h24 49 5) = (h 49 5); omega)⟩
    · skip
      refine ov_ldc2 (n := (-1)) d_187_9 kc_OF_274 ?_
      exact ov_retl (st := []) d_187_12 rfl ⟨_, rfl, I, (by show (h 36 7) = (h 36 7) ∧ (h 1 1) = (h 1 1) ∧ (h 90 2) = (h 90 2) ∧ (h 0 10) = (h 0 10) ∧ (h 0 11) = (h 0 11) ∧ (h 0 12) = (h 0 12) ∧ (h 0 13) = (h 0 13) ∧ (h 3 1) = (h 3 1) ∧ (h 36 8) = (h 36 8) ∧ (h 49 4) = (h 49 4) ∧ (h 49 5) = (h 49 5); omega)⟩
abbrev P_OF_nights_0 (z : ov_Z) (h : ov_H) (sd : Int) (n : Int) (g : Int) (w : Int) : Option ov_V → ov_Z → ov_H → Prop := fun r0 z' h' => ∃ r : Int, r0 = some (ov_i r) ∧ ov_I z' h' ∧ ((h' 36 7 = 1 → ¬ h' 36 8 = -1) ∧ h' 1 1 = h 1 1 ∧ h' 90 2 = h 90 2 ∧ h' 0 10 = h 0 10 ∧ h' 0 11 = h 0 11 ∧ h' 0 12 = h 0 12 ∧ h' 0 13 = h 0 13 ∧ h' 3 1 = h 3 1 ∧ h' 46 3 = h 46 3 ∧ h' 46 4 = h 46 4 ∧ h' 49 4 = h 49 4 ∧ h' 49 5 = h 49 5)
set_option maxHeartbeats 4000000 in
theorem c_OF_nights_0 {u : ov_U} {z : ov_Z} {h : ov_H} (d : Nat) (hd : 320 ≤ d) (U : ov_cap u) (I : ov_I z h) (sd : Int) (n : Int) (g : Int) (w : Int) (g_sd : ov_g sd) (g_n : ov_g n) (g_g : ov_g g) (g_w : ov_g w) (p0 : h 36 7 = 1 → ¬ h 36 8 = -1) : ov_T u d ov_m192 [ov_r 0, ov_i sd, ov_i n, ov_i g, ov_i w] z h (P_OF_nights_0 z h sd n g w) := by
  refine ov_en rfl (Nat.le_of_ble_eq_true rfl) ?_
  show ov_R u d ov_m192 0 [(0, ov_r 0), (1, ov_i sd), (2, ov_i n), (3, ov_i g), (4, ov_i w)] [] z h (P_OF_nights_0 z h sd n g w)
  refine ov_blk (ls2 := [(0, ov_r 0), (1, ov_i sd), (2, ov_i n), (3, ov_i g), (4, ov_i w)]) (st2 := [ov_i 1, ov_i n]) (pc2 := 2) b_192_0_2 rfl rfl ?_
  refine ov_iclt (tgt := 22) d_192_2 (by decide) (by omega) (by omega) (fun c1 => ?_) (fun c1 => ?_)
  · skip
    refine ov_blk (ls2 := [(0, ov_r 0), (1, ov_i sd), (2, ov_i n), (3, ov_i g), (4, ov_i w)]) (st2 := [ov_i (-1)]) (pc2 := 23) b_192_22_1 rfl rfl ?_
    exact ov_reti (st := []) d_192_23 rfl ⟨_, rfl, I, (by show ((h 36 7) = 1 → ¬ (h 36 8) = -1) ∧ (h 1 1) = (h 1 1) ∧ (h 90 2) = (h 90 2) ∧ (h 0 10) = (h 0 10) ∧ (h 0 11) = (h 0 11) ∧ (h 0 12) = (h 0 12) ∧ (h 0 13) = (h 0 13) ∧ (h 3 1) = (h 3 1) ∧ (h 46 3) = (h 46 3) ∧ (h 46 4) = (h 46 4) ∧ (h 49 4) = (h 49 4) ∧ (h 49 5) = (h 49 5); omega)⟩
  · skip
    refine ov_blk (ls2 := [(0, ov_r 0), (1, ov_i sd), (2, ov_i n), (3, ov_i g), (4, ov_i w)]) (st2 := [ov_i 30, ov_i n]) (pc2 := 8) b_192_5_2 rfl rfl ?_
    refine ov_icgt (tgt := 22) d_192_8 (by decide) (by omega) (by omega) (fun c2 => ?_) (fun c2 => ?_)
    · skip
      refine ov_blk (ls2 := [(0, ov_r 0), (1, ov_i sd), (2, ov_i n), (3, ov_i g), (4, ov_i w)]) (st2 := [ov_i (-1)]) (pc2 := 23) b_192_22_1 rfl rfl ?_
      exact ov_reti (st := []) d_192_23 rfl ⟨_, rfl, I, (by show ((h 36 7) = 1 → ¬ (h 36 8) = -1) ∧ (h 1 1) = (h 1 1) ∧ (h 90 2) = (h 90 2) ∧ (h 0 10) = (h 0 10) ∧ (h 0 11) = (h 0 11) ∧ (h 0 12) = (h 0 12) ∧ (h 0 13) = (h 0 13) ∧ (h 3 1) = (h 3 1) ∧ (h 46 3) = (h 46 3) ∧ (h 46 4) = (h 46 4) ∧ (h 49 4) = (h 49 4) ∧ (h 49 5) = (h 49 5); omega)⟩
    · skip
      refine ov_blk (ls2 := [(0, ov_r 0), (1, ov_i sd), (2, ov_i n), (3, ov_i g), (4, ov_i w)]) (st2 := [ov_i w]) (pc2 := 13) b_192_11_1 rfl rfl ?_
      refine ov_iflt (tgt := 22) d_192_13 (by decide) (by omega) (fun c3 => ?_) (fun c3 => ?_)
      · skip
        refine ov_blk (ls2 := [(0, ov_r 0), (1, ov_i sd), (2, ov_i n), (3, ov_i g), (4, ov_i w)]) (st2 := [ov_i (-1)]) (pc2 := 23) b_192_22_1 rfl rfl ?_
        exact ov_reti (st := []) d_192_23 rfl ⟨_, rfl, I, (by show ((h 36 7) = 1 → ¬ (h 36 8) = -1) ∧ (h 1 1) = (h 1 1) ∧ (h 90 2) = (h 90 2) ∧ (h 0 10) = (h 0 10) ∧ (h 0 11) = (h 0 11) ∧ (h 0 12) = (h 0 12) ∧ (h 0 13) = (h 0 13) ∧ (h 3 1) = (h 3 1) ∧ (h 46 3) = (h 46 3) ∧ (h 46 4) = (h 46 4) ∧ (h 49 4) = (h 49 4) ∧ (h 49 5) = (h 49 5); omega)⟩
      · skip
        refine ov_blk (ls2 := [(0, ov_r 0), (1, ov_i sd), (2, ov_i n), (3, ov_i g), (4, ov_i w)]) (st2 := [ov_i 1, ov_i w]) (pc2 := 19) b_192_16_2 rfl rfl ?_
        refine ov_icle (tgt := 24) d_192_19 (by decide) (by omega) (by omega) (fun c4 => ?_) (fun c4 => ?_)
        · skip
          refine ov_blk (ls2 := [(0, ov_r 0), (1, ov_i sd), (2, ov_i n), (3, ov_i g), (4, ov_i w)]) (st2 := [ov_i 0, ov_i 0, ov_i 0, ov_i g, ov_r 0]) (pc2 := 29) b_192_24_5 rfl rfl ?_
          refine ov_cV (as := [ov_i g, ov_i 0, ov_i 0, ov_i 0]) (st := []) (d2 := d - 1) d_192_29 lk_OF_211 rfl (Nat.le_of_ble_eq_true rfl) (c := 0) (zb_0 I) (zs_0 I) ⟨by decide, rfl⟩ (by omega) (c_OF_reckoned_0 (d - 1) (by omega) U I g 0 0 0 (by omega) (by omega) (by omega) (by omega) (by omega) (by omega)) ?_
          rintro _ z7 h8 ⟨v6, rfl, I9, f5⟩
          show ov_R u d ov_m192 32 [(0, ov_r 0), (1, ov_i sd), (2, ov_i n), (3, ov_i g), (4, ov_i w)] [ov_i v6] z7 h8 (P_OF_nights_0 z h sd n g w)
          have f10 : -2147483648 ≤ v6 ∧ v6 ≤ 2147483647 ∧ ((h8 36 7) = 1 → ¬ (h8 36 8) = -1) ∧ (¬ v6 = -1 → ¬ (h8 36 8) = -1) ∧ (h8 1 1) = (h 1 1) ∧ (h8 90 2) = (h 90 2) ∧ (h8 0 10) = (h 0 10) ∧ (h8 0 11) = (h 0 11) ∧ (h8 0 12) = (h 0 12) ∧ (h8 0 13) = (h 0 13) ∧ (h8 3 1) = (h 3 1) ∧ (h8 46 3) = (h 46 3) ∧ (h8 46 4) = (h 46 4) ∧ (h8 49 4) = (h 49 4) ∧ (h8 49 5) = (h 49 5) := f5
          clear f5
          refine ov_blk (ls2 := [(0, ov_r 0), (1, ov_i sd), (2, ov_i n), (3, ov_i g), (4, ov_i w)]) (st2 := [ov_i (-1), ov_i v6]) (pc2 := 33) b_192_32_1 rfl rfl ?_
          refine ov_icne (tgt := 38) d_192_33 (by decide) (by omega) (by omega) (fun c11 => ?_) (fun c11 => ?_)
          · skip
            refine ov_blk (ls2 := [(0, ov_r 0), (1, ov_i sd), (2, ov_i n), (3, ov_i g), (4, ov_i w)]) (st2 := [ov_r 0]) (pc2 := 39) b_192_38_1 rfl rfl ?_
            refine ov_getf (v := ov_r 36) d_192_39 fl_OF_50 (zb_0 I9) (zs_0 I9) (congrArg ov_r (rg_0_6 I9)) ?_
            refine ov_blk (ls2 := [(0, ov_r 0), (1, ov_i sd), (2, ov_i n), (3, ov_i g), (4, ov_i w)]) (st2 := [ov_i n, ov_i sd, ov_r 36]) (pc2 := 44) b_192_42_2 rfl rfl ?_
            rcases rg_36_8 I9 with e12 | e12 | e12
            · omega
            · skip
              refine ov_cV (as := [ov_i sd, ov_i n]) (st := []) (d2 := d - 1) d_192_44 lk_OF_312 rfl (Nat.le_of_ble_eq_true rfl) (c := 2) (zb_36 I9) (zs_36 I9) ⟨by decide, rfl⟩ (by omega) (c_Goers_spendNights_36_k36_8_58 (d - 1) (by omega) U I9 sd n e12 (by omega) (by omega) (by omega)) ?_
              rintro _ z14 h15 ⟨rfl, I16, f13⟩
              show ov_R u d ov_m192 47 [(0, ov_r 0), (1, ov_i sd), (2, ov_i n), (3, ov_i g), (4, ov_i w)] [] z14 h15 (P_OF_nights_0 z h sd n g w)
              have f17 : (h15 36 7) = (h8 36 7) ∧ (h15 1 1) = (h8 1 1) ∧ (h15 90 2) = (h8 90 2) ∧ (h15 0 10) = (h8 0 10) ∧ (h15 0 11) = (h8 0 11) ∧ (h15 0 12) = (h8 0 12) ∧ (h15 0 13) = (h8 0 13) ∧ (h15 3 1) = (h8 3 1) ∧ (h15 36 8) = (h8 36 8) ∧ (h15 46 3) = (h8 46 3) ∧ (h15 46 4) = (h8 46 4) ∧ (h15 49 4) = (h8 49 4) ∧ (h15 49 5) = (h8 49 5) := f13
              clear f13
              have e18 : h15 36 8 = 58 := by omega
              refine ov_blk (ls2 := [(0, ov_r 0), (1, ov_i sd), (2, ov_i n), (3, ov_i g), (4, ov_i w)]) (st2 := [ov_i w]) (pc2 := 49) b_192_47_1 rfl rfl ?_
              refine ov_ifne (tgt := 62) d_192_49 (by decide) (by omega) (fun c19 => ?_) (fun c19 => ?_)
              · skip
                refine ov_blk (ls2 := [(0, ov_r 0), (1, ov_i sd), (2, ov_i n), (3, ov_i g), (4, ov_i w)]) (st2 := [ov_r 0]) (pc2 := 63) b_192_62_1 rfl rfl ?_
                refine ov_getf (v := ov_r 36) d_192_63 fl_OF_50 (zb_0 I16) (zs_0 I16) (congrArg ov_r (rg_0_6 I16)) ?_
                refine ov_getf (v := ov_i (h15 36 1)) d_192_66 fl_OF_319 (zb_36 I16) (zs_36 I16) rfl ?_
                have g20 := rg_36_1 I16
                exact ov_reti (st := []) d_192_69 rfl ⟨_, rfl, I16, (by show ((h15 36 7) = 1 → ¬ (h15 36 8) = -1) ∧ (h15 1 1) = (h 1 1) ∧ (h15 90 2) = (h 90 2) ∧ (h15 0 10) = (h 0 10) ∧ (h15 0 11) = (h 0 11) ∧ (h15 0 12) = (h 0 12) ∧ (h15 0 13) = (h 0 13) ∧ (h15 3 1) = (h 3 1) ∧ (h15 46 3) = (h 46 3) ∧ (h15 46 4) = (h 46 4) ∧ (h15 49 4) = (h 49 4) ∧ (h15 49 5) = (h 49 5); omega)⟩
              · skip
                refine ov_blk (ls2 := [(0, ov_r 0), (1, ov_i sd), (2, ov_i n), (3, ov_i g), (4, ov_i w)]) (st2 := [ov_r 0]) (pc2 := 53) b_192_52_1 rfl rfl ?_
                refine ov_getf (v := ov_r 36) d_192_53 fl_OF_50 (zb_0 I16) (zs_0 I16) (congrArg ov_r (rg_0_6 I16)) ?_
                refine ov_getf (v := ov_i (h15 36 0)) d_192_56 fl_OF_316 (zb_36 I16) (zs_36 I16) rfl ?_
                have g21 := rg_36_0 I16
                refine ov_goto (tgt := 69) d_192_59 (by decide) ?_
                exact ov_reti (st := []) d_192_69 rfl ⟨_, rfl, I16, (by show ((h15 36 7) = 1 → ¬ (h15 36 8) = -1) ∧ (h15 1 1) = (h 1 1) ∧ (h15 90 2) = (h 90 2) ∧ (h15 0 10) = (h 0 10) ∧ (h15 0 11) = (h 0 11) ∧ (h15 0 12) = (h 0 12) ∧ (h15 0 13) = (h 0 13) ∧ (h15 3 1) = (h 3 1) ∧ (h15 46 3) = (h 46 3) ∧ (h15 46 4) = (h 46 4) ∧ (h15 49 4) = (h 49 4) ∧ (h15 49 5) = (h 49 5); omega)⟩
            · skip
              refine ov_cV (as := [ov_i sd, ov_i n]) (st := []) (d2 := d - 1) d_192_44 lk_OF_312 rfl (Nat.le_of_ble_eq_true rfl) (c := 2) (zb_36 I9) (zs_36 I9) ⟨by decide, rfl⟩ (by omega) (c_Goers_spendNights_36_k36_8_70 (d - 1) (by omega) U I9 sd n e12 (by omega) (by omega) (by omega)) ?_
              rintro _ z23 h24 ⟨rfl, I25, f22⟩
              show ov_R u d ov_m192 47 [(0, ov_r 0), (1, ov_i sd), (2, ov_i n), (3, ov_i g), (4, ov_i w)] [] z23 h24 (P_OF_nights_0 z h sd n g w)
              have f26 : (h24 36 7) = (h8 36 7) ∧ (h24 1 1) = (h8 1 1) ∧ (h24 90 2) = (h8 90 2) ∧ (h24 0 10) = (h8 0 10) ∧ (h24 0 11) = (h8 0 11) ∧ (h24 0 12) = (h8 0 12) ∧ (h24 0 13) = (h8 0 13) ∧ (h24 3 1) = (h8 3 1) ∧ (h24 36 8) = (h8 36 8) ∧ (h24 46 3) = (h8 46 3) ∧ (h24 46 4) = (h8 46 4) ∧ (h24 49 4) = (h8 49 4) ∧ (h24 49 5) = (h8 49 5) := f22
              clear f22
              have e27 : h24 36 8 = 70 := by omega
              refine ov_blk (ls2 := [(0, ov_r 0), (1, ov_i sd), (2, ov_i n), (3, ov_i g), (4, ov_i w)]) (st2 := [ov_i w]) (pc2 := 49) b_192_47_1 rfl rfl ?_
              refine ov_ifne (tgt := 62) d_192_49 (by decide) (by omega) (fun c28 => ?_) (fun c28 => ?_)
              · skip
                refine ov_blk (ls2 := [(0, ov_r 0), (1, ov_i sd), (2, ov_i n), (3, ov_i g), (4, ov_i w)]) (st2 := [ov_r 0]) (pc2 := 63) b_192_62_1 rfl rfl ?_
                refine ov_getf (v := ov_r 36) d_192_63 fl_OF_50 (zb_0 I25) (zs_0 I25) (congrArg ov_r (rg_0_6 I25)) ?_
                refine ov_getf (v := ov_i (h24 36 1)) d_192_66 fl_OF_319 (zb_36 I25) (zs_36 I25) rfl ?_
                have g29 := rg_36_1 I25
                exact ov_reti (st := []) d_192_69 rfl ⟨_, rfl, I25, (by show ((h24 36 7) = 1 → ¬ (h24 36 8) = -1) ∧ (h24 1 1) = (h 1 1) ∧ (h24 90 2) = (h 90 2) ∧ (h24 0 10) = (h 0 10) ∧ (h24 0 11) = (h 0 11) ∧ (h24 0 12) = (h 0 12) ∧ (h24 0 13) = (h 0 13) ∧ (h24 3 1) = (h 3 1) ∧ (h24 46 3) = (h 46 3) ∧ (h24 46 4) = (h 46 4) ∧ (h24 49 4) = (h 49 4) ∧ (h24 49 5) = (h 49 5); omega)⟩
              · skip
                refine ov_blk (ls2 := [(0, ov_r 0), (1, ov_i sd), (2, ov_i n), (3, ov_i g), (4, ov_i w)]) (st2 := [ov_r 0]) (pc2 := 53) b_192_52_1 rfl rfl ?_
                refine ov_getf (v := ov_r 36) d_192_53 fl_OF_50 (zb_0 I25) (zs_0 I25) (congrArg ov_r (rg_0_6 I25)) ?_
                refine ov_getf (v := ov_i (h24 36 0)) d_192_56 fl_OF_316 (zb_36 I25) (zs_36 I25) rfl ?_
                have g30 := rg_36_0 I25
                refine ov_goto (tgt := 69) d_192_59 (by decide) ?_
                exact ov_reti (st := []) d_192_69 rfl ⟨_, rfl, I25, (by show ((h24 36 7) = 1 → ¬ (h24 36 8) = -1) ∧ (h24 1 1) = (h 1 1) ∧ (h24 90 2) = (h 90 2) ∧ (h24 0 10) = (h 0 10) ∧ (h24 0 11) = (h 0 11) ∧ (h24 0 12) = (h 0 12) ∧ (h24 0 13) = (h 0 13) ∧ (h24 3 1) = (h 3 1) ∧ (h24 46 3) = (h 46 3) ∧ (h24 46 4) = (h 46 4) ∧ (h24 49 4) = (h 49 4) ∧ (h24 49 5) = (h 49 5); omega)⟩
          · skip
            refine ov_blk (ls2 := [(0, ov_r 0), (1, ov_i sd), (2, ov_i n), (3, ov_i g), (4, ov_i w)]) (st2 := [ov_i (-1)]) (pc2 := 37) b_192_36_1 rfl rfl ?_
            exact ov_reti (st := []) d_192_37 rfl ⟨_, rfl, I9, (by show ((h8 36 7) = 1 → ¬ (h8 36 8) = -1) ∧ (h8 1 1) = (h 1 1) ∧ (h8 90 2) = (h 90 2) ∧ (h8 0 10) = (h 0 10) ∧ (h8 0 11) = (h 0 11) ∧ (h8 0 12) = (h 0 12) ∧ (h8 0 13) = (h 0 13) ∧ (h8 3 1) = (h 3 1) ∧ (h8 46 3) = (h 46 3) ∧ (h8 46 4) = (h 46 4) ∧ (h8 49 4) = (h 49 4) ∧ (h8 49 5) = (h 49 5); omega)⟩
        · skip
          refine ov_blk (ls2 := [(0, ov_r 0), (1, ov_i sd), (2, ov_i n), (3, ov_i g), (4, ov_i w)]) (st2 := [ov_i (-1)]) (pc2 := 23) b_192_22_1 rfl rfl ?_
          exact ov_reti (st := []) d_192_23 rfl ⟨_, rfl, I, (by show ((h 36 7) = 1 → ¬ (h 36 8) = -1) ∧ (h 1 1) = (h 1 1) ∧ (h 90 2) = (h 90 2) ∧ (h 0 10) = (h 0 10) ∧ (h 0 11) = (h 0 11) ∧ (h 0 12) = (h 0 12) ∧ (h 0 13) = (h 0 13) ∧ (h 3 1) = (h 3 1) ∧ (h 46 3) = (h 46 3) ∧ (h 46 4) = (h 46 4) ∧ (h 49 4) = (h 49 4) ∧ (h 49 5) = (h 49 5); omega)⟩
abbrev P_OF_mark_0 (z : ov_Z) (h : ov_H) (m : Int) (b : Int) : Option ov_V → ov_Z → ov_H → Prop := fun r0 z' h' => ∃ r : Int, r0 = some (ov_i r) ∧ ov_I z' h' ∧ ((r = 0 ∨ r = 1) ∧ h' 36 7 = h 36 7 ∧ h' 1 1 = h 1 1 ∧ h' 90 2 = h 90 2 ∧ h' 0 10 = h 0 10 ∧ h' 0 11 = h 0 11 ∧ h' 0 12 = h 0 12 ∧ h' 0 13 = h 0 13 ∧ h' 3 1 = h 3 1 ∧ h' 36 8 = h 36 8 ∧ h' 46 3 = h 46 3 ∧ h' 46 4 = h 46 4 ∧ h' 49 4 = h 49 4 ∧ h' 49 5 = h 49 5)
set_option maxHeartbeats 4000000 in
theorem c_OF_mark_0 {u : ov_U} {z : ov_Z} {h : ov_H} (d : Nat) (hd : 3 ≤ d) (U : ov_cap u) (I : ov_I z h) (m : Int) (b : Int) (g_m : ov_g m) (g_b : b = 0 ∨ b = 1) : ov_T u d ov_m196 [ov_r 0, ov_i m, ov_i b] z h (P_OF_mark_0 z h m b) := by
  refine ov_en rfl (Nat.le_of_ble_eq_true rfl) ?_
  show ov_R u d ov_m196 0 [(0, ov_r 0), (1, ov_i m), (2, ov_i b)] [] z h (P_OF_mark_0 z h m b)
  refine ov_blk (ls2 := [(0, ov_r 0), (1, ov_i m), (2, ov_i b)]) (st2 := [ov_i m]) (pc2 := 1) b_196_0_1 rfl rfl ?_
  refine ov_iflt (tgt := 26) d_196_1 (by decide) (by omega) (fun c1 => ?_) (fun c1 => ?_)
  · skip
    refine ov_blk (ls2 := [(0, ov_r 0), (1, ov_i m), (2, ov_i b)]) (st2 := [ov_i 0]) (pc2 := 27) b_196_26_1 rfl rfl ?_
    exact ov_retz (st := []) d_196_27 rfl (by omega) ⟨_, rfl, I, (by show (0 = 0 ∨ 0 = 1) ∧ (h 36 7) = (h 36 7) ∧ (h 1 1) = (h 1 1) ∧ (h 90 2) = (h 90 2) ∧ (h 0 10) = (h 0 10) ∧ (h 0 11) = (h 0 11) ∧ (h 0 12) = (h 0 12) ∧ (h 0 13) = (h 0 13) ∧ (h 3 1) = (h 3 1) ∧ (h 36 8) = (h 36 8) ∧ (h 46 3) = (h 46 3) ∧ (h 46 4) = (h 46 4) ∧ (h 49 4) = (h 49 4) ∧ (h 49 5) = (h 49 5); omega)⟩
  · skip
    refine ov_blk (ls2 := [(0, ov_r 0), (1, ov_i m), (2, ov_i b)]) (st2 := [ov_r 0, ov_i m]) (pc2 := 6) b_196_4_2 rfl rfl ?_
    refine ov_getf (v := ov_r 14) d_196_6 fl_OF_39 (zb_0 I) (zs_0 I) (congrArg ov_r (rg_0_4 I)) ?_
    refine ov_alen d_196_9 (zb_14 I) (zs_14 I) (by decide) ?_
    show ov_R u d ov_m196 10 [(0, ov_r 0), (1, ov_i m), (2, ov_i b)] [ov_i 4, ov_i m] z h (P_OF_mark_0 z h m b)
    refine ov_icge (tgt := 26) d_196_10 (by decide) (by omega) (by omega) (fun c2 => ?_) (fun c2 => ?_)
    · skip
      refine ov_blk (ls2 := [(0, ov_r 0), (1, ov_i m), (2, ov_i b)]) (st2 := [ov_i 0]) (pc2 := 27) b_196_26_1 rfl rfl ?_
      exact ov_retz (st := []) d_196_27 rfl (by omega) ⟨_, rfl, I, (by show (0 = 0 ∨ 0 = 1) ∧ (h 36 7) = (h 36 7) ∧ (h 1 1) = (h 1 1) ∧ (h 90 2) = (h 90 2) ∧ (h 0 10) = (h 0 10) ∧ (h 0 11) = (h 0 11) ∧ (h 0 12) = (h 0 12) ∧ (h 0 13) = (h 0 13) ∧ (h 3 1) = (h 3 1) ∧ (h 36 8) = (h 36 8) ∧ (h 46 3) = (h 46 3) ∧ (h 46 4) = (h 46 4) ∧ (h 49 4) = (h 49 4) ∧ (h 49 5) = (h 49 5); omega)⟩
    · skip
      refine ov_blk (ls2 := [(0, ov_r 0), (1, ov_i m), (2, ov_i b)]) (st2 := [ov_i b]) (pc2 := 14) b_196_13_1 rfl rfl ?_
      refine ov_ifeq (tgt := 28) d_196_14 (by decide) (by omega) (fun c3 => ?_) (fun c3 => ?_)
      · skip
        refine ov_blk (ls2 := [(0, ov_r 0), (1, ov_i m), (2, ov_i b)]) (st2 := [ov_i b]) (pc2 := 29) b_196_28_1 rfl rfl ?_
        refine ov_ifeq (tgt := 55) d_196_29 (by decide) (by omega) (fun c4 => ?_) (fun c4 => ?_)
        · skip
          refine ov_blk (ls2 := [(0, ov_r 0), (1, ov_i m), (2, ov_i b)]) (st2 := [ov_r 0]) (pc2 := 56) b_196_55_1 rfl rfl ?_
          refine ov_getf (v := ov_r 14) d_196_56 fl_OF_39 (zb_0 I) (zs_0 I) (congrArg ov_r (rg_0_4 I)) ?_
          refine ov_blk (ls2 := [(0, ov_r 0), (1, ov_i m), (2, ov_i b)]) (st2 := [ov_i m, ov_r 14]) (pc2 := 60) b_196_59_1 rfl rfl ?_
          refine ov_aald d_196_60 (zb_14 I) (zs_14 I) (by omega) ?_
          have me5 : m = 0 ∨ m = 1 ∨ m = 2 ∨ m = 3 := by omega
          have ne5 := ra_14 I m
          rcases me5 with e5 | e5 | e5 | e5
          · have re5 : h 14 m = 15 := by omega
            rw [re5]
            show ov_R u d ov_m196 61 [(0, ov_r 0), (1, ov_i m), (2, ov_i b)] [ov_r 15] z h (P_OF_mark_0 z h m b)
            refine ov_blk (ls2 := [(0, ov_r 0), (1, ov_i m), (2, ov_i b)]) (st2 := [ov_r 0, ov_r 15]) (pc2 := 62) b_196_61_1 rfl rfl ?_
            refine ov_getf (v := ov_r 4) d_196_62 fl_OF_28 (zb_0 I) (zs_0 I) (congrArg ov_r (rg_0_2 I)) ?_
            refine ov_cV (as := [ov_r 4]) (st := []) (d2 := d - 1) d_196_65 lk_OF_322 rfl (Nat.le_of_ble_eq_true rfl) (c := 7) (zb_15 I) (zs_15 I) ⟨by decide, rfl⟩ (by omega) (c_State_copy_15_4 (d - 1) (by omega) U I) ?_
            rintro _ z7 h8 ⟨rfl, I9, f6⟩
            show ov_R u d ov_m196 68 [(0, ov_r 0), (1, ov_i m), (2, ov_i b)] [] z7 h8 (P_OF_mark_0 z h m b)
            have f10 : (h8 36 7) = (h 36 7) ∧ (h8 1 1) = (h 1 1) ∧ (h8 90 2) = (h 90 2) ∧ (h8 0 10) = (h 0 10) ∧ (h8 0 11) = (h 0 11) ∧ (h8 0 12) = (h 0 12) ∧ (h8 0 13) = (h 0 13) ∧ (h8 3 1) = (h 3 1) ∧ (h8 36 8) = (h 36 8) ∧ (h8 46 3) = (h 46 3) ∧ (h8 46 4) = (h 46 4) ∧ (h8 49 4) = (h 49 4) ∧ (h8 49 5) = (h 49 5) := f6
            clear f6
            refine ov_blk (ls2 := [(0, ov_r 0), (1, ov_i m), (2, ov_i b)]) (st2 := [ov_r 0]) (pc2 := 69) b_196_68_1 rfl rfl ?_
            refine ov_getf (v := ov_r 35) d_196_69 fl_OF_43 (zb_0 I9) (zs_0 I9) (congrArg ov_r (rg_0_5 I9)) ?_
            refine ov_blk (ls2 := [(0, ov_r 0), (1, ov_i m), (2, ov_i b)]) (st2 := [ov_i 1, ov_i m, ov_r 35]) (pc2 := 74) b_196_72_2 rfl rfl ?_
            refine ov_zast d_196_74 (zb_35 I9) (zs_35 I9) (by omega) (by omega) ?_
            have I11 := ua_35 (k := m) (x := 1) I9 (by omega)
            refine ov_blk (ls2 := [(0, ov_r 0), (1, ov_i m), (2, ov_i b)]) (st2 := [ov_i 1]) (pc2 := 76) b_196_75_1 rfl rfl ?_
            exact ov_retz (st := []) d_196_76 rfl (by omega) ⟨_, rfl, I11, (by show (1 = 0 ∨ 1 = 1) ∧ (h8 36 7) = (h 36 7) ∧ (h8 1 1) = (h 1 1) ∧ (h8 90 2) = (h 90 2) ∧ (h8 0 10) = (h 0 10) ∧ (h8 0 11) = (h 0 11) ∧ (h8 0 12) = (h 0 12) ∧ (h8 0 13) = (h 0 13) ∧ (h8 3 1) = (h 3 1) ∧ (h8 36 8) = (h 36 8) ∧ (h8 46 3) = (h 46 3) ∧ (h8 46 4) = (h 46 4) ∧ (h8 49 4) = (h 49 4) ∧ (h8 49 5) = (h 49 5); omega)⟩
          · have re5 : h 14 m = 20 := by omega
            rw [re5]
            show ov_R u d ov_m196 61 [(0, ov_r 0), (1, ov_i m), (2, ov_i b)] [ov_r 20] z h (P_OF_mark_0 z h m b)
            refine ov_blk (ls2 := [(0, ov_r 0), (1, ov_i m), (2, ov_i b)]) (st2 := [ov_r 0, ov_r 20]) (pc2 := 62) b_196_61_1 rfl rfl ?_
            refine ov_getf (v := ov_r 4) d_196_62 fl_OF_28 (zb_0 I) (zs_0 I) (congrArg ov_r (rg_0_2 I)) ?_
            refine ov_cV (as := [ov_r 4]) (st := []) (d2 := d - 1) d_196_65 lk_OF_322 rfl (Nat.le_of_ble_eq_true rfl) (c := 7) (zb_20 I) (zs_20 I) ⟨by decide, rfl⟩ (by omega) (c_State_copy_20_4 (d - 1) (by omega) U I) ?_
            rintro _ z13 h14 ⟨rfl, I15, f12⟩
            show ov_R u d ov_m196 68 [(0, ov_r 0), (1, ov_i m), (2, ov_i b)] [] z13 h14 (P_OF_mark_0 z h m b)
            have f16 : (h14 36 7) = (h 36 7) ∧ (h14 1 1) = (h 1 1) ∧ (h14 90 2) = (h 90 2) ∧ (h14 0 10) = (h 0 10) ∧ (h14 0 11) = (h 0 11) ∧ (h14 0 12) = (h 0 12) ∧ (h14 0 13) = (h 0 13) ∧ (h14 3 1) = (h 3 1) ∧ (h14 36 8) = (h 36 8) ∧ (h14 46 3) = (h 46 3) ∧ (h14 46 4) = (h 46 4) ∧ (h14 49 4) = (h 49 4) ∧ (h14 49 5) = (h 49 5) := f12
            clear f12
            refine ov_blk (ls2 := [(0, ov_r 0), (1, ov_i m), (2, ov_i b)]) (st2 := [ov_r 0]) (pc2 := 69) b_196_68_1 rfl rfl ?_
            refine ov_getf (v := ov_r 35) d_196_69 fl_OF_43 (zb_0 I15) (zs_0 I15) (congrArg ov_r (rg_0_5 I15)) ?_
            refine ov_blk (ls2 := [(0, ov_r 0), (1, ov_i m), (2, ov_i b)]) (st2 := [ov_i 1, ov_i m, ov_r 35]) (pc2 := 74) b_196_72_2 rfl rfl ?_
            refine ov_zast d_196_74 (zb_35 I15) (zs_35 I15) (by omega) (by omega) ?_
            have I17 := ua_35 (k := m) (x := 1) I15 (by omega)
            refine ov_blk (ls2 := [(0, ov_r 0), (1, ov_i m), (2, ov_i b)]) (st2 := [ov_i 1]) (pc2 := 76) b_196_75_1 rfl rfl ?_
            exact ov_retz (st := []) d_196_76 rfl (by omega) ⟨_, rfl, I17, (by show (1 = 0 ∨ 1 = 1) ∧ (h14 36 7) = (h 36 7) ∧ (h14 1 1) = (h 1 1) ∧ (h14 90 2) = (h 90 2) ∧ (h14 0 10) = (h 0 10) ∧ (h14 0 11) = (h 0 11) ∧ (h14 0 12) = (h 0 12) ∧ (h14 0 13) = (h 0 13) ∧ (h14 3 1) = (h 3 1) ∧ (h14 36 8) = (h 36 8) ∧ (h14 46 3) = (h 46 3) ∧ (h14 46 4) = (h 46 4) ∧ (h14 49 4) = (h 49 4) ∧ (h14 49 5) = (h 49 5); omega)⟩
          · have re5 : h 14 m = 25 := by omega
            rw [re5]
            show ov_R u d ov_m196 61 [(0, ov_r 0), (1, ov_i m), (2, ov_i b)] [ov_r 25] z h (P_OF_mark_0 z h m b)
            refine ov_blk (ls2 := [(0, ov_r 0), (1, ov_i m), (2, ov_i b)]) (st2 := [ov_r 0, ov_r 25]) (pc2 := 62) b_196_61_1 rfl rfl ?_
            refine ov_getf (v := ov_r 4) d_196_62 fl_OF_28 (zb_0 I) (zs_0 I) (congrArg ov_r (rg_0_2 I)) ?_
            refine ov_cV (as := [ov_r 4]) (st := []) (d2 := d - 1) d_196_65 lk_OF_322 rfl (Nat.le_of_ble_eq_true rfl) (c := 7) (zb_25 I) (zs_25 I) ⟨by decide, rfl⟩ (by omega) (c_State_copy_25_4 (d - 1) (by omega) U I) ?_
            rintro _ z19 h20 ⟨rfl, I21, f18⟩
            show ov_R u d ov_m196 68 [(0, ov_r 0), (1, ov_i m), (2, ov_i b)] [] z19 h20 (P_OF_mark_0 z h m b)
            have f22 : (h20 36 7) = (h 36 7) ∧ (h20 1 1) = (h 1 1) ∧ (h20 90 2) = (h 90 2) ∧ (h20 0 10) = (h 0 10) ∧ (h20 0 11) = (h 0 11) ∧ (h20 0 12) = (h 0 12) ∧ (h20 0 13) = (h 0 13) ∧ (h20 3 1) = (h 3 1) ∧ (h20 36 8) = (h 36 8) ∧ (h20 46 3) = (h 46 3) ∧ (h20 46 4) = (h 46 4) ∧ (h20 49 4) = (h 49 4) ∧ (h20 49 5) = (h 49 5) := f18
            clear f18
            refine ov_blk (ls2 := [(0, ov_r 0), (1, ov_i m), (2, ov_i b)]) (st2 := [ov_r 0]) (pc2 := 69) b_196_68_1 rfl rfl ?_
            refine ov_getf (v := ov_r 35) d_196_69 fl_OF_43 (zb_0 I21) (zs_0 I21) (congrArg ov_r (rg_0_5 I21)) ?_
            refine ov_blk (ls2 := [(0, ov_r 0), (1, ov_i m), (2, ov_i b)]) (st2 := [ov_i 1, ov_i m, ov_r 35]) (pc2 := 74) b_196_72_2 rfl rfl ?_
            refine ov_zast d_196_74 (zb_35 I21) (zs_35 I21) (by omega) (by omega) ?_
            have I23 := ua_35 (k := m) (x := 1) I21 (by omega)
            refine ov_blk (ls2 := [(0, ov_r 0), (1, ov_i m), (2, ov_i b)]) (st2 := [ov_i 1]) (pc2 := 76) b_196_75_1 rfl rfl ?_
            exact ov_retz (st := []) d_196_76 rfl (by omega) ⟨_, rfl, I23, (by show (1 = 0 ∨ 1 = 1) ∧ (h20 36 7) = (h 36 7) ∧ (h20 1 1) = (h 1 1) ∧ (h20 90 2) = (h 90 2) ∧ (h20 0 10) = (h 0 10) ∧ (h20 0 11) = (h 0 11) ∧ (h20 0 12) = (h 0 12) ∧ (h20 0 13) = (h 0 13) ∧ (h20 3 1) = (h 3 1) ∧ (h20 36 8) = (h 36 8) ∧ (h20 46 3) = (h 46 3) ∧ (h20 46 4) = (h 46 4) ∧ (h20 49 4) = (h 49 4) ∧ (h20 49 5) = (h 49 5); omega)⟩
          · have re5 : h 14 m = 30 := by omega
            rw [re5]
            show ov_R u d ov_m196 61 [(0, ov_r 0), (1, ov_i m), (2, ov_i b)] [ov_r 30] z h (P_OF_mark_0 z h m b)
            refine ov_blk (ls2 := [(0, ov_r 0), (1, ov_i m), (2, ov_i b)]) (st2 := [ov_r 0, ov_r 30]) (pc2 := 62) b_196_61_1 rfl rfl ?_
            refine ov_getf (v := ov_r 4) d_196_62 fl_OF_28 (zb_0 I) (zs_0 I) (congrArg ov_r (rg_0_2 I)) ?_
            refine ov_cV (as := [ov_r 4]) (st := []) (d2 := d - 1) d_196_65 lk_OF_322 rfl (Nat.le_of_ble_eq_true rfl) (c := 7) (zb_30 I) (zs_30 I) ⟨by decide, rfl⟩ (by omega) (c_State_copy_30_4 (d - 1) (by omega) U I) ?_
            rintro _ z25 h26 ⟨rfl, I27, f24⟩
            show ov_R u d ov_m196 68 [(0, ov_r 0), (1, ov_i m), (2, ov_i b)] [] z25 h26 (P_OF_mark_0 z h m b)
            have f28 : (h26 36 7) = (h 36 7) ∧ (h26 1 1) = (h 1 1) ∧ (h26 90 2) = (h 90 2) ∧ (h26 0 10) = (h 0 10) ∧ (h26 0 11) = (h 0 11) ∧ (h26 0 12) = (h 0 12) ∧ (h26 0 13) = (h 0 13) ∧ (h26 3 1) = (h 3 1) ∧ (h26 36 8) = (h 36 8) ∧ (h26 46 3) = (h 46 3) ∧ (h26 46 4) = (h 46 4) ∧ (h26 49 4) = (h 49 4) ∧ (h26 49 5) = (h 49 5) := f24
            clear f24
            refine ov_blk (ls2 := [(0, ov_r 0), (1, ov_i m), (2, ov_i b)]) (st2 := [ov_r 0]) (pc2 := 69) b_196_68_1 rfl rfl ?_
            refine ov_getf (v := ov_r 35) d_196_69 fl_OF_43 (zb_0 I27) (zs_0 I27) (congrArg ov_r (rg_0_5 I27)) ?_
            refine ov_blk (ls2 := [(0, ov_r 0), (1, ov_i m), (2, ov_i b)]) (st2 := [ov_i 1, ov_i m, ov_r 35]) (pc2 := 74) b_196_72_2 rfl rfl ?_
            refine ov_zast d_196_74 (zb_35 I27) (zs_35 I27) (by omega) (by omega) ?_
            have I29 := ua_35 (k := m) (x := 1) I27 (by omega)
            refine ov_blk (ls2 := [(0, ov_r 0), (1, ov_i m), (2, ov_i b)]) (st2 := [ov_i 1]) (pc2 := 76) b_196_75_1 rfl rfl ?_
            exact ov_retz (st := []) d_196_76 rfl (by omega) ⟨_, rfl, I29, (by show (1 = 0 ∨ 1 = 1) ∧ (h26 36 7) = (h 36 7) ∧ (h26 1 1) = (h 1 1) ∧ (h26 90 2) = (h 90 2) ∧ (h26 0 10) = (h 0 10) ∧ (h26 0 11) = (h 0 11) ∧ (h26 0 12) = (h 0 12) ∧ (h26 0 13) = (h 0 13) ∧ (h26 3 1) = (h 3 1) ∧ (h26 36 8) = (h 36 8) ∧ (h26 46 3) = (h 46 3) ∧ (h26 46 4) = (h 46 4) ∧ (h26 49 4) = (h 49 4) ∧ (h26 49 5) = (h 49 5); omega)⟩
        · skip
          refine ov_blk (ls2 := [(0, ov_r 0), (1, ov_i m), (2, ov_i b)]) (st2 := [ov_r 0]) (pc2 := 33) b_196_32_1 rfl rfl ?_
          refine ov_getf (v := ov_r 4) d_196_33 fl_OF_28 (zb_0 I) (zs_0 I) (congrArg ov_r (rg_0_2 I)) ?_
          refine ov_blk (ls2 := [(0, ov_r 0), (1, ov_i m), (2, ov_i b)]) (st2 := [ov_r 0, ov_r 4]) (pc2 := 37) b_196_36_1 rfl rfl ?_
          refine ov_getf (v := ov_r 14) d_196_37 fl_OF_39 (zb_0 I) (zs_0 I) (congrArg ov_r (rg_0_4 I)) ?_
          refine ov_blk (ls2 := [(0, ov_r 0), (1, ov_i m), (2, ov_i b)]) (st2 := [ov_i m, ov_r 14, ov_r 4]) (pc2 := 41) b_196_40_1 rfl rfl ?_
          refine ov_aald d_196_41 (zb_14 I) (zs_14 I) (by omega) ?_
          have me30 : m = 0 ∨ m = 1 ∨ m = 2 ∨ m = 3 := by omega
          have ne30 := ra_14 I m
          rcases me30 with e30 | e30 | e30 | e30
          · have re30 : h 14 m = 15 := by omega
            rw [re30]
            show ov_R u d ov_m196 42 [(0, ov_r 0), (1, ov_i m), (2, ov_i b)] [ov_r 15, ov_r 4] z h (P_OF_mark_0 z h m b)
            refine ov_cV (as := [ov_r 15]) (st := []) (d2 := d - 1) d_196_42 lk_OF_322 rfl (Nat.le_of_ble_eq_true rfl) (c := 7) (zb_4 I) (zs_4 I) ⟨by decide, rfl⟩ (by omega) (c_State_copy_4_15 (d - 1) (by omega) U I) ?_
            rintro _ z32 h33 ⟨rfl, I34, f31⟩
            show ov_R u d ov_m196 45 [(0, ov_r 0), (1, ov_i m), (2, ov_i b)] [] z32 h33 (P_OF_mark_0 z h m b)
            have f35 : (h33 36 7) = (h 36 7) ∧ (h33 1 1) = (h 1 1) ∧ (h33 90 2) = (h 90 2) ∧ (h33 0 10) = (h 0 10) ∧ (h33 0 11) = (h 0 11) ∧ (h33 0 12) = (h 0 12) ∧ (h33 0 13) = (h 0 13) ∧ (h33 3 1) = (h 3 1) ∧ (h33 36 8) = (h 36 8) ∧ (h33 46 3) = (h 46 3) ∧ (h33 46 4) = (h 46 4) ∧ (h33 49 4) = (h 49 4) ∧ (h33 49 5) = (h 49 5) := f31
            clear f31
            refine ov_blk (ls2 := [(0, ov_r 0), (1, ov_i m), (2, ov_i b)]) (st2 := [ov_r 0]) (pc2 := 46) b_196_45_1 rfl rfl ?_
            refine ov_getf (v := ov_r 9) d_196_46 fl_OF_35 (zb_0 I34) (zs_0 I34) (congrArg ov_r (rg_0_3 I34)) ?_
            refine ov_cV (as := []) (st := []) (d2 := d - 1) d_196_49 lk_OF_115 rfl (Nat.le_of_ble_eq_true rfl) (c := 3) (zb_9 I34) (zs_9 I34) ⟨by decide, rfl⟩ (by omega) (c_History_clear_9 (d - 1) (by omega) U I34) ?_
            rintro _ z37 h38 ⟨rfl, I39, f36⟩
            show ov_R u d ov_m196 52 [(0, ov_r 0), (1, ov_i m), (2, ov_i b)] [] z37 h38 (P_OF_mark_0 z h m b)
            have f40 : (h38 36 7) = (h33 36 7) ∧ (h38 1 1) = (h33 1 1) ∧ (h38 90 2) = (h33 90 2) ∧ (h38 0 10) = (h33 0 10) ∧ (h38 0 11) = (h33 0 11) ∧ (h38 0 12) = (h33 0 12) ∧ (h38 0 13) = (h33 0 13) ∧ (h38 3 1) = (h33 3 1) ∧ (h38 36 8) = (h33 36 8) ∧ (h38 46 3) = (h33 46 3) ∧ (h38 46 4) = (h33 46 4) ∧ (h38 49 4) = (h33 49 4) ∧ (h38 49 5) = (h33 49 5) := f36
            clear f36
            refine ov_goto (tgt := 75) d_196_52 (by decide) ?_
            refine ov_blk (ls2 := [(0, ov_r 0), (1, ov_i m), (2, ov_i b)]) (st2 := [ov_i 1]) (pc2 := 76) b_196_75_1 rfl rfl ?_
            exact ov_retz (st := []) d_196_76 rfl (by omega) ⟨_, rfl, I39, (by show (1 = 0 ∨ 1 = 1) ∧ (h38 36 7) = (h 36 7) ∧ (h38 1 1) = (h 1 1) ∧ (h38 90 2) = (h 90 2) ∧ (h38 0 10) = (h 0 10) ∧ (h38 0 11) = (h 0 11) ∧ (h38 0 12) = (h 0 12) ∧ (h38 0 13) = (h 0 13) ∧ (h38 3 1) = (h 3 1) ∧ (h38 36 8) = (h 36 8) ∧ (h38 46 3) = (h 46 3) ∧ (h38 46 4) = (h 46 4) ∧ (h38 49 4) = (h 49 4) ∧ (h38 49 5) = (h 49 5); omega)⟩
          · have re30 : h 14 m = 20 := by omega
            rw [re30]
            show ov_R u d ov_m196 42 [(0, ov_r 0), (1, ov_i m), (2, ov_i b)] [ov_r 20, ov_r 4] z h (P_OF_mark_0 z h m b)
            refine ov_cV (as := [ov_r 20]) (st := []) (d2 := d - 1) d_196_42 lk_OF_322 rfl (Nat.le_of_ble_eq_true rfl) (c := 7) (zb_4 I) (zs_4 I) ⟨by decide, rfl⟩ (by omega) (c_State_copy_4_20 (d - 1) (by omega) U I) ?_
            rintro _ z42 h43 ⟨rfl, I44, f41⟩
            show ov_R u d ov_m196 45 [(0, ov_r 0), (1, ov_i m), (2, ov_i b)] [] z42 h43 (P_OF_mark_0 z h m b)
            have f45 : (h43 36 7) = (h 36 7) ∧ (h43 1 1) = (h 1 1) ∧ (h43 90 2) = (h 90 2) ∧ (h43 0 10) = (h 0 10) ∧ (h43 0 11) = (h 0 11) ∧ (h43 0 12) = (h 0 12) ∧ (h43 0 13) = (h 0 13) ∧ (h43 3 1) = (h 3 1) ∧ (h43 36 8) = (h 36 8) ∧ (h43 46 3) = (h 46 3) ∧ (h43 46 4) = (h 46 4) ∧ (h43 49 4) = (h 49 4) ∧ (h43 49 5) = (h 49 5) := f41
            clear f41
            refine ov_blk (ls2 := [(0, ov_r 0), (1, ov_i m), (2, ov_i b)]) (st2 := [ov_r 0]) (pc2 := 46) b_196_45_1 rfl rfl ?_
            refine ov_getf (v := ov_r 9) d_196_46 fl_OF_35 (zb_0 I44) (zs_0 I44) (congrArg ov_r (rg_0_3 I44)) ?_
            refine ov_cV (as := []) (st := []) (d2 := d - 1) d_196_49 lk_OF_115 rfl (Nat.le_of_ble_eq_true rfl) (c := 3) (zb_9 I44) (zs_9 I44) ⟨by decide, rfl⟩ (by omega) (c_History_clear_9 (d - 1) (by omega) U I44) ?_
            rintro _ z47 h48 ⟨rfl, I49, f46⟩
            show ov_R u d ov_m196 52 [(0, ov_r 0), (1, ov_i m), (2, ov_i b)] [] z47 h48 (P_OF_mark_0 z h m b)
            have f50 : (h48 36 7) = (h43 36 7) ∧ (h48 1 1) = (h43 1 1) ∧ (h48 90 2) = (h43 90 2) ∧ (h48 0 10) = (h43 0 10) ∧ (h48 0 11) = (h43 0 11) ∧ (h48 0 12) = (h43 0 12) ∧ (h48 0 13) = (h43 0 13) ∧ (h48 3 1) = (h43 3 1) ∧ (h48 36 8) = (h43 36 8) ∧ (h48 46 3) = (h43 46 3) ∧ (h48 46 4) = (h43 46 4) ∧ (h48 49 4) = (h43 49 4) ∧ (h48 49 5) = (h43 49 5) := f46
            clear f46
            refine ov_goto (tgt := 75) d_196_52 (by decide) ?_
            refine ov_blk (ls2 := [(0, ov_r 0), (1, ov_i m), (2, ov_i b)]) (st2 := [ov_i 1]) (pc2 := 76) b_196_75_1 rfl rfl ?_
            exact ov_retz (st := []) d_196_76 rfl (by omega) ⟨_, rfl, I49, (by show (1 = 0 ∨ 1 = 1) ∧ (h48 36 7) = (h 36 7) ∧ (h48 1 1) = (h 1 1) ∧ (h48 90 2) = (h 90 2) ∧ (h48 0 10) = (h 0 10) ∧ (h48 0 11) = (h 0 11) ∧ (h48 0 12) = (h 0 12) ∧ (h48 0 13) = (h 0 13) ∧ (h48 3 1) = (h 3 1) ∧ (h48 36 8) = (h 36 8) ∧ (h48 46 3) = (h 46 3) ∧ (h48 46 4) = (h 46 4) ∧ (h48 49 4) = (h 49 4) ∧ (h48 49 5) = (h 49 5); omega)⟩
          · have re30 : h 14 m = 25 := by omega
            rw [re30]
            show ov_R u d ov_m196 42 [(0, ov_r 0), (1, ov_i m), (2, ov_i b)] [ov_r 25, ov_r 4] z h (P_OF_mark_0 z h m b)
            refine ov_cV (as := [ov_r 25]) (st := []) (d2 := d - 1) d_196_42 lk_OF_322 rfl (Nat.le_of_ble_eq_true rfl) (c := 7) (zb_4 I) (zs_4 I) ⟨by decide, rfl⟩ (by omega) (c_State_copy_4_25 (d - 1) (by omega) U I) ?_
            rintro _ z52 h53 ⟨rfl, I54, f51⟩
            show ov_R u d ov_m196 45 [(0, ov_r 0), (1, ov_i m), (2, ov_i b)] [] z52 h53 (P_OF_mark_0 z h m b)
            have f55 : (h53 36 7) = (h 36 7) ∧ (h53 1 1) = (h 1 1) ∧ (h53 90 2) = (h 90 2) ∧ (h53 0 10) = (h 0 10) ∧ (h53 0 11) = (h 0 11) ∧ (h53 0 12) = (h 0 12) ∧ (h53 0 13) = (h 0 13) ∧ (h53 3 1) = (h 3 1) ∧ (h53 36 8) = (h 36 8) ∧ (h53 46 3) = (h 46 3) ∧ (h53 46 4) = (h 46 4) ∧ (h53 49 4) = (h 49 4) ∧ (h53 49 5) = (h 49 5) := f51
            clear f51
            refine ov_blk (ls2 := [(0, ov_r 0), (1, ov_i m), (2, ov_i b)]) (st2 := [ov_r 0]) (pc2 := 46) b_196_45_1 rfl rfl ?_
            refine ov_getf (v := ov_r 9) d_196_46 fl_OF_35 (zb_0 I54) (zs_0 I54) (congrArg ov_r (rg_0_3 I54)) ?_
            refine ov_cV (as := []) (st := []) (d2 := d - 1) d_196_49 lk_OF_115 rfl (Nat.le_of_ble_eq_true rfl) (c := 3) (zb_9 I54) (zs_9 I54) ⟨by decide, rfl⟩ (by omega) (c_History_clear_9 (d - 1) (by omega) U I54) ?_
            rintro _ z57 h58 ⟨rfl, I59, f56⟩
            show ov_R u d ov_m196 52 [(0, ov_r 0), (1, ov_i m), (2, ov_i b)] [] z57 h58 (P_OF_mark_0 z h m b)
            have f60 : (h58 36 7) = (h53 36 7) ∧ (h58 1 1) = (h53 1 1) ∧ (h58 90 2) = (h53 90 2) ∧ (h58 0 10) = (h53 0 10) ∧ (h58 0 11) = (h53 0 11) ∧ (h58 0 12) = (h53 0 12) ∧ (h58 0 13) = (h53 0 13) ∧ (h58 3 1) = (h53 3 1) ∧ (h58 36 8) = (h53 36 8) ∧ (h58 46 3) = (h53 46 3) ∧ (h58 46 4) = (h53 46 4) ∧ (h58 49 4) = (h53 49 4) ∧ (h58 49 5) = (h53 49 5) := f56
            clear f56
            refine ov_goto (tgt := 75) d_196_52 (by decide) ?_
            refine ov_blk (ls2 := [(0, ov_r 0), (1, ov_i m), (2, ov_i b)]) (st2 := [ov_i 1]) (pc2 := 76) b_196_75_1 rfl rfl ?_
            exact ov_retz (st := []) d_196_76 rfl (by omega) ⟨_, rfl, I59, (by show (1 = 0 ∨ 1 = 1) ∧ (h58 36 7) = (h 36 7) ∧ (h58 1 1) = (h 1 1) ∧ (h58 90 2) = (h 90 2) ∧ (h58 0 10) = (h 0 10) ∧ (h58 0 11) = (h 0 11) ∧ (h58 0 12) = (h 0 12) ∧ (h58 0 13) = (h 0 13) ∧ (h58 3 1) = (h 3 1) ∧ (h58 36 8) = (h 36 8) ∧ (h58 46 3) = (h 46 3) ∧ (h58 46 4) = (h 46 4) ∧ (h58 49 4) = (h 49 4) ∧ (h58 49 5) = (h 49 5); omega)⟩
          · have re30 : h 14 m = 30 := by omega
            rw [re30]
            show ov_R u d ov_m196 42 [(0, ov_r 0), (1, ov_i m), (2, ov_i b)] [ov_r 30, ov_r 4] z h (P_OF_mark_0 z h m b)
            refine ov_cV (as := [ov_r 30]) (st := []) (d2 := d - 1) d_196_42 lk_OF_322 rfl (Nat.le_of_ble_eq_true rfl) (c := 7) (zb_4 I) (zs_4 I) ⟨by decide, rfl⟩ (by omega) (c_State_copy_4_30 (d - 1) (by omega) U I) ?_
            rintro _ z62 h63 ⟨rfl, I64, f61⟩
            show ov_R u d ov_m196 45 [(0, ov_r 0), (1, ov_i m), (2, ov_i b)] [] z62 h63 (P_OF_mark_0 z h m b)
            have f65 : (h63 36 7) = (h 36 7) ∧ (h63 1 1) = (h 1 1) ∧ (h63 90 2) = (h 90 2) ∧ (h63 0 10) = (h 0 10) ∧ (h63 0 11) = (h 0 11) ∧ (h63 0 12) = (h 0 12) ∧ (h63 0 13) = (h 0 13) ∧ (h63 3 1) = (h 3 1) ∧ (h63 36 8) = (h 36 8) ∧ (h63 46 3) = (h 46 3) ∧ (h63 46 4) = (h 46 4) ∧ (h63 49 4) = (h 49 4) ∧ (h63 49 5) = (h 49 5) := f61
            clear f61
            refine ov_blk (ls2 := [(0, ov_r 0), (1, ov_i m), (2, ov_i b)]) (st2 := [ov_r 0]) (pc2 := 46) b_196_45_1 rfl rfl ?_
            refine ov_getf (v := ov_r 9) d_196_46 fl_OF_35 (zb_0 I64) (zs_0 I64) (congrArg ov_r (rg_0_3 I64)) ?_
            refine ov_cV (as := []) (st := []) (d2 := d - 1) d_196_49 lk_OF_115 rfl (Nat.le_of_ble_eq_true rfl) (c := 3) (zb_9 I64) (zs_9 I64) ⟨by decide, rfl⟩ (by omega) (c_History_clear_9 (d - 1) (by omega) U I64) ?_
            rintro _ z67 h68 ⟨rfl, I69, f66⟩
            show ov_R u d ov_m196 52 [(0, ov_r 0), (1, ov_i m), (2, ov_i b)] [] z67 h68 (P_OF_mark_0 z h m b)
            have f70 : (h68 36 7) = (h63 36 7) ∧ (h68 1 1) = (h63 1 1) ∧ (h68 90 2) = (h63 90 2) ∧ (h68 0 10) = (h63 0 10) ∧ (h68 0 11) = (h63 0 11) ∧ (h68 0 12) = (h63 0 12) ∧ (h68 0 13) = (h63 0 13) ∧ (h68 3 1) = (h63 3 1) ∧ (h68 36 8) = (h63 36 8) ∧ (h68 46 3) = (h63 46 3) ∧ (h68 46 4) = (h63 46 4) ∧ (h68 49 4) = (h63 49 4) ∧ (h68 49 5) = (h63 49 5) := f66
            clear f66
            refine ov_goto (tgt := 75) d_196_52 (by decide) ?_
            refine ov_blk (ls2 := [(0, ov_r 0), (1, ov_i m), (2, ov_i b)]) (st2 := [ov_i 1]) (pc2 := 76) b_196_75_1 rfl rfl ?_
            exact ov_retz (st := []) d_196_76 rfl (by omega) ⟨_, rfl, I69, (by show (1 = 0 ∨ 1 = 1) ∧ (h68 36 7) = (h 36 7) ∧ (h68 1 1) = (h 1 1) ∧ (h68 90 2) = (h 90 2) ∧ (h68 0 10) = (h 0 10) ∧ (h68 0 11) = (h 0 11) ∧ (h68 0 12) = (h 0 12) ∧ (h68 0 13) = (h 0 13) ∧ (h68 3 1) = (h 3 1) ∧ (h68 36 8) = (h 36 8) ∧ (h68 46 3) = (h 46 3) ∧ (h68 46 4) = (h 46 4) ∧ (h68 49 4) = (h 49 4) ∧ (h68 49 5) = (h 49 5); omega)⟩
      · skip
        refine ov_blk (ls2 := [(0, ov_r 0), (1, ov_i m), (2, ov_i b)]) (st2 := [ov_r 0]) (pc2 := 18) b_196_17_1 rfl rfl ?_
        refine ov_getf (v := ov_r 35) d_196_18 fl_OF_43 (zb_0 I) (zs_0 I) (congrArg ov_r (rg_0_5 I)) ?_
        refine ov_blk (ls2 := [(0, ov_r 0), (1, ov_i m), (2, ov_i b)]) (st2 := [ov_i m, ov_r 35]) (pc2 := 22) b_196_21_1 rfl rfl ?_
        refine ov_zald d_196_22 (zb_35 I) (zs_35 I) (by omega) ?_
        have g71 := ra_35 I m
        refine ov_ifne (tgt := 28) d_196_23 (by decide) (by omega) (fun c72 => ?_) (fun c72 => ?_)
        · skip
          refine ov_blk (ls2 := [(0, ov_r 0), (1, ov_i m), (2, ov_i b)]) (st2 := [ov_i b]) (pc2 := 29) b_196_28_1 rfl rfl ?_
          refine ov_ifeq (tgt := 55) d_196_29 (by decide) (by omega) (fun c73 => ?_) (fun c73 => ?_)
          · skip
            refine ov_blk (ls2 := [(0, ov_r 0), (1, ov_i m), (2, ov_i b)]) (st2 := [ov_r 0]) (pc2 := 56) b_196_55_1 rfl rfl ?_
            refine ov_getf (v := ov_r 14) d_196_56 fl_OF_39 (zb_0 I) (zs_0 I) (congrArg ov_r (rg_0_4 I)) ?_
            refine ov_blk (ls2 := [(0, ov_r 0), (1, ov_i m), (2, ov_i b)]) (st2 := [ov_i m, ov_r 14]) (pc2 := 60) b_196_59_1 rfl rfl ?_
            refine ov_aald d_196_60 (zb_14 I) (zs_14 I) (by omega) ?_
            have me74 : m = 0 ∨ m = 1 ∨ m = 2 ∨ m = 3 := by omega
            have ne74 := ra_14 I m
            rcases me74 with e74 | e74 | e74 | e74
            · have re74 : h 14 m = 15 := by omega
              rw [re74]
              show ov_R u d ov_m196 61 [(0, ov_r 0), (1, ov_i m), (2, ov_i b)] [ov_r 15] z h (P_OF_mark_0 z h m b)
              refine ov_blk (ls2 := [(0, ov_r 0), (1, ov_i m), (2, ov_i b)]) (st2 := [ov_r 0, ov_r 15]) (pc2 := 62) b_196_61_1 rfl rfl ?_
              refine ov_getf (v := ov_r 4) d_196_62 fl_OF_28 (zb_0 I) (zs_0 I) (congrArg ov_r (rg_0_2 I)) ?_
              refine ov_cV (as := [ov_r 4]) (st := []) (d2 := d - 1) d_196_65 lk_OF_322 rfl (Nat.le_of_ble_eq_true rfl) (c := 7) (zb_15 I) (zs_15 I) ⟨by decide, rfl⟩ (by omega) (c_State_copy_15_4 (d - 1) (by omega) U I) ?_
              rintro _ z76 h77 ⟨rfl, I78, f75⟩
              show ov_R u d ov_m196 68 [(0, ov_r 0), (1, ov_i m), (2, ov_i b)] [] z76 h77 (P_OF_mark_0 z h m b)
              have f79 : (h77 36 7) = (h 36 7) ∧ (h77 1 1) = (h 1 1) ∧ (h77 90 2) = (h 90 2) ∧ (h77 0 10) = (h 0 10) ∧ (h77 0 11) = (h 0 11) ∧ (h77 0 12) = (h 0 12) ∧ (h77 0 13) = (h 0 13) ∧ (h77 3 1) = (h 3 1) ∧ (h77 36 8) = (h 36 8) ∧ (h77 46 3) = (h 46 3) ∧ (h77 46 4) = (h 46 4) ∧ (h77 49 4) = (h 49 4) ∧ (h77 49 5) = (h 49 5) := f75
              clear f75
              refine ov_blk (ls2 := [(0, ov_r 0), (1, ov_i m), (2, ov_i b)]) (st2 := [ov_r 0]) (pc2 := 69) b_196_68_1 rfl rfl ?_
              refine ov_getf (v := ov_r 35) d_196_69 fl_OF_43 (zb_0 I78) (zs_0 I78) (congrArg ov_r (rg_0_5 I78)) ?_
              refine ov_blk (ls2 := [(0, ov_r 0), (1, ov_i m), (2, ov_i b)]) (st2 := [ov_i 1, ov_i m, ov_r 35]) (pc2 := 74) b_196_72_2 rfl rfl ?_
              refine ov_zast d_196_74 (zb_35 I78) (zs_35 I78) (by omega) (by omega) ?_
              have I80 := ua_35 (k := m) (x := 1) I78 (by omega)
              refine ov_blk (ls2 := [(0, ov_r 0), (1, ov_i m), (2, ov_i b)]) (st2 := [ov_i 1]) (pc2 := 76) b_196_75_1 rfl rfl ?_
              exact ov_retz (st := []) d_196_76 rfl (by omega) ⟨_, rfl, I80, (by show (1 = 0 ∨ 1 = 1) ∧ (h77 36 7) = (h 36 7) ∧ (h77 1 1) = (h 1 1) ∧ (h77 90 2) = (h 90 2) ∧ (h77 0 10) = (h 0 10) ∧ (h77 0 11) = (h 0 11) ∧ (h77 0 12) = (h 0 12) ∧ (h77 0 13) = (h 0 13) ∧ (h77 3 1) = (h 3 1) ∧ (h77 36 8) = (h 36 8) ∧ (h77 46 3) = (h 46 3) ∧ (h77 46 4) = (h 46 4) ∧ (h77 49 4) = (h 49 4) ∧ (h77 49 5) = (h 49 5); omega)⟩
            · have re74 : h 14 m = 20 := by omega
              rw [re74]
              show ov_R u d ov_m196 61 [(0, ov_r 0), (1, ov_i m), (2, ov_i b)] [ov_r 20] z h (P_OF_mark_0 z h m b)
              refine ov_blk (ls2 := [(0, ov_r 0), (1, ov_i m), (2, ov_i b)]) (st2 := [ov_r 0, ov_r 20]) (pc2 := 62) b_196_61_1 rfl rfl ?_
              refine ov_getf (v := ov_r 4) d_196_62 fl_OF_28 (zb_0 I) (zs_0 I) (congrArg ov_r (rg_0_2 I)) ?_
              refine ov_cV (as := [ov_r 4]) (st := []) (d2 := d - 1) d_196_65 lk_OF_322 rfl (Nat.le_of_ble_eq_true rfl) (c := 7) (zb_20 I) (zs_20 I) ⟨by decide, rfl⟩ (by omega) (c_State_copy_20_4 (d - 1) (by omega) U I) ?_
              rintro _ z82 h83 ⟨rfl, I84, f81⟩
              show ov_R u d ov_m196 68 [(0, ov_r 0), (1, ov_i m), (2, ov_i b)] [] z82 h83 (P_OF_mark_0 z h m b)
              have f85 : (h83 36 7) = (h 36 7) ∧ (h83 1 1) = (h 1 1) ∧ (h83 90 2) = (h 90 2) ∧ (h83 0 10) = (h 0 10) ∧ (h83 0 11) = (h 0 11) ∧ (h83 0 12) = (h 0 12) ∧ (h83 0 13) = (h 0 13) ∧ (h83 3 1) = (h 3 1) ∧ (h83 36 8) = (h 36 8) ∧ (h83 46 3) = (h 46 3) ∧ (h83 46 4) = (h 46 4) ∧ (h83 49 4) = (h 49 4) ∧ (h83 49 5) = (h 49 5) := f81
              clear f81
              refine ov_blk (ls2 := [(0, ov_r 0), (1, ov_i m), (2, ov_i b)]) (st2 := [ov_r 0]) (pc2 := 69) b_196_68_1 rfl rfl ?_
              refine ov_getf (v := ov_r 35) d_196_69 fl_OF_43 (zb_0 I84) (zs_0 I84) (congrArg ov_r (rg_0_5 I84)) ?_
              refine ov_blk (ls2 := [(0, ov_r 0), (1, ov_i m), (2, ov_i b)]) (st2 := [ov_i 1, ov_i m, ov_r 35]) (pc2 := 74) b_196_72_2 rfl rfl ?_
              refine ov_zast d_196_74 (zb_35 I84) (zs_35 I84) (by omega) (by omega) ?_
              have I86 := ua_35 (k := m) (x := 1) I84 (by omega)
              refine ov_blk (ls2 := [(0, ov_r 0), (1, ov_i m), (2, ov_i b)]) (st2 := [ov_i 1]) (pc2 := 76) b_196_75_1 rfl rfl ?_
              exact ov_retz (st := []) d_196_76 rfl (by omega) ⟨_, rfl, I86, (by show (1 = 0 ∨ 1 = 1) ∧ (h83 36 7) = (h 36 7) ∧ (h83 1 1) = (h 1 1) ∧ (h83 90 2) = (h 90 2) ∧ (h83 0 10) = (h 0 10) ∧ (h83 0 11) = (h 0 11) ∧ (h83 0 12) = (h 0 12) ∧ (h83 0 13) = (h 0 13) ∧ (h83 3 1) = (h 3 1) ∧ (h83 36 8) = (h 36 8) ∧ (h83 46 3) = (h 46 3) ∧ (h83 46 4) = (h 46 4) ∧ (h83 49 4) = (h 49 4) ∧ (h83 49 5) = (h 49 5); omega)⟩
            · have re74 : h 14 m = 25 := by omega
              rw [re74]
              show ov_R u d ov_m196 61 [(0, ov_r 0), (1, ov_i m), (2, ov_i b)] [ov_r 25] z h (P_OF_mark_0 z h m b)
              refine ov_blk (ls2 := [(0, ov_r 0), (1, ov_i m), (2, ov_i b)]) (st2 := [ov_r 0, ov_r 25]) (pc2 := 62) b_196_61_1 rfl rfl ?_
              refine ov_getf (v := ov_r 4) d_196_62 fl_OF_28 (zb_0 I) (zs_0 I) (congrArg ov_r (rg_0_2 I)) ?_
              refine ov_cV (as := [ov_r 4]) (st := []) (d2 := d - 1) d_196_65 lk_OF_322 rfl (Nat.le_of_ble_eq_true rfl) (c := 7) (zb_25 I) (zs_25 I) ⟨by decide, rfl⟩ (by omega) (c_State_copy_25_4 (d - 1) (by omega) U I) ?_
              rintro _ z88 h89 ⟨rfl, I90, f87⟩
              show ov_R u d ov_m196 68 [(0, ov_r 0), (1, ov_i m), (2, ov_i b)] [] z88 h89 (P_OF_mark_0 z h m b)
              have f91 : (h89 36 7) = (h 36 7) ∧ (h89 1 1) = (h 1 1) ∧ (h89 90 2) = (h 90 2) ∧ (h89 0 10) = (h 0 10) ∧ (h89 0 11) = (h 0 11) ∧ (h89 0 12) = (h 0 12) ∧ (h89 0 13) = (h 0 13) ∧ (h89 3 1) = (h 3 1) ∧ (h89 36 8) = (h 36 8) ∧ (h89 46 3) = (h 46 3) ∧ (h89 46 4) = (h 46 4) ∧ (h89 49 4) = (h 49 4) ∧ (h89 49 5) = (h 49 5) := f87
              clear f87
              refine ov_blk (ls2 := [(0, ov_r 0), (1, ov_i m), (2, ov_i b)]) (st2 := [ov_r 0]) (pc2 := 69) b_196_68_1 rfl rfl ?_
              refine ov_getf (v := ov_r 35) d_196_69 fl_OF_43 (zb_0 I90) (zs_0 I90) (congrArg ov_r (rg_0_5 I90)) ?_
              refine ov_blk (ls2 := [(0, ov_r 0), (1, ov_i m), (2, ov_i b)]) (st2 := [ov_i 1, ov_i m, ov_r 35]) (pc2 := 74) b_196_72_2 rfl rfl ?_
              refine ov_zast d_196_74 (zb_35 I90) (zs_35 I90) (by omega) (by omega) ?_
              have I92 := ua_35 (k := m) (x := 1) I90 (by omega)
              refine ov_blk (ls2 := [(0, ov_r 0), (1, ov_i m), (2, ov_i b)]) (st2 := [ov_i 1]) (pc2 := 76) b_196_75_1 rfl rfl ?_
              exact ov_retz (st := []) d_196_76 rfl (by omega) ⟨_, rfl, I92, (by show (1 = 0 ∨ 1 = 1) ∧ (h89 36 7) = (h 36 7) ∧ (h89 1 1) = (h 1 1) ∧ (h89 90 2) = (h 90 2) ∧ (h89 0 10) = (h 0 10) ∧ (h89 0 11) = (h 0 11) ∧ (h89 0 12) = (h 0 12) ∧ (h89 0 13) = (h 0 13) ∧ (h89 3 1) = (h 3 1) ∧ (h89 36 8) = (h 36 8) ∧ (h89 46 3) = (h 46 3) ∧ (h89 46 4) = (h 46 4) ∧ (h89 49 4) = (h 49 4) ∧ (h89 49 5) = (h 49 5); omega)⟩
            · have re74 : h 14 m = 30 := by omega
              rw [re74]
              show ov_R u d ov_m196 61 [(0, ov_r 0), (1, ov_i m), (2, ov_i b)] [ov_r 30] z h (P_OF_mark_0 z h m b)
              refine ov_blk (ls2 := [(0, ov_r 0), (1, ov_i m), (2, ov_i b)]) (st2 := [ov_r 0, ov_r 30]) (pc2 := 62) b_196_61_1 rfl rfl ?_
              refine ov_getf (v := ov_r 4) d_196_62 fl_OF_28 (zb_0 I) (zs_0 I) (congrArg ov_r (rg_0_2 I)) ?_
              refine ov_cV (as := [ov_r 4]) (st := []) (d2 := d - 1) d_196_65 lk_OF_322 rfl (Nat.le_of_ble_eq_true rfl) (c := 7) (zb_30 I) (zs_30 I) ⟨by decide, rfl⟩ (by omega) (c_State_copy_30_4 (d - 1) (by omega) U I) ?_
              rintro _ z94 h95 ⟨rfl, I96, f93⟩
              show ov_R u d ov_m196 68 [(0, ov_r 0), (1, ov_i m), (2, ov_i b)] [] z94 h95 (P_OF_mark_0 z h m b)
              have f97 : (h95 36 7) = (h 36 7) ∧ (h95 1 1) = (h 1 1) ∧ (h95 90 2) = (h 90 2) ∧ (h95 0 10) = (h 0 10) ∧ (h95 0 11) = (h 0 11) ∧ (h95 0 12) = (h 0 12) ∧ (h95 0 13) = (h 0 13) ∧ (h95 3 1) = (h 3 1) ∧ (h95 36 8) = (h 36 8) ∧ (h95 46 3) = (h 46 3) ∧ (h95 46 4) = (h 46 4) ∧ (h95 49 4) = (h 49 4) ∧ (h95 49 5) = (h 49 5) := f93
              clear f93
              refine ov_blk (ls2 := [(0, ov_r 0), (1, ov_i m), (2, ov_i b)]) (st2 := [ov_r 0]) (pc2 := 69) b_196_68_1 rfl rfl ?_
              refine ov_getf (v := ov_r 35) d_196_69 fl_OF_43 (zb_0 I96) (zs_0 I96) (congrArg ov_r (rg_0_5 I96)) ?_
              refine ov_blk (ls2 := [(0, ov_r 0), (1, ov_i m), (2, ov_i b)]) (st2 := [ov_i 1, ov_i m, ov_r 35]) (pc2 := 74) b_196_72_2 rfl rfl ?_
              refine ov_zast d_196_74 (zb_35 I96) (zs_35 I96) (by omega) (by omega) ?_
              have I98 := ua_35 (k := m) (x := 1) I96 (by omega)
              refine ov_blk (ls2 := [(0, ov_r 0), (1, ov_i m), (2, ov_i b)]) (st2 := [ov_i 1]) (pc2 := 76) b_196_75_1 rfl rfl ?_
              exact ov_retz (st := []) d_196_76 rfl (by omega) ⟨_, rfl, I98, (by show (1 = 0 ∨ 1 = 1) ∧ (h95 36 7) = (h 36 7) ∧ (h95 1 1) = (h 1 1) ∧ (h95 90 2) = (h 90 2) ∧ (h95 0 10) = (h 0 10) ∧ (h95 0 11) = (h 0 11) ∧ (h95 0 12) = (h 0 12) ∧ (h95 0 13) = (h 0 13) ∧ (h95 3 1) = (h 3 1) ∧ (h95 36 8) = (h 36 8) ∧ (h95 46 3) = (h 46 3) ∧ (h95 46 4) = (h 46 4) ∧ (h95 49 4) = (h 49 4) ∧ (h95 49 5) = (h 49 5); omega)⟩
          · skip
            refine ov_blk (ls2 := [(0, ov_r 0), (1, ov_i m), (2, ov_i b)]) (st2 := [ov_r 0]) (pc2 := 33) b_196_32_1 rfl rfl ?_
            refine ov_getf (v := ov_r 4) d_196_33 fl_OF_28 (zb_0 I) (zs_0 I) (congrArg ov_r (rg_0_2 I)) ?_
            refine ov_blk (ls2 := [(0, ov_r 0), (1, ov_i m), (2, ov_i b)]) (st2 := [ov_r 0, ov_r 4]) (pc2 := 37) b_196_36_1 rfl rfl ?_
            refine ov_getf (v := ov_r 14) d_196_37 fl_OF_39 (zb_0 I) (zs_0 I) (congrArg ov_r (rg_0_4 I)) ?_
            refine ov_blk (ls2 := [(0, ov_r 0), (1, ov_i m), (2, ov_i b)]) (st2 := [ov_i m, ov_r 14, ov_r 4]) (pc2 := 41) b_196_40_1 rfl rfl ?_
            refine ov_aald d_196_41 (zb_14 I) (zs_14 I) (by omega) ?_
            have me99 : m = 0 ∨ m = 1 ∨ m = 2 ∨ m = 3 := by omega
            have ne99 := ra_14 I m
            rcases me99 with e99 | e99 | e99 | e99
            · have re99 : h 14 m = 15 := by omega
              rw [re99]
              show ov_R u d ov_m196 42 [(0, ov_r 0), (1, ov_i m), (2, ov_i b)] [ov_r 15, ov_r 4] z h (P_OF_mark_0 z h m b)
              refine ov_cV (as := [ov_r 15]) (st := []) (d2 := d - 1) d_196_42 lk_OF_322 rfl (Nat.le_of_ble_eq_true rfl) (c := 7) (zb_4 I) (zs_4 I) ⟨by decide, rfl⟩ (by omega) (c_State_copy_4_15 (d - 1) (by omega) U I) ?_
              rintro _ z101 h102 ⟨rfl, I103, f100⟩
              show ov_R u d ov_m196 45 [(0, ov_r 0), (1, ov_i m), (2, ov_i b)] [] z101 h102 (P_OF_mark_0 z h m b)
              have f104 : (h102 36 7) = (h 36 7) ∧ (h102 1 1) = (h 1 1) ∧ (h102 90 2) = (h 90 2) ∧ (h102 0 10) = (h 0 10) ∧ (h102 0 11) = (h 0 11) ∧ (h102 0 12) = (h 0 12) ∧ (h102 0 13) = (h 0 13) ∧ (h102 3 1) = (h 3 1) ∧ (h102 36 8) = (h 36 8) ∧ (h102 46 3) = (h 46 3) ∧ (h102 46 4) = (h 46 4) ∧ (h102 49 4) = (h 49 4) ∧ (h102 49 5) = (h 49 5) := f100
              clear f100
              refine ov_blk (ls2 := [(0, ov_r 0), (1, ov_i m), (2, ov_i b)]) (st2 := [ov_r 0]) (pc2 := 46) b_196_45_1 rfl rfl ?_
              refine ov_getf (v := ov_r 9) d_196_46 fl_OF_35 (zb_0 I103) (zs_0 I103) (congrArg ov_r (rg_0_3 I103)) ?_
              refine ov_cV (as := []) (st := []) (d2 := d - 1) d_196_49 lk_OF_115 rfl (Nat.le_of_ble_eq_true rfl) (c := 3) (zb_9 I103) (zs_9 I103) ⟨by decide, rfl⟩ (by omega) (c_History_clear_9 (d - 1) (by omega) U I103) ?_
              rintro _ z106 h107 ⟨rfl, I108, f105⟩
              show ov_R u d ov_m196 52 [(0, ov_r 0), (1, ov_i m), (2, ov_i b)] [] z106 h107 (P_OF_mark_0 z h m b)
              have f109 : (h107 36 7) = (h102 36 7) ∧ (h107 1 1) = (h102 1 1) ∧ (h107 90 2) = (h102 90 2) ∧ (h107 0 10) = (h102 0 10) ∧ (h107 0 11) = (h102 0 11) ∧ (h107 0 12) = (h102 0 12) ∧ (h107 0 13) = (h102 0 13) ∧ (h107 3 1) = (h102 3 1) ∧ (h107 36 8) = (h102 36 8) ∧ (h107 46 3) = (h102 46 3) ∧ (h107 46 4) = (h102 46 4) ∧ (h107 49 4) = (h102 49 4) ∧ (h107 49 5) = (h102 49 5) := f105
              clear f105
              refine ov_goto (tgt := 75) d_196_52 (by decide) ?_
              refine ov_blk (ls2 := [(0, ov_r 0), (1, ov_i m), (2, ov_i b)]) (st2 := [ov_i 1]) (pc2 := 76) b_196_75_1 rfl rfl ?_
              exact ov_retz (st := []) d_196_76 rfl (by omega) ⟨_, rfl, I108, (by show (1 = 0 ∨ 1 = 1) ∧ (h107 36 7) = (h 36 7) ∧ (h107 1 1) = (h 1 1) ∧ (h107 90 2) = (h 90 2) ∧ (h107 0 10) = (h 0 10) ∧ (h107 0 11) = (h 0 11) ∧ (h107 0 12) = (h 0 12) ∧ (h107 0 13) = (h 0 13) ∧ (h107 3 1) = (h 3 1) ∧ (h107 36 8) = (h 36 8) ∧ (h107 46 3) = (h 46 3) ∧ (h107 46 4) = (h 46 4) ∧ (h107 49 4) = (h 49 4) ∧ (h107 49 5) = (h 49 5); omega)⟩
            · have re99 : h 14 m = 20 := by omega
              rw [re99]
              show ov_R u d ov_m196 42 [(0, ov_r 0), (1, ov_i m), (2, ov_i b)] [ov_r 20, ov_r 4] z h (P_OF_mark_0 z h m b)
              refine ov_cV (as := [ov_r 20]) (st := []) (d2 := d - 1) d_196_42 lk_OF_322 rfl (Nat.le_of_ble_eq_true rfl) (c := 7) (zb_4 I) (zs_4 I) ⟨by decide, rfl⟩ (by omega) (c_State_copy_4_20 (d - 1) (by omega) U I) ?_
              rintro _ z111 h112 ⟨rfl, I113, f110⟩
              show ov_R u d ov_m196 45 [(0, ov_r 0), (1, ov_i m), (2, ov_i b)] [] z111 h112 (P_OF_mark_0 z h m b)
              have f114 : (h112 36 7) = (h 36 7) ∧ (h112 1 1) = (h 1 1) ∧ (h112 90 2) = (h 90 2) ∧ (h112 0 10) = (h 0 10) ∧ (h112 0 11) = (h 0 11) ∧ (h112 0 12) = (h 0 12) ∧ (h112 0 13) = (h 0 13) ∧ (h112 3 1) = (h 3 1) ∧ (h112 36 8) = (h 36 8) ∧ (h112 46 3) = (h 46 3) ∧ (h112 46 4) = (h 46 4) ∧ (h112 49 4) = (h 49 4) ∧ (h112 49 5) = (h 49 5) := f110
              clear f110
              refine ov_blk (ls2 := [(0, ov_r 0), (1, ov_i m), (2, ov_i b)]) (st2 := [ov_r 0]) (pc2 := 46) b_196_45_1 rfl rfl ?_
              refine ov_getf (v := ov_r 9) d_196_46 fl_OF_35 (zb_0 I113) (zs_0 I113) (congrArg ov_r (rg_0_3 I113)) ?_
              refine ov_cV (as := []) (st := []) (d2 := d - 1) d_196_49 lk_OF_115 rfl (Nat.le_of_ble_eq_true rfl) (c := 3) (zb_9 I113) (zs_9 I113) ⟨by decide, rfl⟩ (by omega) (c_History_clear_9 (d - 1) (by omega) U I113) ?_
              rintro _ z116 h117 ⟨rfl, I118, f115⟩
              show ov_R u d ov_m196 52 [(0, ov_r 0), (1, ov_i m), (2, ov_i b)] [] z116 h117 (P_OF_mark_0 z h m b)
              have f119 : (h117 36 7) = (h112 36 7) ∧ (h117 1 1) = (h112 1 1) ∧ (h117 90 2) = (h112 90 2) ∧ (h117 0 10) = (h112 0 10) ∧ (h117 0 11) = (h112 0 11) ∧ (h117 0 12) = (h112 0 12) ∧ (h117 0 13) = (h112 0 13) ∧ (h117 3 1) = (h112 3 1) ∧ (h117 36 8) = (h112 36 8) ∧ (h117 46 3) = (h112 46 3) ∧ (h117 46 4) = (h112 46 4) ∧ (h117 49 4) = (h112 49 4) ∧ (h117 49 5) = (h112 49 5) := f115
              clear f115
              refine ov_goto (tgt := 75) d_196_52 (by decide) ?_
              refine ov_blk (ls2 := [(0, ov_r 0), (1, ov_i m), (2, ov_i b)]) (st2 := [ov_i 1]) (pc2 := 76) b_196_75_1 rfl rfl ?_
              exact ov_retz (st := []) d_196_76 rfl (by omega) ⟨_, rfl, I118, (by show (1 = 0 ∨ 1 = 1) ∧ (h117 36 7) = (h 36 7) ∧ (h117 1 1) = (h 1 1) ∧ (h117 90 2) = (h 90 2) ∧ (h117 0 10) = (h 0 10) ∧ (h117 0 11) = (h 0 11) ∧ (h117 0 12) = (h 0 12) ∧ (h117 0 13) = (h 0 13) ∧ (h117 3 1) = (h 3 1) ∧ (h117 36 8) = (h 36 8) ∧ (h117 46 3) = (h 46 3) ∧ (h117 46 4) = (h 46 4) ∧ (h117 49 4) = (h 49 4) ∧ (h117 49 5) = (h 49 5); omega)⟩
            · have re99 : h 14 m = 25 := by omega
              rw [re99]
              show ov_R u d ov_m196 42 [(0, ov_r 0), (1, ov_i m), (2, ov_i b)] [ov_r 25, ov_r 4] z h (P_OF_mark_0 z h m b)
              refine ov_cV (as := [ov_r 25]) (st := []) (d2 := d - 1) d_196_42 lk_OF_322 rfl (Nat.le_of_ble_eq_true rfl) (c := 7) (zb_4 I) (zs_4 I) ⟨by decide, rfl⟩ (by omega) (c_State_copy_4_25 (d - 1) (by omega) U I) ?_
              rintro _ z121 h122 ⟨rfl, I123, f120⟩
              show ov_R u d ov_m196 45 [(0, ov_r 0), (1, ov_i m), (2, ov_i b)] [] z121 h122 (P_OF_mark_0 z h m b)
              have f124 : (h122 36 7) = (h 36 7) ∧ (h122 1 1) = (h 1 1) ∧ (h122 90 2) = (h 90 2) ∧ (h122 0 10) = (h 0 10) ∧ (h122 0 11) = (h 0 11) ∧ (h122 0 12) = (h 0 12) ∧ (h122 0 13) = (h 0 13) ∧ (h122 3 1) = (h 3 1) ∧ (h122 36 8) = (h 36 8) ∧ (h122 46 3) = (h 46 3) ∧ (h122 46 4) = (h 46 4) ∧ (h122 49 4) = (h 49 4) ∧ (h122 49 5) = (h 49 5) := f120
              clear f120
              refine ov_blk (ls2 := [(0, ov_r 0), (1, ov_i m), (2, ov_i b)]) (st2 := [ov_r 0]) (pc2 := 46) b_196_45_1 rfl rfl ?_
              refine ov_getf (v := ov_r 9) d_196_46 fl_OF_35 (zb_0 I123) (zs_0 I123) (congrArg ov_r (rg_0_3 I123)) ?_
              refine ov_cV (as := []) (st := []) (d2 := d - 1) d_196_49 lk_OF_115 rfl (Nat.le_of_ble_eq_true rfl) (c := 3) (zb_9 I123) (zs_9 I123) ⟨by decide, rfl⟩ (by omega) (c_History_clear_9 (d - 1) (by omega) U I123) ?_
              rintro _ z126 h127 ⟨rfl, I128, f125⟩
              show ov_R u d ov_m196 52 [(0, ov_r 0), (1, ov_i m), (2, ov_i b)] [] z126 h127 (P_OF_mark_0 z h m b)
              have f129 : (h127 36 7) = (h122 36 7) ∧ (h127 1 1) = (h122 1 1) ∧ (h127 90 2) = (h122 90 2) ∧ (h127 0 10) = (h122 0 10) ∧ (h127 0 11) = (h122 0 11) ∧ (h127 0 12) = (h122 0 12) ∧ (h127 0 13) = (h122 0 13) ∧ (h127 3 1) = (h122 3 1) ∧ (h127 36 8) = (h122 36 8) ∧ (h127 46 3) = (h122 46 3) ∧ (h127 46 4) = (h122 46 4) ∧ (h127 49 4) = (h122 49 4) ∧ (h127 49 5) = (h122 49 5) := f125
              clear f125
              refine ov_goto (tgt := 75) d_196_52 (by decide) ?_
              refine ov_blk (ls2 := [(0, ov_r 0), (1, ov_i m), (2, ov_i b)]) (st2 := [ov_i 1]) (pc2 := 76) b_196_75_1 rfl rfl ?_
              exact ov_retz (st := []) d_196_76 rfl (by omega) ⟨_, rfl, I128, (by show (1 = 0 ∨ 1 = 1) ∧ (h127 36 7) = (h 36 7) ∧ (h127 1 1) = (h 1 1) ∧ (h127 90 2) = (h 90 2) ∧ (h127 0 10) = (h 0 10) ∧ (h127 0 11) = (h 0 11) ∧ (h127 0 12) = (h 0 12) ∧ (h127 0 13) = (h 0 13) ∧ (h127 3 1) = (h 3 1) ∧ (h127 36 8) = (h 36 8) ∧ (h127 46 3) = (h 46 3) ∧ (h127 46 4) = (h 46 4) ∧ (h127 49 4) = (h 49 4) ∧ (h127 49 5) = (h 49 5); omega)⟩
            · have re99 : h 14 m = 30 := by omega
              rw [re99]
              show ov_R u d ov_m196 42 [(0, ov_r 0), (1, ov_i m), (2, ov_i b)] [ov_r 30, ov_r 4] z h (P_OF_mark_0 z h m b)
              refine ov_cV (as := [ov_r 30]) (st := []) (d2 := d - 1) d_196_42 lk_OF_322 rfl (Nat.le_of_ble_eq_true rfl) (c := 7) (zb_4 I) (zs_4 I) ⟨by decide, rfl⟩ (by omega) (c_State_copy_4_30 (d - 1) (by omega) U I) ?_
              rintro _ z131 h132 ⟨rfl, I133, f130⟩
              show ov_R u d ov_m196 45 [(0, ov_r 0), (1, ov_i m), (2, ov_i b)] [] z131 h132 (P_OF_mark_0 z h m b)
              have f134 : (h132 36 7) = (h 36 7) ∧ (h132 1 1) = (h 1 1) ∧ (h132 90 2) = (h 90 2) ∧ (h132 0 10) = (h 0 10) ∧ (h132 0 11) = (h 0 11) ∧ (h132 0 12) = (h 0 12) ∧ (h132 0 13) = (h 0 13) ∧ (h132 3 1) = (h 3 1) ∧ (h132 36 8) = (h 36 8) ∧ (h132 46 3) = (h 46 3) ∧ (h132 46 4) = (h 46 4) ∧ (h132 49 4) = (h 49 4) ∧ (h132 49 5) = (h 49 5) := f130
              clear f130
              refine ov_blk (ls2 := [(0, ov_r 0), (1, ov_i m), (2, ov_i b)]) (st2 := [ov_r 0]) (pc2 := 46) b_196_45_1 rfl rfl ?_
              refine ov_getf (v := ov_r 9) d_196_46 fl_OF_35 (zb_0 I133) (zs_0 I133) (congrArg ov_r (rg_0_3 I133)) ?_
              refine ov_cV (as := []) (st := []) (d2 := d - 1) d_196_49 lk_OF_115 rfl (Nat.le_of_ble_eq_true rfl) (c := 3) (zb_9 I133) (zs_9 I133) ⟨by decide, rfl⟩ (by omega) (c_History_clear_9 (d - 1) (by omega) U I133) ?_
              rintro _ z136 h137 ⟨rfl, I138, f135⟩
              show ov_R u d ov_m196 52 [(0, ov_r 0), (1, ov_i m), (2, ov_i b)] [] z136 h137 (P_OF_mark_0 z h m b)
              have f139 : (h137 36 7) = (h132 36 7) ∧ (h137 1 1) = (h132 1 1) ∧ (h137 90 2) = (h132 90 2) ∧ (h137 0 10) = (h132 0 10) ∧ (h137 0 11) = (h132 0 11) ∧ (h137 0 12) = (h132 0 12) ∧ (h137 0 13) = (h132 0 13) ∧ (h137 3 1) = (h132 3 1) ∧ (h137 36 8) = (h132 36 8) ∧ (h137 46 3) = (h132 46 3) ∧ (h137 46 4) = (h132 46 4) ∧ (h137 49 4) = (h132 49 4) ∧ (h137 49 5) = (h132 49 5) := f135
              clear f135
              refine ov_goto (tgt := 75) d_196_52 (by decide) ?_
              refine ov_blk (ls2 := [(0, ov_r 0), (1, ov_i m), (2, ov_i b)]) (st2 := [ov_i 1]) (pc2 := 76) b_196_75_1 rfl rfl ?_
              exact ov_retz (st := []) d_196_76 rfl (by omega) ⟨_, rfl, I138, (by show (1 = 0 ∨ 1 = 1) ∧ (h137 36 7) = (h 36 7) ∧ (h137 1 1) = (h 1 1) ∧ (h137 90 2) = (h 90 2) ∧ (h137 0 10) = (h 0 10) ∧ (h137 0 11) = (h 0 11) ∧ (h137 0 12) = (h 0 12) ∧ (h137 0 13) = (h 0 13) ∧ (h137 3 1) = (h 3 1) ∧ (h137 36 8) = (h 36 8) ∧ (h137 46 3) = (h 46 3) ∧ (h137 46 4) = (h 46 4) ∧ (h137 49 4) = (h 49 4) ∧ (h137 49 5) = (h 49 5); omega)⟩
        · skip
          refine ov_blk (ls2 := [(0, ov_r 0), (1, ov_i m), (2, ov_i b)]) (st2 := [ov_i 0]) (pc2 := 27) b_196_26_1 rfl rfl ?_
          exact ov_retz (st := []) d_196_27 rfl (by omega) ⟨_, rfl, I, (by show (0 = 0 ∨ 0 = 1) ∧ (h 36 7) = (h 36 7) ∧ (h 1 1) = (h 1 1) ∧ (h 90 2) = (h 90 2) ∧ (h 0 10) = (h 0 10) ∧ (h 0 11) = (h 0 11) ∧ (h 0 12) = (h 0 12) ∧ (h 0 13) = (h 0 13) ∧ (h 3 1) = (h 3 1) ∧ (h 36 8) = (h 36 8) ∧ (h 46 3) = (h 46 3) ∧ (h 46 4) = (h 46 4) ∧ (h 49 4) = (h 49 4) ∧ (h 49 5) = (h 49 5); omega)⟩
abbrev P_OF_count_0 (z : ov_Z) (h : ov_H) (w : Int) : Option ov_V → ov_Z → ov_H → Prop := fun r0 z' h' => ∃ r : Int, r0 = some (ov_i r) ∧ z = z' ∧ h = h' ∧ (True)
set_option maxHeartbeats 4000000 in
theorem c_OF_count_0 {u : ov_U} {z : ov_Z} {h : ov_H} (d : Nat) (hd : 2 ≤ d) (U : ov_cap u) (I : ov_I z h) (w : Int) (g_w : ov_g w) : ov_T u d ov_m198 [ov_r 0, ov_i w] z h (P_OF_count_0 z h w) := by
  refine ov_en rfl (Nat.le_of_ble_eq_true rfl) ?_
  show ov_R u d ov_m198 0 [(0, ov_r 0), (1, ov_i w)] [] z h (P_OF_count_0 z h w)
  refine ov_blk (ls2 := [(0, ov_r 0), (1, ov_i w)]) (st2 := [ov_i w]) (pc2 := 1) b_198_0_1 rfl rfl ?_
  by_cases q1 : w = 0
  · refine ov_tin (off := 75) (tgt := 76) d_198_1 (by omega) (by omega) (by rw [q1]; rfl) (by decide) ?_
    refine ov_blk (ls2 := [(0, ov_r 0), (1, ov_i w)]) (st2 := [ov_r 0]) (pc2 := 77) b_198_76_1 rfl rfl ?_
    rcases rg_0_10 I with e2 | e2
    · skip
      refine ov_getf (v := ov_r 58) d_198_77 fl_OF_78 (zb_0 I) (zs_0 I) (congrArg ov_r e2) ?_
      refine ov_getf (v := ov_i (h 58 0)) d_198_80 fl_OF_325 (zb_58 I) (zs_58 I) rfl ?_
      have g3 := rg_58_0 I
      exact ov_reti (st := []) d_198_83 rfl ⟨_, rfl, rfl, rfl, trivial⟩
    · skip
      refine ov_getf (v := ov_r 70) d_198_77 fl_OF_78 (zb_0 I) (zs_0 I) (congrArg ov_r e2) ?_
      refine ov_getf (v := ov_i (h 70 0)) d_198_80 fl_OF_325 (zb_70 I) (zs_70 I) rfl ?_
      have g4 := rg_70_0 I
      exact ov_reti (st := []) d_198_83 rfl ⟨_, rfl, rfl, rfl, trivial⟩
  by_cases q5 : w = 1
  · refine ov_tin (off := 83) (tgt := 84) d_198_1 (by omega) (by omega) (by rw [q5]; rfl) (by decide) ?_
    refine ov_blk (ls2 := [(0, ov_r 0), (1, ov_i w)]) (st2 := [ov_r 0]) (pc2 := 85) b_198_84_1 rfl rfl ?_
    rcases rg_0_10 I with e6 | e6
    · skip
      refine ov_getf (v := ov_r 58) d_198_85 fl_OF_78 (zb_0 I) (zs_0 I) (congrArg ov_r e6) ?_
      refine ov_getf (v := ov_i (h 58 1)) d_198_88 fl_OF_328 (zb_58 I) (zs_58 I) rfl ?_
      have g7 := rg_58_1 I
      exact ov_reti (st := []) d_198_91 rfl ⟨_, rfl, rfl, rfl, trivial⟩
    · skip
      refine ov_getf (v := ov_r 70) d_198_85 fl_OF_78 (zb_0 I) (zs_0 I) (congrArg ov_r e6) ?_
      refine ov_getf (v := ov_i (h 70 1)) d_198_88 fl_OF_328 (zb_70 I) (zs_70 I) rfl ?_
      have g8 := rg_70_1 I
      exact ov_reti (st := []) d_198_91 rfl ⟨_, rfl, rfl, rfl, trivial⟩
  by_cases q9 : w = 2
  · refine ov_tin (off := 91) (tgt := 92) d_198_1 (by omega) (by omega) (by rw [q9]; rfl) (by decide) ?_
    refine ov_blk (ls2 := [(0, ov_r 0), (1, ov_i w)]) (st2 := [ov_r 0]) (pc2 := 93) b_198_92_1 rfl rfl ?_
    rcases rg_0_10 I with e10 | e10
    · skip
      refine ov_getf (v := ov_r 58) d_198_93 fl_OF_78 (zb_0 I) (zs_0 I) (congrArg ov_r e10) ?_
      refine ov_getf (v := ov_i (h 58 9)) d_198_96 fl_OF_331 (zb_58 I) (zs_58 I) rfl ?_
      have g11 := rg_58_9 I
      exact ov_reti (st := []) d_198_99 rfl ⟨_, rfl, rfl, rfl, trivial⟩
    · skip
      refine ov_getf (v := ov_r 70) d_198_93 fl_OF_78 (zb_0 I) (zs_0 I) (congrArg ov_r e10) ?_
      refine ov_getf (v := ov_i (h 70 9)) d_198_96 fl_OF_331 (zb_70 I) (zs_70 I) rfl ?_
      have g12 := rg_70_9 I
      exact ov_reti (st := []) d_198_99 rfl ⟨_, rfl, rfl, rfl, trivial⟩
  by_cases q13 : w = 3
  · refine ov_tin (off := 99) (tgt := 100) d_198_1 (by omega) (by omega) (by rw [q13]; rfl) (by decide) ?_
    refine ov_blk (ls2 := [(0, ov_r 0), (1, ov_i w)]) (st2 := [ov_r 0]) (pc2 := 101) b_198_100_1 rfl rfl ?_
    rcases rg_0_10 I with e14 | e14
    · skip
      refine ov_getf (v := ov_r 58) d_198_101 fl_OF_78 (zb_0 I) (zs_0 I) (congrArg ov_r e14) ?_
      refine ov_getf (v := ov_i (h 58 11)) d_198_104 fl_OF_292 (zb_58 I) (zs_58 I) rfl ?_
      have g15 := rg_58_11 I
      exact ov_reti (st := []) d_198_107 rfl ⟨_, rfl, rfl, rfl, trivial⟩
    · skip
      refine ov_getf (v := ov_r 70) d_198_101 fl_OF_78 (zb_0 I) (zs_0 I) (congrArg ov_r e14) ?_
      refine ov_getf (v := ov_i (h 70 11)) d_198_104 fl_OF_292 (zb_70 I) (zs_70 I) rfl ?_
      have g16 := rg_70_11 I
      exact ov_reti (st := []) d_198_107 rfl ⟨_, rfl, rfl, rfl, trivial⟩
  by_cases q17 : w = 4
  · refine ov_tin (off := 107) (tgt := 108) d_198_1 (by omega) (by omega) (by rw [q17]; rfl) (by decide) ?_
    refine ov_blk (ls2 := [(0, ov_r 0), (1, ov_i w)]) (st2 := [ov_r 0]) (pc2 := 109) b_198_108_1 rfl rfl ?_
    rcases rg_0_12 I with e18 | e18
    · skip
      refine ov_getf (v := ov_r 82) d_198_109 fl_OF_88 (zb_0 I) (zs_0 I) (congrArg ov_r e18) ?_
      refine ov_getf (v := ov_i (h 82 0)) d_198_112 fl_OF_254 (zb_82 I) (zs_82 I) rfl ?_
      have g19 := rg_82_0 I
      exact ov_reti (st := []) d_198_115 rfl ⟨_, rfl, rfl, rfl, trivial⟩
    · skip
      refine ov_getf (v := ov_r 86) d_198_109 fl_OF_88 (zb_0 I) (zs_0 I) (congrArg ov_r e18) ?_
      refine ov_getf (v := ov_i (h 86 0)) d_198_112 fl_OF_254 (zb_86 I) (zs_86 I) rfl ?_
      have g20 := rg_86_0 I
      exact ov_reti (st := []) d_198_115 rfl ⟨_, rfl, rfl, rfl, trivial⟩
  by_cases q21 : w = 5
  · refine ov_tin (off := 115) (tgt := 116) d_198_1 (by omega) (by omega) (by rw [q21]; rfl) (by decide) ?_
    refine ov_blk (ls2 := [(0, ov_r 0), (1, ov_i w)]) (st2 := [ov_r 0]) (pc2 := 117) b_198_116_1 rfl rfl ?_
    refine ov_getf (v := ov_r 4) d_198_117 fl_OF_28 (zb_0 I) (zs_0 I) (congrArg ov_r (rg_0_2 I)) ?_
    refine ov_getf (v := ov_i (h 4 0)) d_198_120 fl_OF_166 (zb_4 I) (zs_4 I) rfl ?_
    have g22 := rg_4_0 I
    refine ov_blk (ls2 := [(0, ov_r 0), (1, ov_i w)]) (st2 := [ov_i 6, ov_i (h 4 0)]) (pc2 := 125) b_198_123_1 rfl rfl ?_
    refine ov_irem d_198_125 (by omega) (by omega) (by omega) ?_
    have g23 := ov_tmg (a := (h 4 0)) (b := 6) (by omega) (by omega)
    exact ov_reti (st := []) d_198_126 rfl ⟨_, rfl, rfl, rfl, trivial⟩
  by_cases q24 : w = 6
  · refine ov_tin (off := 126) (tgt := 127) d_198_1 (by omega) (by omega) (by rw [q24]; rfl) (by decide) ?_
    refine ov_blk (ls2 := [(0, ov_r 0), (1, ov_i w)]) (st2 := [ov_r 0]) (pc2 := 128) b_198_127_1 rfl rfl ?_
    refine ov_getf (v := ov_r 4) d_198_128 fl_OF_28 (zb_0 I) (zs_0 I) (congrArg ov_r (rg_0_2 I)) ?_
    refine ov_getf (v := ov_i (h 4 0)) d_198_131 fl_OF_166 (zb_4 I) (zs_4 I) rfl ?_
    have g25 := rg_4_0 I
    refine ov_blk (ls2 := [(0, ov_r 0), (1, ov_i w)]) (st2 := [ov_i 6, ov_i (h 4 0)]) (pc2 := 136) b_198_134_1 rfl rfl ?_
    refine ov_idiv d_198_136 (by omega) (by omega) (by omega) ?_
    exact ov_reti (st := []) d_198_137 rfl ⟨_, rfl, rfl, rfl, trivial⟩
  by_cases q26 : w = 7
  · refine ov_tin (off := 137) (tgt := 138) d_198_1 (by omega) (by omega) (by rw [q26]; rfl) (by decide) ?_
    refine ov_blk (ls2 := [(0, ov_r 0), (1, ov_i w)]) (st2 := [ov_r 0]) (pc2 := 139) b_198_138_1 rfl rfl ?_
    refine ov_getf (v := ov_r 4) d_198_139 fl_OF_28 (zb_0 I) (zs_0 I) (congrArg ov_r (rg_0_2 I)) ?_
    refine ov_getf (v := ov_i (h 4 1)) d_198_142 fl_OF_179 (zb_4 I) (zs_4 I) rfl ?_
    have g27 := rg_4_1 I
    exact ov_reti (st := []) d_198_145 rfl ⟨_, rfl, rfl, rfl, trivial⟩
  by_cases q28 : w = 8
  · refine ov_tin (off := 145) (tgt := 146) d_198_1 (by omega) (by omega) (by rw [q28]; rfl) (by decide) ?_
    refine ov_blk (ls2 := [(0, ov_r 0), (1, ov_i w)]) (st2 := [ov_r 0]) (pc2 := 147) b_198_146_1 rfl rfl ?_
    refine ov_cV (as := []) (st := []) (d2 := d - 1) d_198_147 lk_OF_168 rfl (Nat.le_of_ble_eq_true rfl) (c := 0) (zb_0 I) (zs_0 I) ⟨by decide, rfl⟩ (by omega) (c_OF_runsLeft_0 (d - 1) (by omega) U I) ?_
    rintro _ _ _ ⟨v30, rfl, rfl, rfl, f29⟩
    show ov_R u d ov_m198 150 [(0, ov_r 0), (1, ov_i w)] [ov_i v30] z h (P_OF_count_0 z h w)
    have f31 : -2147483648 ≤ v30 ∧ v30 ≤ 2147483647 := f29
    clear f29
    exact ov_reti (st := []) d_198_150 rfl ⟨_, rfl, rfl, rfl, trivial⟩
  by_cases q32 : w = 9
  · refine ov_tin (off := 150) (tgt := 151) d_198_1 (by omega) (by omega) (by rw [q32]; rfl) (by decide) ?_
    refine ov_blk (ls2 := [(0, ov_r 0), (1, ov_i w)]) (st2 := [ov_r 0]) (pc2 := 152) b_198_151_1 rfl rfl ?_
    refine ov_cV (as := []) (st := []) (d2 := d - 1) d_198_152 lk_OF_334 rfl (Nat.le_of_ble_eq_true rfl) (c := 0) (zb_0 I) (zs_0 I) ⟨by decide, rfl⟩ (by omega) (c_OF_hiddenLeft_0 (d - 1) (by omega) U I) ?_
    rintro _ _ _ ⟨v34, rfl, rfl, rfl, f33⟩
    show ov_R u d ov_m198 155 [(0, ov_r 0), (1, ov_i w)] [ov_i v34] z h (P_OF_count_0 z h w)
    have f35 : -2147483648 ≤ v34 ∧ v34 ≤ 2147483647 := f33
    clear f33
    exact ov_reti (st := []) d_198_155 rfl ⟨_, rfl, rfl, rfl, trivial⟩
  by_cases q36 : w = 10
  · refine ov_tin (off := 155) (tgt := 156) d_198_1 (by omega) (by omega) (by rw [q36]; rfl) (by decide) ?_
    refine ov_blk (ls2 := [(0, ov_r 0), (1, ov_i w)]) (st2 := [ov_r 0]) (pc2 := 157) b_198_156_1 rfl rfl ?_
    refine ov_getf (v := ov_r 4) d_198_157 fl_OF_28 (zb_0 I) (zs_0 I) (congrArg ov_r (rg_0_2 I)) ?_
    refine ov_getf (v := ov_i (h 4 4)) d_198_160 fl_OF_337 (zb_4 I) (zs_4 I) rfl ?_
    have g37 := rg_4_4 I
    exact ov_reti (st := []) d_198_163 rfl ⟨_, rfl, rfl, rfl, trivial⟩
  by_cases q38 : w = 11
  · refine ov_tin (off := 163) (tgt := 164) d_198_1 (by omega) (by omega) (by rw [q38]; rfl) (by decide) ?_
    refine ov_blk (ls2 := [(0, ov_r 0), (1, ov_i w)]) (st2 := [ov_r 0]) (pc2 := 165) b_198_164_1 rfl rfl ?_
    refine ov_getf (v := ov_r 4) d_198_165 fl_OF_28 (zb_0 I) (zs_0 I) (congrArg ov_r (rg_0_2 I)) ?_
    refine ov_getf (v := ov_i (h 4 5)) d_198_168 fl_OF_340 (zb_4 I) (zs_4 I) rfl ?_
    have g39 := rg_4_5 I
    exact ov_reti (st := []) d_198_171 rfl ⟨_, rfl, rfl, rfl, trivial⟩
  by_cases q40 : w = 12
  · refine ov_tin (off := 171) (tgt := 172) d_198_1 (by omega) (by omega) (by rw [q40]; rfl) (by decide) ?_
    refine ov_blk (ls2 := [(0, ov_r 0), (1, ov_i w)]) (st2 := [ov_r 0]) (pc2 := 173) b_198_172_1 rfl rfl ?_
    rcases rg_0_10 I with e41 | e41
    · skip
      refine ov_getf (v := ov_r 58) d_198_173 fl_OF_78 (zb_0 I) (zs_0 I) (congrArg ov_r e41) ?_
      refine ov_getf (v := ov_i (h 58 10)) d_198_176 fl_OF_343 (zb_58 I) (zs_58 I) rfl ?_
      have g42 := rg_58_10 I
      exact ov_reti (st := []) d_198_179 rfl ⟨_, rfl, rfl, rfl, trivial⟩
    · skip
      refine ov_getf (v := ov_r 70) d_198_173 fl_OF_78 (zb_0 I) (zs_0 I) (congrArg ov_r e41) ?_
      refine ov_getf (v := ov_i (h 70 10)) d_198_176 fl_OF_343 (zb_70 I) (zs_70 I) rfl ?_
      have g43 := rg_70_10 I
      exact ov_reti (st := []) d_198_179 rfl ⟨_, rfl, rfl, rfl, trivial⟩
  by_cases q44 : w = 13
  · refine ov_tin (off := 179) (tgt := 180) d_198_1 (by omega) (by omega) (by rw [q44]; rfl) (by decide) ?_
    refine ov_blk (ls2 := [(0, ov_r 0), (1, ov_i w)]) (st2 := [ov_r 0]) (pc2 := 181) b_198_180_1 rfl rfl ?_
    refine ov_getf (v := ov_r 9) d_198_181 fl_OF_35 (zb_0 I) (zs_0 I) (congrArg ov_r (rg_0_3 I)) ?_
    refine ov_getf (v := ov_i (h 9 0)) d_198_184 fl_OF_346 (zb_9 I) (zs_9 I) rfl ?_
    have g45 := rg_9_0 I
    exact ov_reti (st := []) d_198_187 rfl ⟨_, rfl, rfl, rfl, trivial⟩
  by_cases q46 : w = 14
  · refine ov_tin (off := 187) (tgt := 188) d_198_1 (by omega) (by omega) (by rw [q46]; rfl) (by decide) ?_
    refine ov_blk (ls2 := [(0, ov_r 0), (1, ov_i w)]) (st2 := [ov_r 0]) (pc2 := 189) b_198_188_1 rfl rfl ?_
    refine ov_getf (v := ov_r 1) d_198_189 fl_OF_12 (zb_0 I) (zs_0 I) (congrArg ov_r (rg_0_0 I)) ?_
    refine ov_getf (v := ov_i (h 1 1)) d_198_192 fl_OF_105 (zb_1 I) (zs_1 I) rfl ?_
    have g47 := rg_1_1 I
    exact ov_reti (st := []) d_198_195 rfl ⟨_, rfl, rfl, rfl, trivial⟩
  refine ov_tout (tgt := 196) d_198_1 (by omega) (by omega) (by decide) ?_
  refine ov_blk (ls2 := [(0, ov_r 0), (1, ov_i w)]) (st2 := [ov_i (-1)]) (pc2 := 197) b_198_196_1 rfl rfl ?_
  exact ov_reti (st := []) d_198_197 rfl ⟨_, rfl, rfl, rfl, trivial⟩

theorem b_122_0_1 : ov_ds ov_m122.2.1 0 [.iload_n 1] = true := by decide +kernel
theorem d_122_1 : decode ov_m122.2.1 1 = .ok (.ifCond .lt 20, 3) := by decide +kernel
theorem b_122_21_1 : ov_ds ov_m122.2.1 21 [.iconst 0] = true := by decide +kernel
theorem d_122_22 : decode ov_m122.2.1 22 = .ok (.ireturn, 1) := by decide +kernel
theorem b_122_4_3 : ov_ds ov_m122.2.1 4 [.iload_n 1, .iconst 4, .aload_n 0] = true := by decide +kernel
theorem d_122_7 : decode ov_m122.2.1 7 = .ok (.getfield 78, 3) := by decide +kernel
theorem d_122_10 : decode ov_m122.2.1 10 = .ok (.getfield 292, 3) := by decide +kernel
theorem b_122_13_1 : ov_ds ov_m122.2.1 13 [.iadd] = true := by decide +kernel
theorem d_122_14 : decode ov_m122.2.1 14 = .ok (.if_icmp .ge 7, 3) := by decide +kernel
theorem b_122_17_1 : ov_ds ov_m122.2.1 17 [.iconst 1] = true := by decide +kernel
theorem d_122_18 : decode ov_m122.2.1 18 = .ok (.goto 4, 3) := by decide +kernel
theorem b_103_0_1 : ov_ds ov_m103.2.1 0 [.aload_n 0] = true := by decide +kernel
theorem d_103_1 : decode ov_m103.2.1 1 = .ok (.getfield 78, 3) := by decide +kernel
theorem d_103_4 : decode ov_m103.2.1 4 = .ok (.getfield 188, 3) := by decide +kernel
theorem d_103_7 : decode ov_m103.2.1 7 = .ok (.ifCond .eq 7, 3) := by decide +kernel
theorem b_103_14_1 : ov_ds ov_m103.2.1 14 [.aload_n 0] = true := by decide +kernel
theorem d_103_15 : decode ov_m103.2.1 15 = .ok (.getfield 78, 3) := by decide +kernel
theorem d_103_18 : decode ov_m103.2.1 18 = .ok (.getfield 176, 3) := by decide +kernel
theorem b_103_21_1 : ov_ds ov_m103.2.1 21 [.iconst 3] = true := by decide +kernel
theorem d_103_22 : decode ov_m103.2.1 22 = .ok (.iaload, 1) := by decide +kernel
theorem b_103_23_1 : ov_ds ov_m103.2.1 23 [.aload_n 0] = true := by decide +kernel
theorem d_103_24 : decode ov_m103.2.1 24 = .ok (.getfield 28, 3) := by decide +kernel
theorem d_103_27 : decode ov_m103.2.1 27 = .ok (.getfield 185, 3) := by decide +kernel
theorem b_103_30_1 : ov_ds ov_m103.2.1 30 [.isub] = true := by decide +kernel
theorem d_103_31 : decode ov_m103.2.1 31 = .ok (.ireturn, 1) := by decide +kernel
theorem b_103_10_1 : ov_ds ov_m103.2.1 10 [.iconst 0] = true := by decide +kernel
theorem d_103_11 : decode ov_m103.2.1 11 = .ok (.goto 20, 3) := by decide +kernel
theorem b_199_0_4 : ov_ds ov_m199.2.1 0 [.iconst 0, .istore_n 1, .iconst 0, .istore_n 2] = true := by decide +kernel
theorem b_199_4_2 : ov_ds ov_m199.2.1 4 [.iload_n 2, .bipush 54] = true := by decide +kernel
theorem d_199_7 : decode ov_m199.2.1 7 = .ok (.if_icmp .ge 36, 3) := by decide +kernel
theorem b_199_43_1 : ov_ds ov_m199.2.1 43 [.iload_n 1] = true := by decide +kernel
theorem d_199_44 : decode ov_m199.2.1 44 = .ok (.ireturn, 1) := by decide +kernel
theorem b_199_10_1 : ov_ds ov_m199.2.1 10 [.aload_n 0] = true := by decide +kernel
theorem d_199_11 : decode ov_m199.2.1 11 = .ok (.getfield 78, 3) := by decide +kernel
theorem d_199_14 : decode ov_m199.2.1 14 = .ok (.getfield 139, 3) := by decide +kernel
theorem b_199_17_1 : ov_ds ov_m199.2.1 17 [.iload_n 2] = true := by decide +kernel
theorem d_199_18 : decode ov_m199.2.1 18 = .ok (.iaload, 1) := by decide +kernel
theorem b_199_19_1 : ov_ds ov_m199.2.1 19 [.iconst 1] = true := by decide +kernel
theorem d_199_20 : decode ov_m199.2.1 20 = .ok (.if_icmp .ne 17, 3) := by decide +kernel
theorem b_199_37_1 : ov_ds ov_m199.2.1 37 [.iinc 2 1] = true := by decide +kernel
theorem d_199_40 : decode ov_m199.2.1 40 = .ok (.goto (-36), 3) := by decide +kernel
theorem b_199_23_1 : ov_ds ov_m199.2.1 23 [.aload_n 0] = true := by decide +kernel
theorem d_199_24 : decode ov_m199.2.1 24 = .ok (.getfield 28, 3) := by decide +kernel
theorem b_199_27_1 : ov_ds ov_m199.2.1 27 [.iload_n 2] = true := by decide +kernel
theorem d_199_28 : decode ov_m199.2.1 28 = .ok (.invokevirtual 151, 3) := by decide +kernel
theorem d_199_31 : decode ov_m199.2.1 31 = .ok (.ifCond .ne 6, 3) := by decide +kernel
theorem b_199_34_2 : ov_ds ov_m199.2.1 34 [.iinc 1 1, .iinc 2 1] = true := by decide +kernel
theorem b_83_0_2 : ov_ds ov_m83.2.1 0 [.iconst 0, .istore_n 1] = true := by decide +kernel
theorem b_83_2_2 : ov_ds ov_m83.2.1 2 [.iload_n 1, .aload_n 0] = true := by decide +kernel
theorem d_83_4 : decode ov_m83.2.1 4 = .ok (.getfield 43, 3) := by decide +kernel
theorem d_83_7 : decode ov_m83.2.1 7 = .ok (.arraylength, 1) := by decide +kernel
theorem d_83_8 : decode ov_m83.2.1 8 = .ok (.if_icmp .ge 16, 3) := by decide +kernel
theorem d_83_24 : decode ov_m83.2.1 24 = .ok (.return_, 1) := by decide +kernel
theorem b_83_11_1 : ov_ds ov_m83.2.1 11 [.aload_n 0] = true := by decide +kernel
theorem d_83_12 : decode ov_m83.2.1 12 = .ok (.getfield 43, 3) := by decide +kernel
theorem b_83_15_2 : ov_ds ov_m83.2.1 15 [.iload_n 1, .iconst 0] = true := by decide +kernel
theorem d_83_17 : decode ov_m83.2.1 17 = .ok (.bastore, 1) := by decide +kernel
theorem b_83_18_1 : ov_ds ov_m83.2.1 18 [.iinc 1 1] = true := by decide +kernel
theorem d_83_21 : decode ov_m83.2.1 21 = .ok (.goto (-19), 3) := by decide +kernel
theorem b_84_0_1 : ov_ds ov_m84.2.1 0 [.aload_n 0] = true := by decide +kernel
theorem d_84_1 : decode ov_m84.2.1 1 = .ok (.getfield 50, 3) := by decide +kernel
theorem d_84_4 : decode ov_m84.2.1 4 = .ok (.invokevirtual 129, 3) := by decide +kernel
theorem b_84_7_1 : ov_ds ov_m84.2.1 7 [.aload_n 0] = true := by decide +kernel
theorem d_84_8 : decode ov_m84.2.1 8 = .ok (.getfield 64, 3) := by decide +kernel
theorem d_84_11 : decode ov_m84.2.1 11 = .ok (.invokevirtual 126, 3) := by decide +kernel
theorem b_84_14_1 : ov_ds ov_m84.2.1 14 [.aload_n 0] = true := by decide +kernel
theorem d_84_15 : decode ov_m84.2.1 15 = .ok (.getfield 71, 3) := by decide +kernel
theorem d_84_18 : decode ov_m84.2.1 18 = .ok (.invokevirtual 130, 3) := by decide +kernel
theorem d_84_21 : decode ov_m84.2.1 21 = .ok (.return_, 1) := by decide +kernel
theorem b_21_0_1 : ov_ds ov_m21.2.1 0 [.aload_n 0] = true := by decide +kernel
theorem d_21_1 : decode ov_m21.2.1 1 = .ok (.getfield 12, 3) := by decide +kernel
theorem b_21_4_1 : ov_ds ov_m21.2.1 4 [.lload_n 1] = true := by decide +kernel
theorem d_21_5 : decode ov_m21.2.1 5 = .ok (.invokevirtual 101, 3) := by decide +kernel
theorem b_21_8_1 : ov_ds ov_m21.2.1 8 [.aload_n 0] = true := by decide +kernel
theorem d_21_9 : decode ov_m21.2.1 9 = .ok (.getfield 12, 3) := by decide +kernel
theorem b_21_12_1 : ov_ds ov_m21.2.1 12 [.lload_n 3] = true := by decide +kernel
theorem d_21_13 : decode ov_m21.2.1 13 = .ok (.invokevirtual 101, 3) := by decide +kernel
theorem b_21_16_1 : ov_ds ov_m21.2.1 16 [.aload_n 0] = true := by decide +kernel
theorem d_21_17 : decode ov_m21.2.1 17 = .ok (.getfield 12, 3) := by decide +kernel
theorem b_21_20_1 : ov_ds ov_m21.2.1 20 [.lload 5] = true := by decide +kernel
theorem d_21_22 : decode ov_m21.2.1 22 = .ok (.invokevirtual 101, 3) := by decide +kernel
theorem b_21_25_1 : ov_ds ov_m21.2.1 25 [.aload_n 0] = true := by decide +kernel
theorem d_21_26 : decode ov_m21.2.1 26 = .ok (.getfield 12, 3) := by decide +kernel
theorem d_21_29 : decode ov_m21.2.1 29 = .ok (.getfield 105, 3) := by decide +kernel
theorem d_21_32 : decode ov_m21.2.1 32 = .ok (.ireturn, 1) := by decide +kernel
theorem b_23_0_1 : ov_ds ov_m23.2.1 0 [.aload_n 0] = true := by decide +kernel
theorem d_23_1 : decode ov_m23.2.1 1 = .ok (.getfield 21, 3) := by decide +kernel
theorem b_23_4_1 : ov_ds ov_m23.2.1 4 [.aload_n 0] = true := by decide +kernel
theorem d_23_5 : decode ov_m23.2.1 5 = .ok (.getfield 82, 3) := by decide +kernel
theorem d_23_8 : decode ov_m23.2.1 8 = .ok (.invokevirtual 109, 3) := by decide +kernel
theorem b_23_11_2 : ov_ds ov_m23.2.1 11 [.istore_n 1, .iload_n 1] = true := by decide +kernel
theorem d_23_13 : decode ov_m23.2.1 13 = .ok (.ifCond .ne 50, 3) := by decide +kernel
theorem b_23_63_1 : ov_ds ov_m23.2.1 63 [.iload_n 1] = true := by decide +kernel
theorem d_23_64 : decode ov_m23.2.1 64 = .ok (.ireturn, 1) := by decide +kernel
theorem b_23_16_1 : ov_ds ov_m23.2.1 16 [.aload_n 0] = true := by decide +kernel
theorem d_23_17 : decode ov_m23.2.1 17 = .ok (.getfield 78, 3) := by decide +kernel
theorem b_23_20_3 : ov_ds ov_m23.2.1 20 [.astore_n 2, .aload_n 0, .aload_n 0] = true := by decide +kernel
theorem d_23_23 : decode ov_m23.2.1 23 = .ok (.getfield 82, 3) := by decide +kernel
theorem d_23_26 : decode ov_m23.2.1 26 = .ok (.putfield 78, 3) := by decide +kernel
theorem b_23_29_2 : ov_ds ov_m23.2.1 29 [.aload_n 0, .aload_n 2] = true := by decide +kernel
theorem d_23_31 : decode ov_m23.2.1 31 = .ok (.putfield 82, 3) := by decide +kernel
theorem b_23_34_1 : ov_ds ov_m23.2.1 34 [.aload_n 0] = true := by decide +kernel
theorem d_23_35 : decode ov_m23.2.1 35 = .ok (.getfield 88, 3) := by decide +kernel
theorem d_23_38 : decode ov_m23.2.1 38 = .ok (.invokevirtual 113, 3) := by decide +kernel
theorem b_23_41_1 : ov_ds ov_m23.2.1 41 [.aload_n 0] = true := by decide +kernel
theorem d_23_42 : decode ov_m23.2.1 42 = .ok (.getfield 28, 3) := by decide +kernel
theorem d_23_45 : decode ov_m23.2.1 45 = .ok (.invokevirtual 114, 3) := by decide +kernel
theorem b_23_48_1 : ov_ds ov_m23.2.1 48 [.aload_n 0] = true := by decide +kernel
theorem d_23_49 : decode ov_m23.2.1 49 = .ok (.getfield 35, 3) := by decide +kernel
theorem d_23_52 : decode ov_m23.2.1 52 = .ok (.invokevirtual 115, 3) := by decide +kernel
theorem b_23_55_1 : ov_ds ov_m23.2.1 55 [.aload_n 0] = true := by decide +kernel
theorem d_23_56 : decode ov_m23.2.1 56 = .ok (.invokevirtual 116, 3) := by decide +kernel
theorem b_23_59_1 : ov_ds ov_m23.2.1 59 [.aload_n 0] = true := by decide +kernel
theorem d_23_60 : decode ov_m23.2.1 60 = .ok (.invokevirtual 119, 3) := by decide +kernel
theorem b_88_0_1 : ov_ds ov_m88.2.1 0 [.aload_n 0] = true := by decide +kernel
theorem d_88_1 : decode ov_m88.2.1 1 = .ok (.getfield 21, 3) := by decide +kernel
theorem b_88_4_1 : ov_ds ov_m88.2.1 4 [.aload_n 0] = true := by decide +kernel
theorem d_88_5 : decode ov_m88.2.1 5 = .ok (.getfield 78, 3) := by decide +kernel
theorem b_88_8_1 : ov_ds ov_m88.2.1 8 [.aload_n 0] = true := by decide +kernel
theorem d_88_9 : decode ov_m88.2.1 9 = .ok (.getfield 92, 3) := by decide +kernel
theorem d_88_12 : decode ov_m88.2.1 12 = .ok (.invokevirtual 122, 3) := by decide +kernel
theorem b_88_15_2 : ov_ds ov_m88.2.1 15 [.istore_n 1, .iload_n 1] = true := by decide +kernel
theorem d_88_17 : decode ov_m88.2.1 17 = .ok (.ifCond .ne 28, 3) := by decide +kernel
theorem b_88_45_1 : ov_ds ov_m88.2.1 45 [.iload_n 1] = true := by decide +kernel
theorem d_88_46 : decode ov_m88.2.1 46 = .ok (.ireturn, 1) := by decide +kernel
theorem b_88_20_1 : ov_ds ov_m88.2.1 20 [.aload_n 0] = true := by decide +kernel
theorem d_88_21 : decode ov_m88.2.1 21 = .ok (.getfield 88, 3) := by decide +kernel
theorem b_88_24_3 : ov_ds ov_m88.2.1 24 [.astore_n 2, .aload_n 0, .aload_n 0] = true := by decide +kernel
theorem d_88_27 : decode ov_m88.2.1 27 = .ok (.getfield 92, 3) := by decide +kernel
theorem d_88_30 : decode ov_m88.2.1 30 = .ok (.putfield 88, 3) := by decide +kernel
theorem b_88_33_2 : ov_ds ov_m88.2.1 33 [.aload_n 0, .aload_n 2] = true := by decide +kernel
theorem d_88_35 : decode ov_m88.2.1 35 = .ok (.putfield 92, 3) := by decide +kernel
theorem b_88_38_1 : ov_ds ov_m88.2.1 38 [.aload_n 0] = true := by decide +kernel
theorem d_88_39 : decode ov_m88.2.1 39 = .ok (.getfield 64, 3) := by decide +kernel
theorem d_88_42 : decode ov_m88.2.1 42 = .ok (.invokevirtual 126, 3) := by decide +kernel
theorem b_93_0_1 : ov_ds ov_m93.2.1 0 [.aload_n 0] = true := by decide +kernel
theorem d_93_1 : decode ov_m93.2.1 1 = .ok (.getfield 78, 3) := by decide +kernel
theorem b_93_4_2 : ov_ds ov_m93.2.1 4 [.iload_n 1, .iload_n 2] = true := by decide +kernel
theorem d_93_6 : decode ov_m93.2.1 6 = .ok (.invokevirtual 131, 3) := by decide +kernel
theorem b_93_9_3 : ov_ds ov_m93.2.1 9 [.istore 4, .iload 4, .iconst (-1)] = true := by decide +kernel
theorem d_93_14 : decode ov_m93.2.1 14 = .ok (.if_icmp .ne 5, 3) := by decide +kernel
theorem b_93_19_2 : ov_ds ov_m93.2.1 19 [.iload_n 3, .iconst 5] = true := by decide +kernel
theorem d_93_21 : decode ov_m93.2.1 21 = .ok (.if_icmp .ne 14, 3) := by decide +kernel
theorem b_93_35_1 : ov_ds ov_m93.2.1 35 [.aload_n 0] = true := by decide +kernel
theorem d_93_36 : decode ov_m93.2.1 36 = .ok (.getfield 78, 3) := by decide +kernel
theorem d_93_39 : decode ov_m93.2.1 39 = .ok (.getfield 139, 3) := by decide +kernel
theorem b_93_42_1 : ov_ds ov_m93.2.1 42 [.iload 4] = true := by decide +kernel
theorem d_93_44 : decode ov_m93.2.1 44 = .ok (.iaload, 1) := by decide +kernel
theorem b_93_45_1 : ov_ds ov_m93.2.1 45 [.iconst (-1)] = true := by decide +kernel
theorem d_93_46 : decode ov_m93.2.1 46 = .ok (.if_icmp .ne 5, 3) := by decide +kernel
theorem b_93_51_1 : ov_ds ov_m93.2.1 51 [.iload_n 3] = true := by decide +kernel
theorem d_93_52 : decode ov_m93.2.1 52 = .ok (.tableswitch 112 0 4 #[36, 47, 58, 69, 80], 36) := by decide +kernel
theorem b_93_88_1 : ov_ds ov_m93.2.1 88 [.aload_n 0] = true := by decide +kernel
theorem d_93_89 : decode ov_m93.2.1 89 = .ok (.getfield 78, 3) := by decide +kernel
theorem d_93_92 : decode ov_m93.2.1 92 = .ok (.getfield 139, 3) := by decide +kernel
theorem b_93_95_1 : ov_ds ov_m93.2.1 95 [.iload 4] = true := by decide +kernel
theorem d_93_97 : decode ov_m93.2.1 97 = .ok (.iaload, 1) := by decide +kernel
theorem d_93_98 : decode ov_m93.2.1 98 = .ok (.ireturn, 1) := by decide +kernel
theorem b_93_99_1 : ov_ds ov_m93.2.1 99 [.aload_n 0] = true := by decide +kernel
theorem d_93_100 : decode ov_m93.2.1 100 = .ok (.getfield 78, 3) := by decide +kernel
theorem d_93_103 : decode ov_m93.2.1 103 = .ok (.getfield 142, 3) := by decide +kernel
theorem b_93_106_1 : ov_ds ov_m93.2.1 106 [.iload 4] = true := by decide +kernel
theorem d_93_108 : decode ov_m93.2.1 108 = .ok (.iaload, 1) := by decide +kernel
theorem d_93_109 : decode ov_m93.2.1 109 = .ok (.ireturn, 1) := by decide +kernel
theorem b_93_110_1 : ov_ds ov_m93.2.1 110 [.aload_n 0] = true := by decide +kernel
theorem d_93_111 : decode ov_m93.2.1 111 = .ok (.getfield 78, 3) := by decide +kernel
theorem d_93_114 : decode ov_m93.2.1 114 = .ok (.getfield 145, 3) := by decide +kernel
theorem b_93_117_1 : ov_ds ov_m93.2.1 117 [.iload 4] = true := by decide +kernel
theorem d_93_119 : decode ov_m93.2.1 119 = .ok (.iaload, 1) := by decide +kernel
theorem d_93_120 : decode ov_m93.2.1 120 = .ok (.ireturn, 1) := by decide +kernel
theorem b_93_121_1 : ov_ds ov_m93.2.1 121 [.aload_n 0] = true := by decide +kernel
theorem d_93_122 : decode ov_m93.2.1 122 = .ok (.getfield 78, 3) := by decide +kernel
theorem d_93_125 : decode ov_m93.2.1 125 = .ok (.getfield 148, 3) := by decide +kernel
theorem b_93_128_1 : ov_ds ov_m93.2.1 128 [.iload 4] = true := by decide +kernel
theorem d_93_130 : decode ov_m93.2.1 130 = .ok (.iaload, 1) := by decide +kernel
theorem d_93_131 : decode ov_m93.2.1 131 = .ok (.ireturn, 1) := by decide +kernel
theorem b_93_132_1 : ov_ds ov_m93.2.1 132 [.aload_n 0] = true := by decide +kernel
theorem d_93_133 : decode ov_m93.2.1 133 = .ok (.getfield 78, 3) := by decide +kernel
theorem d_93_136 : decode ov_m93.2.1 136 = .ok (.getfield 139, 3) := by decide +kernel
theorem b_93_139_1 : ov_ds ov_m93.2.1 139 [.iload 4] = true := by decide +kernel
theorem d_93_141 : decode ov_m93.2.1 141 = .ok (.iaload, 1) := by decide +kernel
theorem b_93_142_1 : ov_ds ov_m93.2.1 142 [.iconst 1] = true := by decide +kernel
theorem d_93_143 : decode ov_m93.2.1 143 = .ok (.if_icmp .ne 19, 3) := by decide +kernel
theorem b_93_162_1 : ov_ds ov_m93.2.1 162 [.iconst 0] = true := by decide +kernel
theorem d_93_163 : decode ov_m93.2.1 163 = .ok (.ireturn, 1) := by decide +kernel
theorem b_93_146_1 : ov_ds ov_m93.2.1 146 [.aload_n 0] = true := by decide +kernel
theorem d_93_147 : decode ov_m93.2.1 147 = .ok (.getfield 28, 3) := by decide +kernel
theorem b_93_150_1 : ov_ds ov_m93.2.1 150 [.iload 4] = true := by decide +kernel
theorem d_93_152 : decode ov_m93.2.1 152 = .ok (.invokevirtual 151, 3) := by decide +kernel
theorem d_93_155 : decode ov_m93.2.1 155 = .ok (.ifCond .eq 7, 3) := by decide +kernel
theorem b_93_158_1 : ov_ds ov_m93.2.1 158 [.iconst 1] = true := by decide +kernel
theorem d_93_159 : decode ov_m93.2.1 159 = .ok (.goto 4, 3) := by decide +kernel
theorem b_93_164_1 : ov_ds ov_m93.2.1 164 [.iconst (-1)] = true := by decide +kernel
theorem d_93_165 : decode ov_m93.2.1 165 = .ok (.ireturn, 1) := by decide +kernel
theorem b_93_49_1 : ov_ds ov_m93.2.1 49 [.iconst (-1)] = true := by decide +kernel
theorem d_93_50 : decode ov_m93.2.1 50 = .ok (.ireturn, 1) := by decide +kernel
theorem b_93_24_1 : ov_ds ov_m93.2.1 24 [.aload_n 0] = true := by decide +kernel
theorem d_93_25 : decode ov_m93.2.1 25 = .ok (.getfield 78, 3) := by decide +kernel
theorem d_93_28 : decode ov_m93.2.1 28 = .ok (.getfield 135, 3) := by decide +kernel
theorem b_93_31_1 : ov_ds ov_m93.2.1 31 [.iload 4] = true := by decide +kernel
theorem d_93_33 : decode ov_m93.2.1 33 = .ok (.iaload, 1) := by decide +kernel
theorem d_93_34 : decode ov_m93.2.1 34 = .ok (.ireturn, 1) := by decide +kernel
theorem b_93_17_1 : ov_ds ov_m93.2.1 17 [.iconst (-1)] = true := by decide +kernel
theorem d_93_18 : decode ov_m93.2.1 18 = .ok (.ireturn, 1) := by decide +kernel
theorem b_96_0_1 : ov_ds ov_m96.2.1 0 [.aload_n 0] = true := by decide +kernel
theorem d_96_1 : decode ov_m96.2.1 1 = .ok (.getfield 78, 3) := by decide +kernel
theorem b_96_4_2 : ov_ds ov_m96.2.1 4 [.iload_n 1, .iload_n 2] = true := by decide +kernel
theorem d_96_6 : decode ov_m96.2.1 6 = .ok (.invokevirtual 131, 3) := by decide +kernel
theorem b_96_9_3 : ov_ds ov_m96.2.1 9 [.istore 5, .iload 5, .iconst (-1)] = true := by decide +kernel
theorem d_96_14 : decode ov_m96.2.1 14 = .ok (.if_icmp .eq 24, 3) := by decide +kernel
theorem b_96_38_1 : ov_ds ov_m96.2.1 38 [.iconst (-1)] = true := by decide +kernel
theorem d_96_39 : decode ov_m96.2.1 39 = .ok (.ireturn, 1) := by decide +kernel
theorem b_96_17_1 : ov_ds ov_m96.2.1 17 [.iload 4] = true := by decide +kernel
theorem d_96_19 : decode ov_m96.2.1 19 = .ok (.invokestatic 155, 3) := by decide +kernel
theorem d_96_22 : decode ov_m96.2.1 22 = .ok (.ifCond .eq 16, 3) := by decide +kernel
theorem b_96_25_1 : ov_ds ov_m96.2.1 25 [.aload_n 0] = true := by decide +kernel
theorem d_96_26 : decode ov_m96.2.1 26 = .ok (.getfield 78, 3) := by decide +kernel
theorem b_96_29_2 : ov_ds ov_m96.2.1 29 [.iload 5, .iload_n 3] = true := by decide +kernel
theorem d_96_32 : decode ov_m96.2.1 32 = .ok (.invokevirtual 158, 3) := by decide +kernel
theorem d_96_35 : decode ov_m96.2.1 35 = .ok (.ifCond .ne 5, 3) := by decide +kernel
theorem b_96_40_1 : ov_ds ov_m96.2.1 40 [.aload_n 0] = true := by decide +kernel
theorem d_96_41 : decode ov_m96.2.1 41 = .ok (.getfield 78, 3) := by decide +kernel
theorem d_96_44 : decode ov_m96.2.1 44 = .ok (.getfield 139, 3) := by decide +kernel
theorem b_96_47_1 : ov_ds ov_m96.2.1 47 [.iload 5] = true := by decide +kernel
theorem d_96_49 : decode ov_m96.2.1 49 = .ok (.iaload, 1) := by decide +kernel
theorem b_96_50_1 : ov_ds ov_m96.2.1 50 [.iconst 2] = true := by decide +kernel
theorem d_96_51 : decode ov_m96.2.1 51 = .ok (.if_icmp .ne 14, 3) := by decide +kernel
theorem b_96_65_1 : ov_ds ov_m96.2.1 65 [.aload_n 0] = true := by decide +kernel
theorem d_96_66 : decode ov_m96.2.1 66 = .ok (.getfield 78, 3) := by decide +kernel
theorem b_96_69_3 : ov_ds ov_m96.2.1 69 [.iload 5, .iload_n 3, .iload 4] = true := by decide +kernel
theorem d_96_74 : decode ov_m96.2.1 74 = .ok (.invokevirtual 162, 3) := by decide +kernel
theorem d_96_77 : decode ov_m96.2.1 77 = .ok (.ifCond .ne 7, 3) := by decide +kernel
theorem b_96_84_1 : ov_ds ov_m96.2.1 84 [.iconst 0] = true := by decide +kernel
theorem d_96_85 : decode ov_m96.2.1 85 = .ok (.ireturn, 1) := by decide +kernel
theorem b_96_80_1 : ov_ds ov_m96.2.1 80 [.iconst 1] = true := by decide +kernel
theorem d_96_81 : decode ov_m96.2.1 81 = .ok (.goto 4, 3) := by decide +kernel
theorem b_96_54_2 : ov_ds ov_m96.2.1 54 [.iload_n 3, .iconst 1] = true := by decide +kernel
theorem d_96_56 : decode ov_m96.2.1 56 = .ok (.if_icmp .ne 7, 3) := by decide +kernel
theorem b_96_63_1 : ov_ds ov_m96.2.1 63 [.iconst 0] = true := by decide +kernel
theorem d_96_64 : decode ov_m96.2.1 64 = .ok (.ireturn, 1) := by decide +kernel
theorem b_96_59_1 : ov_ds ov_m96.2.1 59 [.iconst 1] = true := by decide +kernel
theorem d_96_60 : decode ov_m96.2.1 60 = .ok (.goto 4, 3) := by decide +kernel
theorem b_101_0_1 : ov_ds ov_m101.2.1 0 [.aload_n 0] = true := by decide +kernel
theorem d_101_1 : decode ov_m101.2.1 1 = .ok (.getfield 78, 3) := by decide +kernel
theorem b_101_4_2 : ov_ds ov_m101.2.1 4 [.iload_n 1, .iload_n 2] = true := by decide +kernel
theorem d_101_6 : decode ov_m101.2.1 6 = .ok (.invokevirtual 131, 3) := by decide +kernel
theorem b_101_9_3 : ov_ds ov_m101.2.1 9 [.istore 5, .iload 5, .iconst (-1)] = true := by decide +kernel
theorem d_101_14 : decode ov_m101.2.1 14 = .ok (.if_icmp .eq 24, 3) := by decide +kernel
theorem b_101_38_1 : ov_ds ov_m101.2.1 38 [.iconst (-1)] = true := by decide +kernel
theorem d_101_39 : decode ov_m101.2.1 39 = .ok (.ireturn, 1) := by decide +kernel
theorem b_101_17_1 : ov_ds ov_m101.2.1 17 [.iload 4] = true := by decide +kernel
theorem d_101_19 : decode ov_m101.2.1 19 = .ok (.invokestatic 155, 3) := by decide +kernel
theorem d_101_22 : decode ov_m101.2.1 22 = .ok (.ifCond .eq 16, 3) := by decide +kernel
theorem b_101_25_1 : ov_ds ov_m101.2.1 25 [.aload_n 0] = true := by decide +kernel
theorem d_101_26 : decode ov_m101.2.1 26 = .ok (.getfield 78, 3) := by decide +kernel
theorem b_101_29_2 : ov_ds ov_m101.2.1 29 [.iload 5, .iload_n 3] = true := by decide +kernel
theorem d_101_32 : decode ov_m101.2.1 32 = .ok (.invokevirtual 158, 3) := by decide +kernel
theorem d_101_35 : decode ov_m101.2.1 35 = .ok (.ifCond .ne 5, 3) := by decide +kernel
theorem b_101_40_1 : ov_ds ov_m101.2.1 40 [.aload_n 0] = true := by decide +kernel
theorem d_101_41 : decode ov_m101.2.1 41 = .ok (.getfield 78, 3) := by decide +kernel
theorem b_101_44_3 : ov_ds ov_m101.2.1 44 [.iload 5, .iload_n 3, .iload 4] = true := by decide +kernel
theorem d_101_49 : decode ov_m101.2.1 49 = .ok (.invokevirtual 162, 3) := by decide +kernel
theorem d_101_52 : decode ov_m101.2.1 52 = .ok (.ireturn, 1) := by decide +kernel
theorem b_102_0_1 : ov_ds ov_m102.2.1 0 [.aload_n 0] = true := by decide +kernel
theorem d_102_1 : decode ov_m102.2.1 1 = .ok (.getfield 78, 3) := by decide +kernel
theorem b_102_4_1 : ov_ds ov_m102.2.1 4 [.aload_n 0] = true := by decide +kernel
theorem d_102_5 : decode ov_m102.2.1 5 = .ok (.getfield 28, 3) := by decide +kernel
theorem d_102_8 : decode ov_m102.2.1 8 = .ok (.getfield 166, 3) := by decide +kernel
theorem b_102_11_1 : ov_ds ov_m102.2.1 11 [.iload_n 1] = true := by decide +kernel
theorem d_102_12 : decode ov_m102.2.1 12 = .ok (.invokevirtual 158, 3) := by decide +kernel
theorem d_102_15 : decode ov_m102.2.1 15 = .ok (.ifCond .eq 14, 3) := by decide +kernel
theorem b_102_29_1 : ov_ds ov_m102.2.1 29 [.iconst (-1)] = true := by decide +kernel
theorem d_102_30 : decode ov_m102.2.1 30 = .ok (.ireturn, 1) := by decide +kernel
theorem b_102_18_1 : ov_ds ov_m102.2.1 18 [.iload_n 2] = true := by decide +kernel
theorem d_102_19 : decode ov_m102.2.1 19 = .ok (.ifCond .eq 12, 3) := by decide +kernel
theorem b_102_31_1 : ov_ds ov_m102.2.1 31 [.aload_n 0] = true := by decide +kernel
theorem d_102_32 : decode ov_m102.2.1 32 = .ok (.getfield 35, 3) := by decide +kernel
theorem b_102_35_1 : ov_ds ov_m102.2.1 35 [.aload_n 0] = true := by decide +kernel
theorem d_102_36 : decode ov_m102.2.1 36 = .ok (.getfield 28, 3) := by decide +kernel
theorem d_102_39 : decode ov_m102.2.1 39 = .ok (.invokevirtual 172, 3) := by decide +kernel
theorem b_102_42_1 : ov_ds ov_m102.2.1 42 [.aload_n 0] = true := by decide +kernel
theorem d_102_43 : decode ov_m102.2.1 43 = .ok (.getfield 78, 3) := by decide +kernel
theorem d_102_46 : decode ov_m102.2.1 46 = .ok (.getfield 176, 3) := by decide +kernel
theorem b_102_49_1 : ov_ds ov_m102.2.1 49 [.iload_n 2] = true := by decide +kernel
theorem d_102_50 : decode ov_m102.2.1 50 = .ok (.ifCond .eq 7, 3) := by decide +kernel
theorem b_102_57_1 : ov_ds ov_m102.2.1 57 [.iconst 0] = true := by decide +kernel
theorem d_102_58 : decode ov_m102.2.1 58 = .ok (.iaload, 1) := by decide +kernel
theorem b_102_59_2 : ov_ds ov_m102.2.1 59 [.istore_n 3, .aload_n 0] = true := by decide +kernel
theorem d_102_61 : decode ov_m102.2.1 61 = .ok (.getfield 28, 3) := by decide +kernel
theorem b_102_64_1 : ov_ds ov_m102.2.1 64 [.dup] = true := by decide +kernel
theorem d_102_65 : decode ov_m102.2.1 65 = .ok (.getfield 179, 3) := by decide +kernel
theorem b_102_68_1 : ov_ds ov_m102.2.1 68 [.aload_n 0] = true := by decide +kernel
theorem d_102_69 : decode ov_m102.2.1 69 = .ok (.getfield 78, 3) := by decide +kernel
theorem b_102_72_1 : ov_ds ov_m102.2.1 72 [.aload_n 0] = true := by decide +kernel
theorem d_102_73 : decode ov_m102.2.1 73 = .ok (.getfield 28, 3) := by decide +kernel
theorem d_102_76 : decode ov_m102.2.1 76 = .ok (.getfield 166, 3) := by decide +kernel
theorem b_102_79_2 : ov_ds ov_m102.2.1 79 [.iload_n 1, .aload_n 0] = true := by decide +kernel
theorem d_102_81 : decode ov_m102.2.1 81 = .ok (.getfield 28, 3) := by decide +kernel
theorem d_102_84 : decode ov_m102.2.1 84 = .ok (.getfield 179, 3) := by decide +kernel
theorem d_102_87 : decode ov_m102.2.1 87 = .ok (.invokevirtual 162, 3) := by decide +kernel
theorem b_102_90_2 : ov_ds ov_m102.2.1 90 [.iload_n 3, .iadd] = true := by decide +kernel
theorem b_102_92_1 : ov_ds ov_m102.2.1 92 [.iadd] = true := by decide +kernel
theorem d_102_93 : decode ov_m102.2.1 93 = .ok (.putfield 179, 3) := by decide +kernel
theorem b_102_96_1 : ov_ds ov_m102.2.1 96 [.aload_n 0] = true := by decide +kernel
theorem d_102_97 : decode ov_m102.2.1 97 = .ok (.getfield 28, 3) := by decide +kernel
theorem b_102_100_1 : ov_ds ov_m102.2.1 100 [.aload_n 0] = true := by decide +kernel
theorem d_102_101 : decode ov_m102.2.1 101 = .ok (.getfield 78, 3) := by decide +kernel
theorem b_102_104_1 : ov_ds ov_m102.2.1 104 [.aload_n 0] = true := by decide +kernel
theorem d_102_105 : decode ov_m102.2.1 105 = .ok (.getfield 28, 3) := by decide +kernel
theorem d_102_108 : decode ov_m102.2.1 108 = .ok (.getfield 166, 3) := by decide +kernel
theorem b_102_111_1 : ov_ds ov_m102.2.1 111 [.iload_n 1] = true := by decide +kernel
theorem d_102_112 : decode ov_m102.2.1 112 = .ok (.invokevirtual 182, 3) := by decide +kernel
theorem d_102_115 : decode ov_m102.2.1 115 = .ok (.putfield 166, 3) := by decide +kernel
theorem b_102_118_1 : ov_ds ov_m102.2.1 118 [.aload_n 0] = true := by decide +kernel
theorem d_102_119 : decode ov_m102.2.1 119 = .ok (.getfield 28, 3) := by decide +kernel
theorem b_102_122_1 : ov_ds ov_m102.2.1 122 [.dup] = true := by decide +kernel
theorem d_102_123 : decode ov_m102.2.1 123 = .ok (.getfield 185, 3) := by decide +kernel
theorem b_102_126_1 : ov_ds ov_m102.2.1 126 [.iload_n 2] = true := by decide +kernel
theorem d_102_127 : decode ov_m102.2.1 127 = .ok (.ifCond .eq 7, 3) := by decide +kernel
theorem b_102_134_2 : ov_ds ov_m102.2.1 134 [.iconst 0, .iadd] = true := by decide +kernel
theorem d_102_136 : decode ov_m102.2.1 136 = .ok (.putfield 185, 3) := by decide +kernel
theorem b_102_139_1 : ov_ds ov_m102.2.1 139 [.aload_n 0] = true := by decide +kernel
theorem d_102_140 : decode ov_m102.2.1 140 = .ok (.getfield 28, 3) := by decide +kernel
theorem d_102_143 : decode ov_m102.2.1 143 = .ok (.getfield 179, 3) := by decide +kernel
theorem d_102_146 : decode ov_m102.2.1 146 = .ok (.ireturn, 1) := by decide +kernel
theorem b_102_130_1 : ov_ds ov_m102.2.1 130 [.iconst 1] = true := by decide +kernel
theorem d_102_131 : decode ov_m102.2.1 131 = .ok (.goto 4, 3) := by decide +kernel
theorem b_102_135_1 : ov_ds ov_m102.2.1 135 [.iadd] = true := by decide +kernel
theorem b_102_53_1 : ov_ds ov_m102.2.1 53 [.iconst 1] = true := by decide +kernel
theorem d_102_54 : decode ov_m102.2.1 54 = .ok (.goto 4, 3) := by decide +kernel
theorem b_102_22_1 : ov_ds ov_m102.2.1 22 [.aload_n 0] = true := by decide +kernel
theorem d_102_23 : decode ov_m102.2.1 23 = .ok (.invokevirtual 168, 3) := by decide +kernel
theorem d_102_26 : decode ov_m102.2.1 26 = .ok (.ifCond .gt 5, 3) := by decide +kernel
theorem b_105_0_2 : ov_ds ov_m105.2.1 0 [.iload_n 1, .iconst 1] = true := by decide +kernel
theorem d_105_2 : decode ov_m105.2.1 2 = .ok (.if_icmp .lt 10, 3) := by decide +kernel
theorem b_105_12_1 : ov_ds ov_m105.2.1 12 [.iconst (-1)] = true := by decide +kernel
theorem d_105_13 : decode ov_m105.2.1 13 = .ok (.ireturn, 1) := by decide +kernel
theorem b_105_5_2 : ov_ds ov_m105.2.1 5 [.iload_n 1, .sipush 1000] = true := by decide +kernel
theorem d_105_9 : decode ov_m105.2.1 9 = .ok (.if_icmp .le 5, 3) := by decide +kernel
theorem b_105_14_1 : ov_ds ov_m105.2.1 14 [.aload_n 0] = true := by decide +kernel
theorem d_105_15 : decode ov_m105.2.1 15 = .ok (.getfield 35, 3) := by decide +kernel
theorem b_105_18_1 : ov_ds ov_m105.2.1 18 [.aload_n 0] = true := by decide +kernel
theorem d_105_19 : decode ov_m105.2.1 19 = .ok (.getfield 28, 3) := by decide +kernel
theorem d_105_22 : decode ov_m105.2.1 22 = .ok (.invokevirtual 172, 3) := by decide +kernel
theorem b_105_25_1 : ov_ds ov_m105.2.1 25 [.aload_n 0] = true := by decide +kernel
theorem d_105_26 : decode ov_m105.2.1 26 = .ok (.getfield 28, 3) := by decide +kernel
theorem b_105_29_1 : ov_ds ov_m105.2.1 29 [.dup] = true := by decide +kernel
theorem d_105_30 : decode ov_m105.2.1 30 = .ok (.getfield 179, 3) := by decide +kernel
theorem b_105_33_2 : ov_ds ov_m105.2.1 33 [.iload_n 1, .iadd] = true := by decide +kernel
theorem d_105_35 : decode ov_m105.2.1 35 = .ok (.putfield 179, 3) := by decide +kernel
theorem b_105_38_1 : ov_ds ov_m105.2.1 38 [.aload_n 0] = true := by decide +kernel
theorem d_105_39 : decode ov_m105.2.1 39 = .ok (.getfield 28, 3) := by decide +kernel
theorem d_105_42 : decode ov_m105.2.1 42 = .ok (.getfield 179, 3) := by decide +kernel
theorem d_105_45 : decode ov_m105.2.1 45 = .ok (.ireturn, 1) := by decide +kernel
theorem b_106_0_1 : ov_ds ov_m106.2.1 0 [.aload_n 0] = true := by decide +kernel
theorem d_106_1 : decode ov_m106.2.1 1 = .ok (.getfield 78, 3) := by decide +kernel
theorem d_106_4 : decode ov_m106.2.1 4 = .ok (.getfield 139, 3) := by decide +kernel
theorem b_106_7_1 : ov_ds ov_m106.2.1 7 [.aload_n 0] = true := by decide +kernel
theorem d_106_8 : decode ov_m106.2.1 8 = .ok (.getfield 28, 3) := by decide +kernel
theorem d_106_11 : decode ov_m106.2.1 11 = .ok (.getfield 166, 3) := by decide +kernel
theorem d_106_14 : decode ov_m106.2.1 14 = .ok (.iaload, 1) := by decide +kernel
theorem b_106_15_1 : ov_ds ov_m106.2.1 15 [.iconst 1] = true := by decide +kernel
theorem d_106_16 : decode ov_m106.2.1 16 = .ok (.if_icmp .ne 20, 3) := by decide +kernel
theorem b_106_36_1 : ov_ds ov_m106.2.1 36 [.iconst 0] = true := by decide +kernel
theorem d_106_37 : decode ov_m106.2.1 37 = .ok (.ireturn, 1) := by decide +kernel
theorem b_106_19_1 : ov_ds ov_m106.2.1 19 [.aload_n 0] = true := by decide +kernel
theorem d_106_20 : decode ov_m106.2.1 20 = .ok (.getfield 28, 3) := by decide +kernel
theorem b_106_23_1 : ov_ds ov_m106.2.1 23 [.aload_n 0] = true := by decide +kernel
theorem d_106_24 : decode ov_m106.2.1 24 = .ok (.getfield 28, 3) := by decide +kernel
theorem d_106_27 : decode ov_m106.2.1 27 = .ok (.getfield 166, 3) := by decide +kernel
theorem d_106_30 : decode ov_m106.2.1 30 = .ok (.invokevirtual 151, 3) := by decide +kernel
theorem d_106_33 : decode ov_m106.2.1 33 = .ok (.ifCond .eq 5, 3) := by decide +kernel
theorem b_106_38_1 : ov_ds ov_m106.2.1 38 [.aload_n 0] = true := by decide +kernel
theorem d_106_39 : decode ov_m106.2.1 39 = .ok (.getfield 35, 3) := by decide +kernel
theorem b_106_42_1 : ov_ds ov_m106.2.1 42 [.aload_n 0] = true := by decide +kernel
theorem d_106_43 : decode ov_m106.2.1 43 = .ok (.getfield 28, 3) := by decide +kernel
theorem d_106_46 : decode ov_m106.2.1 46 = .ok (.invokevirtual 172, 3) := by decide +kernel
theorem b_106_49_1 : ov_ds ov_m106.2.1 49 [.aload_n 0] = true := by decide +kernel
theorem d_106_50 : decode ov_m106.2.1 50 = .ok (.getfield 28, 3) := by decide +kernel
theorem b_106_53_1 : ov_ds ov_m106.2.1 53 [.dup] = true := by decide +kernel
theorem d_106_54 : decode ov_m106.2.1 54 = .ok (.getfield 192, 3) := by decide +kernel
theorem b_106_57_2 : ov_ds ov_m106.2.1 57 [.lconst 1, .aload_n 0] = true := by decide +kernel
theorem d_106_59 : decode ov_m106.2.1 59 = .ok (.getfield 28, 3) := by decide +kernel
theorem d_106_62 : decode ov_m106.2.1 62 = .ok (.getfield 166, 3) := by decide +kernel
theorem b_106_65_2 : ov_ds ov_m106.2.1 65 [.lshl, .lor] = true := by decide +kernel
theorem d_106_67 : decode ov_m106.2.1 67 = .ok (.putfield 192, 3) := by decide +kernel
theorem b_106_70_1 : ov_ds ov_m106.2.1 70 [.iconst 1] = true := by decide +kernel
theorem d_106_71 : decode ov_m106.2.1 71 = .ok (.ireturn, 1) := by decide +kernel
theorem b_107_0_1 : ov_ds ov_m107.2.1 0 [.aload_n 0] = true := by decide +kernel
theorem d_107_1 : decode ov_m107.2.1 1 = .ok (.getfield 35, 3) := by decide +kernel
theorem b_107_4_1 : ov_ds ov_m107.2.1 4 [.aload_n 0] = true := by decide +kernel
theorem d_107_5 : decode ov_m107.2.1 5 = .ok (.getfield 28, 3) := by decide +kernel
theorem d_107_8 : decode ov_m107.2.1 8 = .ok (.invokevirtual 196, 3) := by decide +kernel
theorem d_107_11 : decode ov_m107.2.1 11 = .ok (.ireturn, 1) := by decide +kernel
theorem b_109_0_1 : ov_ds ov_m109.2.1 0 [.aload_n 0] = true := by decide +kernel
theorem d_109_1 : decode ov_m109.2.1 1 = .ok (.getfield 88, 3) := by decide +kernel
theorem b_109_4_1 : ov_ds ov_m109.2.1 4 [.aload_n 0] = true := by decide +kernel
theorem d_109_5 : decode ov_m109.2.1 5 = .ok (.getfield 78, 3) := by decide +kernel
theorem d_109_8 : decode ov_m109.2.1 8 = .ok (.invokevirtual 200, 3) := by decide +kernel
theorem d_109_11 : decode ov_m109.2.1 11 = .ok (.ireturn, 1) := by decide +kernel
theorem b_112_0_1 : ov_ds ov_m112.2.1 0 [.aload_n 0] = true := by decide +kernel
theorem d_112_1 : decode ov_m112.2.1 1 = .ok (.getfield 78, 3) := by decide +kernel
theorem b_112_4_2 : ov_ds ov_m112.2.1 4 [.iload_n 1, .iload_n 2] = true := by decide +kernel
theorem d_112_6 : decode ov_m112.2.1 6 = .ok (.invokevirtual 131, 3) := by decide +kernel
theorem b_112_9_3 : ov_ds ov_m112.2.1 9 [.istore 5, .iload 5, .iconst (-1)] = true := by decide +kernel
theorem d_112_14 : decode ov_m112.2.1 14 = .ok (.if_icmp .eq 23, 3) := by decide +kernel
theorem b_112_37_1 : ov_ds ov_m112.2.1 37 [.bipush (-2)] = true := by decide +kernel
theorem d_112_39 : decode ov_m112.2.1 39 = .ok (.ireturn, 1) := by decide +kernel
theorem b_112_17_1 : ov_ds ov_m112.2.1 17 [.iload_n 3] = true := by decide +kernel
theorem d_112_18 : decode ov_m112.2.1 18 = .ok (.invokestatic 155, 3) := by decide +kernel
theorem d_112_21 : decode ov_m112.2.1 21 = .ok (.ifCond .eq 16, 3) := by decide +kernel
theorem b_112_24_2 : ov_ds ov_m112.2.1 24 [.iload 4, .iconst (-1)] = true := by decide +kernel
theorem d_112_27 : decode ov_m112.2.1 27 = .ok (.if_icmp .lt 10, 3) := by decide +kernel
theorem b_112_30_2 : ov_ds ov_m112.2.1 30 [.iload 4, .bipush 13] = true := by decide +kernel
theorem d_112_34 : decode ov_m112.2.1 34 = .ok (.if_icmp .lt 6, 3) := by decide +kernel
theorem b_112_40_2 : ov_ds ov_m112.2.1 40 [.iload 4, .iconst (-1)] = true := by decide +kernel
theorem d_112_43 : decode ov_m112.2.1 43 = .ok (.if_icmp .eq 20, 3) := by decide +kernel
theorem b_112_63_1 : ov_ds ov_m112.2.1 63 [.aload_n 0] = true := by decide +kernel
theorem d_112_64 : decode ov_m112.2.1 64 = .ok (.getfield 57, 3) := by decide +kernel
theorem b_112_67_1 : ov_ds ov_m112.2.1 67 [.aload_n 0] = true := by decide +kernel
theorem d_112_68 : decode ov_m112.2.1 68 = .ok (.getfield 78, 3) := by decide +kernel
theorem b_112_71_2 : ov_ds ov_m112.2.1 71 [.iload 5, .iload_n 3] = true := by decide +kernel
theorem d_112_74 : decode ov_m112.2.1 74 = .ok (.invokevirtual 207, 3) := by decide +kernel
theorem b_112_77_3 : ov_ds ov_m112.2.1 77 [.istore 6, .iload 6, .iconst (-1)] = true := by decide +kernel
theorem d_112_82 : decode ov_m112.2.1 82 = .ok (.if_icmp .ne 8, 3) := by decide +kernel
theorem b_112_90_1 : ov_ds ov_m112.2.1 90 [.iload 6] = true := by decide +kernel
theorem d_112_92 : decode ov_m112.2.1 92 = .ok (.ireturn, 1) := by decide +kernel
theorem b_112_85_1 : ov_ds ov_m112.2.1 85 [.bipush (-2)] = true := by decide +kernel
theorem d_112_87 : decode ov_m112.2.1 87 = .ok (.goto 5, 3) := by decide +kernel
theorem b_112_46_1 : ov_ds ov_m112.2.1 46 [.aload_n 0] = true := by decide +kernel
theorem d_112_47 : decode ov_m112.2.1 47 = .ok (.getfield 57, 3) := by decide +kernel
theorem b_112_50_1 : ov_ds ov_m112.2.1 50 [.aload_n 0] = true := by decide +kernel
theorem d_112_51 : decode ov_m112.2.1 51 = .ok (.getfield 78, 3) := by decide +kernel
theorem b_112_54_3 : ov_ds ov_m112.2.1 54 [.iload 5, .iload_n 3, .iload 4] = true := by decide +kernel
theorem d_112_59 : decode ov_m112.2.1 59 = .ok (.invokevirtual 203, 3) := by decide +kernel
theorem d_112_62 : decode ov_m112.2.1 62 = .ok (.ireturn, 1) := by decide +kernel
theorem b_121_0_2 : ov_ds ov_m121.2.1 0 [.iload_n 2, .iconst (-1)] = true := by decide +kernel
theorem d_121_2 : decode ov_m121.2.1 2 = .ok (.if_icmp .eq 18, 3) := by decide +kernel
theorem b_121_20_1 : ov_ds ov_m121.2.1 20 [.iconst (-1)] = true := by decide +kernel
theorem d_121_21 : decode ov_m121.2.1 21 = .ok (.ireturn, 1) := by decide +kernel
theorem b_121_5_2 : ov_ds ov_m121.2.1 5 [.aload_n 0, .iload_n 1] = true := by decide +kernel
theorem d_121_7 : decode ov_m121.2.1 7 = .ok (.invokevirtual 215, 3) := by decide +kernel
theorem d_121_10 : decode ov_m121.2.1 10 = .ok (.ifCond .eq 10, 3) := by decide +kernel
theorem b_121_13_1 : ov_ds ov_m121.2.1 13 [.iload_n 3] = true := by decide +kernel
theorem d_121_14 : decode ov_m121.2.1 14 = .ok (.invokestatic 155, 3) := by decide +kernel
theorem d_121_17 : decode ov_m121.2.1 17 = .ok (.ifCond .ne 5, 3) := by decide +kernel
theorem b_121_22_1 : ov_ds ov_m121.2.1 22 [.aload_n 0] = true := by decide +kernel
theorem d_121_23 : decode ov_m121.2.1 23 = .ok (.getfield 50, 3) := by decide +kernel
theorem b_121_26_1 : ov_ds ov_m121.2.1 26 [.aload_n 0] = true := by decide +kernel
theorem d_121_27 : decode ov_m121.2.1 27 = .ok (.getfield 78, 3) := by decide +kernel
theorem b_121_30_1 : ov_ds ov_m121.2.1 30 [.aload_n 0] = true := by decide +kernel
theorem d_121_31 : decode ov_m121.2.1 31 = .ok (.getfield 28, 3) := by decide +kernel
theorem d_121_34 : decode ov_m121.2.1 34 = .ok (.getfield 192, 3) := by decide +kernel
theorem b_121_37_2 : ov_ds ov_m121.2.1 37 [.iload_n 1, .iload 4] = true := by decide +kernel
theorem d_121_40 : decode ov_m121.2.1 40 = .ok (.invokevirtual 218, 3) := by decide +kernel
theorem b_121_43_1 : ov_ds ov_m121.2.1 43 [.aload_n 0] = true := by decide +kernel
theorem d_121_44 : decode ov_m121.2.1 44 = .ok (.getfield 50, 3) := by decide +kernel
theorem b_121_47_2 : ov_ds ov_m121.2.1 47 [.iload_n 2, .iload_n 3] = true := by decide +kernel
theorem d_121_49 : decode ov_m121.2.1 49 = .ok (.invokevirtual 222, 3) := by decide +kernel
theorem d_121_52 : decode ov_m121.2.1 52 = .ok (.ireturn, 1) := by decide +kernel
theorem b_120_0_3 : ov_ds ov_m120.2.1 0 [.aload_n 0, .iload_n 1, .aload_n 0] = true := by decide +kernel
theorem d_120_3 : decode ov_m120.2.1 3 = .ok (.getfield 78, 3) := by decide +kernel
theorem b_120_6_2 : ov_ds ov_m120.2.1 6 [.iload_n 2, .iload_n 3] = true := by decide +kernel
theorem d_120_8 : decode ov_m120.2.1 8 = .ok (.invokevirtual 131, 3) := by decide +kernel
theorem b_120_11_2 : ov_ds ov_m120.2.1 11 [.iload 4, .iconst 0] = true := by decide +kernel
theorem d_120_14 : decode ov_m120.2.1 14 = .ok (.invokevirtual 211, 3) := by decide +kernel
theorem d_120_17 : decode ov_m120.2.1 17 = .ok (.ireturn, 1) := by decide +kernel
theorem b_142_0_3 : ov_ds ov_m142.2.1 0 [.aload_n 0, .iload_n 1, .aload_n 0] = true := by decide +kernel
theorem d_142_3 : decode ov_m142.2.1 3 = .ok (.getfield 78, 3) := by decide +kernel
theorem b_142_6_2 : ov_ds ov_m142.2.1 6 [.iload_n 2, .iload_n 3] = true := by decide +kernel
theorem d_142_8 : decode ov_m142.2.1 8 = .ok (.invokevirtual 131, 3) := by decide +kernel
theorem b_142_11_2 : ov_ds ov_m142.2.1 11 [.iload 4, .iconst 1] = true := by decide +kernel
theorem d_142_14 : decode ov_m142.2.1 14 = .ok (.invokevirtual 211, 3) := by decide +kernel
theorem d_142_17 : decode ov_m142.2.1 17 = .ok (.ireturn, 1) := by decide +kernel
theorem b_143_0_1 : ov_ds ov_m143.2.1 0 [.aload_n 0] = true := by decide +kernel
theorem d_143_1 : decode ov_m143.2.1 1 = .ok (.getfield 78, 3) := by decide +kernel
theorem b_143_4_2 : ov_ds ov_m143.2.1 4 [.iload_n 1, .iload_n 2] = true := by decide +kernel
theorem d_143_6 : decode ov_m143.2.1 6 = .ok (.invokevirtual 131, 3) := by decide +kernel
theorem b_143_9_3 : ov_ds ov_m143.2.1 9 [.istore 5, .iload 5, .iconst (-1)] = true := by decide +kernel
theorem d_143_14 : decode ov_m143.2.1 14 = .ok (.if_icmp .eq 22, 3) := by decide +kernel
theorem b_143_36_1 : ov_ds ov_m143.2.1 36 [.iconst (-1)] = true := by decide +kernel
theorem d_143_37 : decode ov_m143.2.1 37 = .ok (.ireturn, 1) := by decide +kernel
theorem b_143_17_2 : ov_ds ov_m143.2.1 17 [.iload 5, .aload_n 0] = true := by decide +kernel
theorem d_143_20 : decode ov_m143.2.1 20 = .ok (.getfield 78, 3) := by decide +kernel
theorem d_143_23 : decode ov_m143.2.1 23 = .ok (.invokevirtual 225, 3) := by decide +kernel
theorem d_143_26 : decode ov_m143.2.1 26 = .ok (.if_icmp .eq 10, 3) := by decide +kernel
theorem b_143_29_1 : ov_ds ov_m143.2.1 29 [.iload_n 3] = true := by decide +kernel
theorem d_143_30 : decode ov_m143.2.1 30 = .ok (.invokestatic 155, 3) := by decide +kernel
theorem d_143_33 : decode ov_m143.2.1 33 = .ok (.ifCond .ne 5, 3) := by decide +kernel
theorem b_143_38_1 : ov_ds ov_m143.2.1 38 [.aload_n 0] = true := by decide +kernel
theorem d_143_39 : decode ov_m143.2.1 39 = .ok (.getfield 50, 3) := by decide +kernel
theorem b_143_42_1 : ov_ds ov_m143.2.1 42 [.aload_n 0] = true := by decide +kernel
theorem d_143_43 : decode ov_m143.2.1 43 = .ok (.getfield 78, 3) := by decide +kernel
theorem b_143_46_1 : ov_ds ov_m143.2.1 46 [.aload_n 0] = true := by decide +kernel
theorem d_143_47 : decode ov_m143.2.1 47 = .ok (.getfield 28, 3) := by decide +kernel
theorem d_143_50 : decode ov_m143.2.1 50 = .ok (.getfield 192, 3) := by decide +kernel
theorem b_143_53_2 : ov_ds ov_m143.2.1 53 [.iconst 3, .iconst 0] = true := by decide +kernel
theorem d_143_55 : decode ov_m143.2.1 55 = .ok (.invokevirtual 218, 3) := by decide +kernel
theorem b_143_58_3 : ov_ds ov_m143.2.1 58 [.iload_n 3, .istore 6, .aload_n 0] = true := by decide +kernel
theorem d_143_62 : decode ov_m143.2.1 62 = .ok (.getfield 50, 3) := by decide +kernel
theorem b_143_65_1 : ov_ds ov_m143.2.1 65 [.iload 5] = true := by decide +kernel
theorem d_143_67 : decode ov_m143.2.1 67 = .ok (.invokevirtual 228, 3) := by decide +kernel
theorem d_143_70 : decode ov_m143.2.1 70 = .ok (.ifCond .eq 29, 3) := by decide +kernel
theorem b_143_99_1 : ov_ds ov_m143.2.1 99 [.aload_n 0] = true := by decide +kernel
theorem d_143_100 : decode ov_m143.2.1 100 = .ok (.getfield 50, 3) := by decide +kernel
theorem b_143_103_3 : ov_ds ov_m143.2.1 103 [.iload 5, .iload_n 3, .iload 6] = true := by decide +kernel
theorem d_143_108 : decode ov_m143.2.1 108 = .ok (.invokevirtual 231, 3) := by decide +kernel
theorem d_143_111 : decode ov_m143.2.1 111 = .ok (.ireturn, 1) := by decide +kernel
theorem b_143_73_1 : ov_ds ov_m143.2.1 73 [.iload 4] = true := by decide +kernel
theorem d_143_75 : decode ov_m143.2.1 75 = .ok (.ifCond .lt 18, 3) := by decide +kernel
theorem b_143_93_1 : ov_ds ov_m143.2.1 93 [.iconst (-1)] = true := by decide +kernel
theorem d_143_94 : decode ov_m143.2.1 94 = .ok (.ireturn, 1) := by decide +kernel
theorem b_143_78_2 : ov_ds ov_m143.2.1 78 [.iload 4, .aload_n 0] = true := by decide +kernel
theorem d_143_81 : decode ov_m143.2.1 81 = .ok (.getfield 78, 3) := by decide +kernel
theorem d_143_84 : decode ov_m143.2.1 84 = .ok (.getfield 142, 3) := by decide +kernel
theorem b_143_87_1 : ov_ds ov_m143.2.1 87 [.iload 5] = true := by decide +kernel
theorem d_143_89 : decode ov_m143.2.1 89 = .ok (.iaload, 1) := by decide +kernel
theorem d_143_90 : decode ov_m143.2.1 90 = .ok (.if_icmp .lt 5, 3) := by decide +kernel
theorem b_143_95_3 : ov_ds ov_m143.2.1 95 [.iload 4, .istore 6, .aload_n 0] = true := by decide +kernel
theorem b_145_0_5 : ov_ds ov_m145.2.1 0 [.aload_n 0, .iconst 2, .iload_n 1, .iload_n 2, .iload_n 3] = true := by decide +kernel
theorem d_145_5 : decode ov_m145.2.1 5 = .ok (.invokevirtual 234, 3) := by decide +kernel
theorem b_145_8_6 : ov_ds ov_m145.2.1 8 [.istore 4, .aload_n 0, .iconst 3, .iload_n 1, .iload_n 2, .iload_n 3] = true := by decide +kernel
theorem d_145_15 : decode ov_m145.2.1 15 = .ok (.invokevirtual 234, 3) := by decide +kernel
theorem b_145_18_3 : ov_ds ov_m145.2.1 18 [.istore 5, .iload 4, .iconst (-1)] = true := by decide +kernel
theorem d_145_23 : decode ov_m145.2.1 23 = .ok (.if_icmp .eq 9, 3) := by decide +kernel
theorem b_145_32_1 : ov_ds ov_m145.2.1 32 [.iconst (-1)] = true := by decide +kernel
theorem d_145_33 : decode ov_m145.2.1 33 = .ok (.goto 8, 3) := by decide +kernel
theorem d_145_41 : decode ov_m145.2.1 41 = .ok (.ireturn, 1) := by decide +kernel
theorem b_145_26_2 : ov_ds ov_m145.2.1 26 [.iload 5, .iconst (-1)] = true := by decide +kernel
theorem d_145_29 : decode ov_m145.2.1 29 = .ok (.if_icmp .ne 7, 3) := by decide +kernel
theorem b_145_36_3 : ov_ds ov_m145.2.1 36 [.iload 4, .iload 5, .isub] = true := by decide +kernel
theorem b_146_0_1 : ov_ds ov_m146.2.1 0 [.aload_n 0] = true := by decide +kernel
theorem d_146_1 : decode ov_m146.2.1 1 = .ok (.getfield 78, 3) := by decide +kernel
theorem b_146_4_2 : ov_ds ov_m146.2.1 4 [.iload_n 1, .iload_n 2] = true := by decide +kernel
theorem d_146_6 : decode ov_m146.2.1 6 = .ok (.invokevirtual 131, 3) := by decide +kernel
theorem b_146_9_3 : ov_ds ov_m146.2.1 9 [.istore 4, .iload 4, .iconst (-1)] = true := by decide +kernel
theorem d_146_14 : decode ov_m146.2.1 14 = .ok (.if_icmp .eq 27, 3) := by decide +kernel
theorem b_146_41_1 : ov_ds ov_m146.2.1 41 [.iconst (-1)] = true := by decide +kernel
theorem d_146_42 : decode ov_m146.2.1 42 = .ok (.ireturn, 1) := by decide +kernel
theorem b_146_17_5 : ov_ds ov_m146.2.1 17 [.aload_n 0, .iconst 3, .iconst 0, .iload_n 3, .iconst 0] = true := by decide +kernel
theorem d_146_22 : decode ov_m146.2.1 22 = .ok (.invokevirtual 211, 3) := by decide +kernel
theorem b_146_25_1 : ov_ds ov_m146.2.1 25 [.iconst (-1)] = true := by decide +kernel
theorem d_146_26 : decode ov_m146.2.1 26 = .ok (.if_icmp .eq 15, 3) := by decide +kernel
theorem b_146_29_1 : ov_ds ov_m146.2.1 29 [.aload_n 0] = true := by decide +kernel
theorem d_146_30 : decode ov_m146.2.1 30 = .ok (.getfield 50, 3) := by decide +kernel
theorem b_146_33_1 : ov_ds ov_m146.2.1 33 [.iload 4] = true := by decide +kernel
theorem d_146_35 : decode ov_m146.2.1 35 = .ok (.invokevirtual 228, 3) := by decide +kernel
theorem d_146_38 : decode ov_m146.2.1 38 = .ok (.ifCond .ne 5, 3) := by decide +kernel
theorem b_146_43_1 : ov_ds ov_m146.2.1 43 [.aload_n 0] = true := by decide +kernel
theorem d_146_44 : decode ov_m146.2.1 44 = .ok (.getfield 50, 3) := by decide +kernel
theorem b_146_47_2 : ov_ds ov_m146.2.1 47 [.iload 4, .iload_n 3] = true := by decide +kernel
theorem d_146_50 : decode ov_m146.2.1 50 = .ok (.invokevirtual 238, 3) := by decide +kernel
theorem d_146_53 : decode ov_m146.2.1 53 = .ok (.ireturn, 1) := by decide +kernel
theorem b_149_0_1 : ov_ds ov_m149.2.1 0 [.aload_n 0] = true := by decide +kernel
theorem d_149_1 : decode ov_m149.2.1 1 = .ok (.getfield 78, 3) := by decide +kernel
theorem b_149_4_2 : ov_ds ov_m149.2.1 4 [.iload_n 1, .iload_n 2] = true := by decide +kernel
theorem d_149_6 : decode ov_m149.2.1 6 = .ok (.invokevirtual 131, 3) := by decide +kernel
theorem b_149_9_3 : ov_ds ov_m149.2.1 9 [.istore 4, .iload 4, .iconst (-1)] = true := by decide +kernel
theorem d_149_14 : decode ov_m149.2.1 14 = .ok (.if_icmp .eq 10, 3) := by decide +kernel
theorem b_149_24_1 : ov_ds ov_m149.2.1 24 [.iconst (-1)] = true := by decide +kernel
theorem d_149_25 : decode ov_m149.2.1 25 = .ok (.ireturn, 1) := by decide +kernel
theorem b_149_17_1 : ov_ds ov_m149.2.1 17 [.iload_n 3] = true := by decide +kernel
theorem d_149_18 : decode ov_m149.2.1 18 = .ok (.invokestatic 155, 3) := by decide +kernel
theorem d_149_21 : decode ov_m149.2.1 21 = .ok (.ifCond .ne 5, 3) := by decide +kernel
theorem b_149_26_1 : ov_ds ov_m149.2.1 26 [.aload_n 0] = true := by decide +kernel
theorem d_149_27 : decode ov_m149.2.1 27 = .ok (.getfield 57, 3) := by decide +kernel
theorem b_149_30_1 : ov_ds ov_m149.2.1 30 [.aload_n 0] = true := by decide +kernel
theorem d_149_31 : decode ov_m149.2.1 31 = .ok (.getfield 78, 3) := by decide +kernel
theorem b_149_34_2 : ov_ds ov_m149.2.1 34 [.iload 4, .iload_n 3] = true := by decide +kernel
theorem d_149_37 : decode ov_m149.2.1 37 = .ok (.invokevirtual 241, 3) := by decide +kernel
theorem d_149_40 : decode ov_m149.2.1 40 = .ok (.ireturn, 1) := by decide +kernel
theorem b_151_0_1 : ov_ds ov_m151.2.1 0 [.iload_n 1] = true := by decide +kernel
theorem d_151_1 : decode ov_m151.2.1 1 = .ok (.invokestatic 155, 3) := by decide +kernel
theorem d_151_4 : decode ov_m151.2.1 4 = .ok (.ifCond .eq 13, 3) := by decide +kernel
theorem b_151_17_1 : ov_ds ov_m151.2.1 17 [.iconst (-1)] = true := by decide +kernel
theorem d_151_18 : decode ov_m151.2.1 18 = .ok (.ireturn, 1) := by decide +kernel
theorem b_151_7_1 : ov_ds ov_m151.2.1 7 [.iload_n 2] = true := by decide +kernel
theorem d_151_8 : decode ov_m151.2.1 8 = .ok (.ifCond .lt 9, 3) := by decide +kernel
theorem b_151_11_2 : ov_ds ov_m151.2.1 11 [.iload_n 2, .bipush 12] = true := by decide +kernel
theorem d_151_14 : decode ov_m151.2.1 14 = .ok (.if_icmp .le 5, 3) := by decide +kernel
theorem b_151_19_1 : ov_ds ov_m151.2.1 19 [.aload_n 0] = true := by decide +kernel
theorem d_151_20 : decode ov_m151.2.1 20 = .ok (.getfield 57, 3) := by decide +kernel
theorem b_151_23_1 : ov_ds ov_m151.2.1 23 [.aload_n 0] = true := by decide +kernel
theorem d_151_24 : decode ov_m151.2.1 24 = .ok (.getfield 78, 3) := by decide +kernel
theorem b_151_27_2 : ov_ds ov_m151.2.1 27 [.iload_n 1, .iload_n 2] = true := by decide +kernel
theorem d_151_29 : decode ov_m151.2.1 29 = .ok (.invokevirtual 244, 3) := by decide +kernel
theorem d_151_32 : decode ov_m151.2.1 32 = .ok (.ireturn, 1) := by decide +kernel
theorem b_156_0_5 : ov_ds ov_m156.2.1 0 [.aload_n 0, .iconst 3, .iconst 0, .iload_n 1, .iconst 0] = true := by decide +kernel
theorem d_156_5 : decode ov_m156.2.1 5 = .ok (.invokevirtual 211, 3) := by decide +kernel
theorem b_156_8_1 : ov_ds ov_m156.2.1 8 [.iconst (-1)] = true := by decide +kernel
theorem d_156_9 : decode ov_m156.2.1 9 = .ok (.if_icmp .ne 5, 3) := by decide +kernel
theorem b_156_14_1 : ov_ds ov_m156.2.1 14 [.aload_n 0] = true := by decide +kernel
theorem d_156_15 : decode ov_m156.2.1 15 = .ok (.getfield 50, 3) := by decide +kernel
theorem b_156_18_1 : ov_ds ov_m156.2.1 18 [.iload_n 1] = true := by decide +kernel
theorem d_156_19 : decode ov_m156.2.1 19 = .ok (.invokevirtual 247, 3) := by decide +kernel
theorem b_156_22_3 : ov_ds ov_m156.2.1 22 [.istore_n 2, .iload_n 2, .iconst (-1)] = true := by decide +kernel
theorem d_156_25 : decode ov_m156.2.1 25 = .ok (.if_icmp .ne 7, 3) := by decide +kernel
theorem b_156_32_3 : ov_ds ov_m156.2.1 32 [.bipush 8, .iload_n 2, .bipush 6] = true := by decide +kernel
theorem d_156_37 : decode ov_m156.2.1 37 = .ok (.idiv, 1) := by decide +kernel
theorem b_156_38_3 : ov_ds ov_m156.2.1 38 [.imul, .iload_n 2, .bipush 6] = true := by decide +kernel
theorem d_156_42 : decode ov_m156.2.1 42 = .ok (.irem, 1) := by decide +kernel
theorem b_156_43_1 : ov_ds ov_m156.2.1 43 [.iadd] = true := by decide +kernel
theorem d_156_44 : decode ov_m156.2.1 44 = .ok (.ireturn, 1) := by decide +kernel
theorem b_156_28_1 : ov_ds ov_m156.2.1 28 [.iconst (-1)] = true := by decide +kernel
theorem d_156_29 : decode ov_m156.2.1 29 = .ok (.goto 15, 3) := by decide +kernel
theorem b_156_12_1 : ov_ds ov_m156.2.1 12 [.iconst (-1)] = true := by decide +kernel
theorem d_156_13 : decode ov_m156.2.1 13 = .ok (.ireturn, 1) := by decide +kernel
theorem b_158_0_1 : ov_ds ov_m158.2.1 0 [.iload_n 3] = true := by decide +kernel
theorem d_158_1 : decode ov_m158.2.1 1 = .ok (.invokestatic 155, 3) := by decide +kernel
theorem d_158_4 : decode ov_m158.2.1 4 = .ok (.ifCond .eq 15, 3) := by decide +kernel
theorem b_158_19_1 : ov_ds ov_m158.2.1 19 [.iconst (-1)] = true := by decide +kernel
theorem d_158_20 : decode ov_m158.2.1 20 = .ok (.ireturn, 1) := by decide +kernel
theorem b_158_7_5 : ov_ds ov_m158.2.1 7 [.aload_n 0, .iload_n 1, .iconst 0, .iload_n 2, .iconst 0] = true := by decide +kernel
theorem d_158_12 : decode ov_m158.2.1 12 = .ok (.invokevirtual 211, 3) := by decide +kernel
theorem b_158_15_1 : ov_ds ov_m158.2.1 15 [.iconst (-1)] = true := by decide +kernel
theorem d_158_16 : decode ov_m158.2.1 16 = .ok (.if_icmp .ne 5, 3) := by decide +kernel
theorem b_158_21_1 : ov_ds ov_m158.2.1 21 [.aload_n 0] = true := by decide +kernel
theorem d_158_22 : decode ov_m158.2.1 22 = .ok (.getfield 50, 3) := by decide +kernel
theorem b_158_25_2 : ov_ds ov_m158.2.1 25 [.iload_n 2, .iload_n 3] = true := by decide +kernel
theorem d_158_27 : decode ov_m158.2.1 27 = .ok (.invokevirtual 251, 3) := by decide +kernel
theorem d_158_30 : decode ov_m158.2.1 30 = .ok (.ireturn, 1) := by decide +kernel
theorem b_164_0_1 : ov_ds ov_m164.2.1 0 [.iload_n 1] = true := by decide +kernel
theorem d_164_1 : decode ov_m164.2.1 1 = .ok (.invokestatic 155, 3) := by decide +kernel
theorem d_164_4 : decode ov_m164.2.1 4 = .ok (.ifCond .eq 30, 3) := by decide +kernel
theorem b_164_34_1 : ov_ds ov_m164.2.1 34 [.iconst (-1)] = true := by decide +kernel
theorem d_164_35 : decode ov_m164.2.1 35 = .ok (.ireturn, 1) := by decide +kernel
theorem b_164_7_1 : ov_ds ov_m164.2.1 7 [.iload_n 2] = true := by decide +kernel
theorem d_164_8 : decode ov_m164.2.1 8 = .ok (.ifCond .lt 26, 3) := by decide +kernel
theorem b_164_11_3 : ov_ds ov_m164.2.1 11 [.iload_n 2, .iconst 2, .aload_n 0] = true := by decide +kernel
theorem d_164_14 : decode ov_m164.2.1 14 = .ok (.getfield 88, 3) := by decide +kernel
theorem d_164_17 : decode ov_m164.2.1 17 = .ok (.getfield 254, 3) := by decide +kernel
theorem b_164_20_1 : ov_ds ov_m164.2.1 20 [.iadd] = true := by decide +kernel
theorem d_164_21 : decode ov_m164.2.1 21 = .ok (.if_icmp .ge 13, 3) := by decide +kernel
theorem b_164_24_1 : ov_ds ov_m164.2.1 24 [.aload_n 0] = true := by decide +kernel
theorem d_164_25 : decode ov_m164.2.1 25 = .ok (.getfield 88, 3) := by decide +kernel
theorem d_164_28 : decode ov_m164.2.1 28 = .ok (.getfield 254, 3) := by decide +kernel
theorem d_164_31 : decode ov_m164.2.1 31 = .ok (.ifCond .ne 5, 3) := by decide +kernel
theorem b_164_36_1 : ov_ds ov_m164.2.1 36 [.aload_n 0] = true := by decide +kernel
theorem d_164_37 : decode ov_m164.2.1 37 = .ok (.getfield 64, 3) := by decide +kernel
theorem b_164_40_1 : ov_ds ov_m164.2.1 40 [.aload_n 0] = true := by decide +kernel
theorem d_164_41 : decode ov_m164.2.1 41 = .ok (.getfield 78, 3) := by decide +kernel
theorem b_164_44_1 : ov_ds ov_m164.2.1 44 [.aload_n 0] = true := by decide +kernel
theorem d_164_45 : decode ov_m164.2.1 45 = .ok (.getfield 88, 3) := by decide +kernel
theorem b_164_48_1 : ov_ds ov_m164.2.1 48 [.iload_n 1] = true := by decide +kernel
theorem d_164_49 : decode ov_m164.2.1 49 = .ok (.invokevirtual 257, 3) := by decide +kernel
theorem d_164_52 : decode ov_m164.2.1 52 = .ok (.ifCond .ne 5, 3) := by decide +kernel
theorem b_164_57_1 : ov_ds ov_m164.2.1 57 [.iload_n 2] = true := by decide +kernel
theorem d_164_58 : decode ov_m164.2.1 58 = .ok (.ifCond .ne 11, 3) := by decide +kernel
theorem b_164_69_2 : ov_ds ov_m164.2.1 69 [.iload_n 2, .iconst 1] = true := by decide +kernel
theorem d_164_71 : decode ov_m164.2.1 71 = .ok (.if_icmp .ne 13, 3) := by decide +kernel
theorem b_164_84_1 : ov_ds ov_m164.2.1 84 [.aload_n 0] = true := by decide +kernel
theorem d_164_85 : decode ov_m164.2.1 85 = .ok (.getfield 64, 3) := by decide +kernel
theorem d_164_88 : decode ov_m164.2.1 88 = .ok (.getfield 267, 3) := by decide +kernel
theorem b_164_91_3 : ov_ds ov_m164.2.1 91 [.iload_n 2, .iconst 2, .isub] = true := by decide +kernel
theorem d_164_94 : decode ov_m164.2.1 94 = .ok (.iaload, 1) := by decide +kernel
theorem d_164_95 : decode ov_m164.2.1 95 = .ok (.ireturn, 1) := by decide +kernel
theorem b_164_74_1 : ov_ds ov_m164.2.1 74 [.aload_n 0] = true := by decide +kernel
theorem d_164_75 : decode ov_m164.2.1 75 = .ok (.getfield 64, 3) := by decide +kernel
theorem d_164_78 : decode ov_m164.2.1 78 = .ok (.getfield 264, 3) := by decide +kernel
theorem d_164_81 : decode ov_m164.2.1 81 = .ok (.goto 14, 3) := by decide +kernel
theorem b_164_61_1 : ov_ds ov_m164.2.1 61 [.aload_n 0] = true := by decide +kernel
theorem d_164_62 : decode ov_m164.2.1 62 = .ok (.getfield 64, 3) := by decide +kernel
theorem d_164_65 : decode ov_m164.2.1 65 = .ok (.getfield 261, 3) := by decide +kernel
theorem d_164_68 : decode ov_m164.2.1 68 = .ok (.ireturn, 1) := by decide +kernel
theorem b_164_55_1 : ov_ds ov_m164.2.1 55 [.iconst (-1)] = true := by decide +kernel
theorem d_164_56 : decode ov_m164.2.1 56 = .ok (.ireturn, 1) := by decide +kernel
theorem b_172_0_1 : ov_ds ov_m172.2.1 0 [.aload_n 0] = true := by decide +kernel
theorem d_172_1 : decode ov_m172.2.1 1 = .ok (.getfield 78, 3) := by decide +kernel
theorem b_172_4_2 : ov_ds ov_m172.2.1 4 [.iload_n 1, .iload_n 2] = true := by decide +kernel
theorem d_172_6 : decode ov_m172.2.1 6 = .ok (.invokevirtual 131, 3) := by decide +kernel
theorem b_172_9_3 : ov_ds ov_m172.2.1 9 [.istore 5, .iload 5, .iconst (-1)] = true := by decide +kernel
theorem d_172_14 : decode ov_m172.2.1 14 = .ok (.if_icmp .eq 29, 3) := by decide +kernel
theorem b_172_43_1 : ov_ds ov_m172.2.1 43 [.iconst 0] = true := by decide +kernel
theorem d_172_44 : decode ov_m172.2.1 44 = .ok (.ireturn, 1) := by decide +kernel
theorem b_172_17_1 : ov_ds ov_m172.2.1 17 [.aload_n 0] = true := by decide +kernel
theorem d_172_18 : decode ov_m172.2.1 18 = .ok (.getfield 78, 3) := by decide +kernel
theorem d_172_21 : decode ov_m172.2.1 21 = .ok (.getfield 139, 3) := by decide +kernel
theorem b_172_24_1 : ov_ds ov_m172.2.1 24 [.iload 5] = true := by decide +kernel
theorem d_172_26 : decode ov_m172.2.1 26 = .ok (.iaload, 1) := by decide +kernel
theorem b_172_27_1 : ov_ds ov_m172.2.1 27 [.iconst 2] = true := by decide +kernel
theorem d_172_28 : decode ov_m172.2.1 28 = .ok (.if_icmp .ne 15, 3) := by decide +kernel
theorem b_172_31_1 : ov_ds ov_m172.2.1 31 [.iload 4] = true := by decide +kernel
theorem d_172_33 : decode ov_m172.2.1 33 = .ok (.ifCond .lt 10, 3) := by decide +kernel
theorem b_172_36_2 : ov_ds ov_m172.2.1 36 [.iload 4, .bipush 59] = true := by decide +kernel
theorem d_172_40 : decode ov_m172.2.1 40 = .ok (.if_icmp .le 5, 3) := by decide +kernel
theorem b_172_45_1 : ov_ds ov_m172.2.1 45 [.aload_n 0] = true := by decide +kernel
theorem d_172_46 : decode ov_m172.2.1 46 = .ok (.getfield 28, 3) := by decide +kernel
theorem b_172_49_3 : ov_ds ov_m172.2.1 49 [.iload 5, .iload_n 3, .iload 4] = true := by decide +kernel
theorem d_172_54 : decode ov_m172.2.1 54 = .ok (.invokevirtual 270, 3) := by decide +kernel
theorem d_172_57 : decode ov_m172.2.1 57 = .ok (.ireturn, 1) := by decide +kernel
theorem b_174_0_1 : ov_ds ov_m174.2.1 0 [.aload_n 0] = true := by decide +kernel
theorem d_174_1 : decode ov_m174.2.1 1 = .ok (.getfield 78, 3) := by decide +kernel
theorem b_174_4_2 : ov_ds ov_m174.2.1 4 [.iload_n 1, .iload_n 2] = true := by decide +kernel
theorem d_174_6 : decode ov_m174.2.1 6 = .ok (.invokevirtual 131, 3) := by decide +kernel
theorem b_174_9_3 : ov_ds ov_m174.2.1 9 [.istore 4, .iload 4, .iconst (-1)] = true := by decide +kernel
theorem d_174_14 : decode ov_m174.2.1 14 = .ok (.if_icmp .eq 26, 3) := by decide +kernel
theorem d_174_40 : decode ov_m174.2.1 40 = .ok (.ldc2_w 274, 3) := by decide +kernel
theorem d_174_43 : decode ov_m174.2.1 43 = .ok (.lreturn, 1) := by decide +kernel
theorem b_174_17_1 : ov_ds ov_m174.2.1 17 [.aload_n 0] = true := by decide +kernel
theorem d_174_18 : decode ov_m174.2.1 18 = .ok (.getfield 78, 3) := by decide +kernel
theorem d_174_21 : decode ov_m174.2.1 21 = .ok (.getfield 139, 3) := by decide +kernel
theorem b_174_24_1 : ov_ds ov_m174.2.1 24 [.iload 4] = true := by decide +kernel
theorem d_174_26 : decode ov_m174.2.1 26 = .ok (.iaload, 1) := by decide +kernel
theorem b_174_27_1 : ov_ds ov_m174.2.1 27 [.iconst 2] = true := by decide +kernel
theorem d_174_28 : decode ov_m174.2.1 28 = .ok (.if_icmp .ne 12, 3) := by decide +kernel
theorem b_174_31_1 : ov_ds ov_m174.2.1 31 [.iload_n 3] = true := by decide +kernel
theorem d_174_32 : decode ov_m174.2.1 32 = .ok (.ifCond .lt 8, 3) := by decide +kernel
theorem b_174_35_2 : ov_ds ov_m174.2.1 35 [.iload_n 3, .iconst 1] = true := by decide +kernel
theorem d_174_37 : decode ov_m174.2.1 37 = .ok (.if_icmp .le 7, 3) := by decide +kernel
theorem b_174_44_1 : ov_ds ov_m174.2.1 44 [.aload_n 0] = true := by decide +kernel
theorem d_174_45 : decode ov_m174.2.1 45 = .ok (.getfield 28, 3) := by decide +kernel
theorem b_174_48_2 : ov_ds ov_m174.2.1 48 [.iload 4, .aload_n 0] = true := by decide +kernel
theorem d_174_51 : decode ov_m174.2.1 51 = .ok (.getfield 78, 3) := by decide +kernel
theorem d_174_54 : decode ov_m174.2.1 54 = .ok (.getfield 142, 3) := by decide +kernel
theorem b_174_57_1 : ov_ds ov_m174.2.1 57 [.iload 4] = true := by decide +kernel
theorem d_174_59 : decode ov_m174.2.1 59 = .ok (.iaload, 1) := by decide +kernel
theorem b_174_60_1 : ov_ds ov_m174.2.1 60 [.aload_n 0] = true := by decide +kernel
theorem d_174_61 : decode ov_m174.2.1 61 = .ok (.getfield 78, 3) := by decide +kernel
theorem d_174_64 : decode ov_m174.2.1 64 = .ok (.getfield 145, 3) := by decide +kernel
theorem b_174_67_1 : ov_ds ov_m174.2.1 67 [.iload 4] = true := by decide +kernel
theorem d_174_69 : decode ov_m174.2.1 69 = .ok (.iaload, 1) := by decide +kernel
theorem b_174_70_3 : ov_ds ov_m174.2.1 70 [.iconst 1, .iadd, .iload_n 3] = true := by decide +kernel
theorem d_174_73 : decode ov_m174.2.1 73 = .ok (.invokevirtual 276, 3) := by decide +kernel
theorem d_174_76 : decode ov_m174.2.1 76 = .ok (.lreturn, 1) := by decide +kernel
theorem b_176_0_1 : ov_ds ov_m176.2.1 0 [.aload_n 0] = true := by decide +kernel
theorem d_176_1 : decode ov_m176.2.1 1 = .ok (.getfield 78, 3) := by decide +kernel
theorem b_176_4_2 : ov_ds ov_m176.2.1 4 [.iload_n 1, .iload_n 2] = true := by decide +kernel
theorem d_176_6 : decode ov_m176.2.1 6 = .ok (.invokevirtual 131, 3) := by decide +kernel
theorem b_176_9_3 : ov_ds ov_m176.2.1 9 [.istore 6, .iload 6, .iconst (-1)] = true := by decide +kernel
theorem d_176_14 : decode ov_m176.2.1 14 = .ok (.if_icmp .eq 24, 3) := by decide +kernel
theorem b_176_38_1 : ov_ds ov_m176.2.1 38 [.iconst (-1)] = true := by decide +kernel
theorem d_176_39 : decode ov_m176.2.1 39 = .ok (.ireturn, 1) := by decide +kernel
theorem b_176_17_2 : ov_ds ov_m176.2.1 17 [.iload_n 3, .iconst 2] = true := by decide +kernel
theorem d_176_19 : decode ov_m176.2.1 19 = .ok (.if_icmp .lt 19, 3) := by decide +kernel
theorem b_176_22_2 : ov_ds ov_m176.2.1 22 [.iload_n 3, .iconst 4] = true := by decide +kernel
theorem d_176_24 : decode ov_m176.2.1 24 = .ok (.if_icmp .gt 14, 3) := by decide +kernel
theorem b_176_27_1 : ov_ds ov_m176.2.1 27 [.iload 5] = true := by decide +kernel
theorem d_176_29 : decode ov_m176.2.1 29 = .ok (.ifCond .lt 9, 3) := by decide +kernel
theorem b_176_32_2 : ov_ds ov_m176.2.1 32 [.iload 5, .iload_n 3] = true := by decide +kernel
theorem d_176_35 : decode ov_m176.2.1 35 = .ok (.if_icmp .lt 5, 3) := by decide +kernel
theorem b_176_40_1 : ov_ds ov_m176.2.1 40 [.aload_n 0] = true := by decide +kernel
theorem d_176_41 : decode ov_m176.2.1 41 = .ok (.getfield 78, 3) := by decide +kernel
theorem b_176_44_6 : ov_ds ov_m176.2.1 44 [.iload_n 1, .iload_n 2, .iload_n 3, .iadd, .iconst 1, .isub] = true := by decide +kernel
theorem d_176_50 : decode ov_m176.2.1 50 = .ok (.invokevirtual 131, 3) := by decide +kernel
theorem b_176_53_1 : ov_ds ov_m176.2.1 53 [.iconst (-1)] = true := by decide +kernel
theorem d_176_54 : decode ov_m176.2.1 54 = .ok (.if_icmp .eq 16, 3) := by decide +kernel
theorem b_176_70_1 : ov_ds ov_m176.2.1 70 [.iconst (-1)] = true := by decide +kernel
theorem d_176_71 : decode ov_m176.2.1 71 = .ok (.ireturn, 1) := by decide +kernel
theorem b_176_57_1 : ov_ds ov_m176.2.1 57 [.aload_n 0] = true := by decide +kernel
theorem d_176_58 : decode ov_m176.2.1 58 = .ok (.getfield 78, 3) := by decide +kernel
theorem b_176_61_2 : ov_ds ov_m176.2.1 61 [.iload 6, .iload_n 3] = true := by decide +kernel
theorem d_176_64 : decode ov_m176.2.1 64 = .ok (.invokevirtual 280, 3) := by decide +kernel
theorem d_176_67 : decode ov_m176.2.1 67 = .ok (.ifCond .ne 5, 3) := by decide +kernel
theorem b_176_72_1 : ov_ds ov_m176.2.1 72 [.aload_n 0] = true := by decide +kernel
theorem d_176_73 : decode ov_m176.2.1 73 = .ok (.getfield 71, 3) := by decide +kernel
theorem b_176_76_1 : ov_ds ov_m176.2.1 76 [.aload_n 0] = true := by decide +kernel
theorem d_176_77 : decode ov_m176.2.1 77 = .ok (.getfield 78, 3) := by decide +kernel
theorem b_176_80_3 : ov_ds ov_m176.2.1 80 [.iload 6, .iload_n 3, .iload 4] = true := by decide +kernel
theorem d_176_85 : decode ov_m176.2.1 85 = .ok (.invokevirtual 283, 3) := by decide +kernel
theorem b_176_88_1 : ov_ds ov_m176.2.1 88 [.iload 5] = true := by decide +kernel
theorem d_176_90 : decode ov_m176.2.1 90 = .ok (.ifCond .ne 13, 3) := by decide +kernel
theorem b_176_103_1 : ov_ds ov_m176.2.1 103 [.aload_n 0] = true := by decide +kernel
theorem d_176_104 : decode ov_m176.2.1 104 = .ok (.getfield 71, 3) := by decide +kernel
theorem d_176_107 : decode ov_m176.2.1 107 = .ok (.getfield 289, 3) := by decide +kernel
theorem b_176_110_1 : ov_ds ov_m176.2.1 110 [.iload 5] = true := by decide +kernel
theorem d_176_112 : decode ov_m176.2.1 112 = .ok (.iaload, 1) := by decide +kernel
theorem d_176_113 : decode ov_m176.2.1 113 = .ok (.ireturn, 1) := by decide +kernel
theorem b_176_93_1 : ov_ds ov_m176.2.1 93 [.aload_n 0] = true := by decide +kernel
theorem d_176_94 : decode ov_m176.2.1 94 = .ok (.getfield 71, 3) := by decide +kernel
theorem d_176_97 : decode ov_m176.2.1 97 = .ok (.getfield 286, 3) := by decide +kernel
theorem d_176_100 : decode ov_m176.2.1 100 = .ok (.goto 13, 3) := by decide +kernel
theorem b_184_0_6 : ov_ds ov_m184.2.1 0 [.iconst (-1), .istore_n 1, .iconst (-1), .istore_n 2, .iconst 0, .istore_n 3] = true := by decide +kernel
theorem b_184_6_2 : ov_ds ov_m184.2.1 6 [.iload_n 3, .aload_n 0] = true := by decide +kernel
theorem d_184_8 : decode ov_m184.2.1 8 = .ok (.getfield 78, 3) := by decide +kernel
theorem d_184_11 : decode ov_m184.2.1 11 = .ok (.getfield 292, 3) := by decide +kernel
theorem d_184_14 : decode ov_m184.2.1 14 = .ok (.if_icmp .ge 43, 3) := by decide +kernel
theorem b_184_57_1 : ov_ds ov_m184.2.1 57 [.iload_n 2] = true := by decide +kernel
theorem d_184_58 : decode ov_m184.2.1 58 = .ok (.ireturn, 1) := by decide +kernel
theorem b_184_17_7 : ov_ds ov_m184.2.1 17 [.aload_n 0, .iconst 4, .iload_n 3, .iadd, .iconst 0, .iconst 0, .iconst 0] = true := by decide +kernel
theorem d_184_24 : decode ov_m184.2.1 24 = .ok (.invokevirtual 211, 3) := by decide +kernel
theorem b_184_27_3 : ov_ds ov_m184.2.1 27 [.istore 4, .iload 4, .iconst (-1)] = true := by decide +kernel
theorem d_184_32 : decode ov_m184.2.1 32 = .ok (.if_icmp .eq 19, 3) := by decide +kernel
theorem b_184_51_1 : ov_ds ov_m184.2.1 51 [.iinc 3 1] = true := by decide +kernel
theorem d_184_54 : decode ov_m184.2.1 54 = .ok (.goto (-48), 3) := by decide +kernel
theorem b_184_35_2 : ov_ds ov_m184.2.1 35 [.iload_n 1, .iconst (-1)] = true := by decide +kernel
theorem d_184_37 : decode ov_m184.2.1 37 = .ok (.if_icmp .eq 9, 3) := by decide +kernel
theorem b_184_46_5 : ov_ds ov_m184.2.1 46 [.iload 4, .istore_n 1, .iload_n 3, .istore_n 2, .iinc 3 1] = true := by decide +kernel
theorem b_184_40_2 : ov_ds ov_m184.2.1 40 [.iload 4, .iload_n 1] = true := by decide +kernel
theorem d_184_43 : decode ov_m184.2.1 43 = .ok (.if_icmp .ge 8, 3) := by decide +kernel
theorem b_185_0_1 : ov_ds ov_m185.2.1 0 [.aload_n 0] = true := by decide +kernel
theorem d_185_1 : decode ov_m185.2.1 1 = .ok (.getfield 78, 3) := by decide +kernel
theorem b_185_4_2 : ov_ds ov_m185.2.1 4 [.iload_n 1, .iload_n 2] = true := by decide +kernel
theorem d_185_6 : decode ov_m185.2.1 6 = .ok (.invokevirtual 131, 3) := by decide +kernel
theorem b_185_9_3 : ov_ds ov_m185.2.1 9 [.istore 4, .iload 4, .iconst (-1)] = true := by decide +kernel
theorem d_185_14 : decode ov_m185.2.1 14 = .ok (.if_icmp .eq 14, 3) := by decide +kernel
theorem b_185_28_1 : ov_ds ov_m185.2.1 28 [.iconst 0] = true := by decide +kernel
theorem d_185_29 : decode ov_m185.2.1 29 = .ok (.ireturn, 1) := by decide +kernel
theorem b_185_17_1 : ov_ds ov_m185.2.1 17 [.iload_n 3] = true := by decide +kernel
theorem d_185_18 : decode ov_m185.2.1 18 = .ok (.ifCond .lt 10, 3) := by decide +kernel
theorem b_185_21_2 : ov_ds ov_m185.2.1 21 [.iload_n 3, .sipush 9999] = true := by decide +kernel
theorem d_185_25 : decode ov_m185.2.1 25 = .ok (.if_icmp .le 5, 3) := by decide +kernel
theorem b_185_30_1 : ov_ds ov_m185.2.1 30 [.aload_n 0] = true := by decide +kernel
theorem d_185_31 : decode ov_m185.2.1 31 = .ok (.getfield 28, 3) := by decide +kernel
theorem b_185_34_2 : ov_ds ov_m185.2.1 34 [.iload 4, .iload_n 3] = true := by decide +kernel
theorem d_185_37 : decode ov_m185.2.1 37 = .ok (.invokevirtual 295, 3) := by decide +kernel
theorem d_185_40 : decode ov_m185.2.1 40 = .ok (.ireturn, 1) := by decide +kernel
theorem b_187_0_1 : ov_ds ov_m187.2.1 0 [.iload_n 1] = true := by decide +kernel
theorem d_187_1 : decode ov_m187.2.1 1 = .ok (.ifCond .lt 8, 3) := by decide +kernel
theorem d_187_9 : decode ov_m187.2.1 9 = .ok (.ldc2_w 274, 3) := by decide +kernel
theorem d_187_12 : decode ov_m187.2.1 12 = .ok (.lreturn, 1) := by decide +kernel
theorem b_187_4_2 : ov_ds ov_m187.2.1 4 [.iload_n 1, .iconst 3] = true := by decide +kernel
theorem d_187_6 : decode ov_m187.2.1 6 = .ok (.if_icmp .le 7, 3) := by decide +kernel
theorem b_187_13_1 : ov_ds ov_m187.2.1 13 [.aload_n 0] = true := by decide +kernel
theorem d_187_14 : decode ov_m187.2.1 14 = .ok (.getfield 57, 3) := by decide +kernel
theorem b_187_17_1 : ov_ds ov_m187.2.1 17 [.aload_n 0] = true := by decide +kernel
theorem d_187_18 : decode ov_m187.2.1 18 = .ok (.getfield 78, 3) := by decide +kernel
theorem b_187_21_1 : ov_ds ov_m187.2.1 21 [.aload_n 0] = true := by decide +kernel
theorem d_187_22 : decode ov_m187.2.1 22 = .ok (.getfield 28, 3) := by decide +kernel
theorem d_187_25 : decode ov_m187.2.1 25 = .ok (.invokevirtual 298, 3) := by decide +kernel
theorem b_187_28_1 : ov_ds ov_m187.2.1 28 [.iload_n 1] = true := by decide +kernel
theorem d_187_29 : decode ov_m187.2.1 29 = .ok (.ifCond .ne 12, 3) := by decide +kernel
theorem b_187_41_1 : ov_ds ov_m187.2.1 41 [.aload_n 0] = true := by decide +kernel
theorem d_187_42 : decode ov_m187.2.1 42 = .ok (.getfield 57, 3) := by decide +kernel
theorem d_187_45 : decode ov_m187.2.1 45 = .ok (.getfield 302, 3) := by decide +kernel
theorem d_187_48 : decode ov_m187.2.1 48 = .ok (.ifCond .ne 7, 3) := by decide +kernel
theorem b_187_55_2 : ov_ds ov_m187.2.1 55 [.iload_n 1, .iconst 1] = true := by decide +kernel
theorem d_187_57 : decode ov_m187.2.1 57 = .ok (.if_icmp .ne 11, 3) := by decide +kernel
theorem b_187_68_2 : ov_ds ov_m187.2.1 68 [.iload_n 1, .iconst 2] = true := by decide +kernel
theorem d_187_70 : decode ov_m187.2.1 70 = .ok (.if_icmp .ne 16, 3) := by decide +kernel
theorem b_187_86_1 : ov_ds ov_m187.2.1 86 [.aload_n 0] = true := by decide +kernel
theorem d_187_87 : decode ov_m187.2.1 87 = .ok (.getfield 57, 3) := by decide +kernel
theorem b_187_90_2 : ov_ds ov_m187.2.1 90 [.bipush 8, .bipush 9] = true := by decide +kernel
theorem d_187_94 : decode ov_m187.2.1 94 = .ok (.invokevirtual 308, 3) := by decide +kernel
theorem d_187_97 : decode ov_m187.2.1 97 = .ok (.lreturn, 1) := by decide +kernel
theorem b_187_73_1 : ov_ds ov_m187.2.1 73 [.aload_n 0] = true := by decide +kernel
theorem d_187_74 : decode ov_m187.2.1 74 = .ok (.getfield 57, 3) := by decide +kernel
theorem b_187_77_2 : ov_ds ov_m187.2.1 77 [.iconst 0, .bipush 8] = true := by decide +kernel
theorem d_187_80 : decode ov_m187.2.1 80 = .ok (.invokevirtual 308, 3) := by decide +kernel
theorem d_187_83 : decode ov_m187.2.1 83 = .ok (.goto 14, 3) := by decide +kernel
theorem b_187_60_1 : ov_ds ov_m187.2.1 60 [.aload_n 0] = true := by decide +kernel
theorem d_187_61 : decode ov_m187.2.1 61 = .ok (.getfield 57, 3) := by decide +kernel
theorem d_187_64 : decode ov_m187.2.1 64 = .ok (.getfield 305, 3) := by decide +kernel
theorem d_187_67 : decode ov_m187.2.1 67 = .ok (.lreturn, 1) := by decide +kernel
theorem d_187_51 : decode ov_m187.2.1 51 = .ok (.ldc2_w 274, 3) := by decide +kernel
theorem d_187_54 : decode ov_m187.2.1 54 = .ok (.lreturn, 1) := by decide +kernel
theorem b_187_32_1 : ov_ds ov_m187.2.1 32 [.aload_n 0] = true := by decide +kernel
theorem d_187_33 : decode ov_m187.2.1 33 = .ok (.getfield 57, 3) := by decide +kernel
theorem d_187_36 : decode ov_m187.2.1 36 = .ok (.getfield 302, 3) := by decide +kernel
theorem b_187_39_1 : ov_ds ov_m187.2.1 39 [.i2l] = true := by decide +kernel
theorem d_187_40 : decode ov_m187.2.1 40 = .ok (.lreturn, 1) := by decide +kernel
theorem b_192_0_2 : ov_ds ov_m192.2.1 0 [.iload_n 2, .iconst 1] = true := by decide +kernel
theorem d_192_2 : decode ov_m192.2.1 2 = .ok (.if_icmp .lt 20, 3) := by decide +kernel
theorem b_192_22_1 : ov_ds ov_m192.2.1 22 [.iconst (-1)] = true := by decide +kernel
theorem d_192_23 : decode ov_m192.2.1 23 = .ok (.ireturn, 1) := by decide +kernel
theorem b_192_5_2 : ov_ds ov_m192.2.1 5 [.iload_n 2, .bipush 30] = true := by decide +kernel
theorem d_192_8 : decode ov_m192.2.1 8 = .ok (.if_icmp .gt 14, 3) := by decide +kernel
theorem b_192_11_1 : ov_ds ov_m192.2.1 11 [.iload 4] = true := by decide +kernel
theorem d_192_13 : decode ov_m192.2.1 13 = .ok (.ifCond .lt 9, 3) := by decide +kernel
theorem b_192_16_2 : ov_ds ov_m192.2.1 16 [.iload 4, .iconst 1] = true := by decide +kernel
theorem d_192_19 : decode ov_m192.2.1 19 = .ok (.if_icmp .le 5, 3) := by decide +kernel
theorem b_192_24_5 : ov_ds ov_m192.2.1 24 [.aload_n 0, .iload_n 3, .iconst 0, .iconst 0, .iconst 0] = true := by decide +kernel
theorem d_192_29 : decode ov_m192.2.1 29 = .ok (.invokevirtual 211, 3) := by decide +kernel
theorem b_192_32_1 : ov_ds ov_m192.2.1 32 [.iconst (-1)] = true := by decide +kernel
theorem d_192_33 : decode ov_m192.2.1 33 = .ok (.if_icmp .ne 5, 3) := by decide +kernel
theorem b_192_38_1 : ov_ds ov_m192.2.1 38 [.aload_n 0] = true := by decide +kernel
theorem d_192_39 : decode ov_m192.2.1 39 = .ok (.getfield 50, 3) := by decide +kernel
theorem b_192_42_2 : ov_ds ov_m192.2.1 42 [.iload_n 1, .iload_n 2] = true := by decide +kernel
theorem d_192_44 : decode ov_m192.2.1 44 = .ok (.invokevirtual 312, 3) := by decide +kernel
theorem b_192_47_1 : ov_ds ov_m192.2.1 47 [.iload 4] = true := by decide +kernel
theorem d_192_49 : decode ov_m192.2.1 49 = .ok (.ifCond .ne 13, 3) := by decide +kernel
theorem b_192_62_1 : ov_ds ov_m192.2.1 62 [.aload_n 0] = true := by decide +kernel
theorem d_192_63 : decode ov_m192.2.1 63 = .ok (.getfield 50, 3) := by decide +kernel
theorem d_192_66 : decode ov_m192.2.1 66 = .ok (.getfield 319, 3) := by decide +kernel
theorem d_192_69 : decode ov_m192.2.1 69 = .ok (.ireturn, 1) := by decide +kernel
theorem b_192_52_1 : ov_ds ov_m192.2.1 52 [.aload_n 0] = true := by decide +kernel
theorem d_192_53 : decode ov_m192.2.1 53 = .ok (.getfield 50, 3) := by decide +kernel
theorem d_192_56 : decode ov_m192.2.1 56 = .ok (.getfield 316, 3) := by decide +kernel
theorem d_192_59 : decode ov_m192.2.1 59 = .ok (.goto 10, 3) := by decide +kernel
theorem b_192_36_1 : ov_ds ov_m192.2.1 36 [.iconst (-1)] = true := by decide +kernel
theorem d_192_37 : decode ov_m192.2.1 37 = .ok (.ireturn, 1) := by decide +kernel
theorem b_196_0_1 : ov_ds ov_m196.2.1 0 [.iload_n 1] = true := by decide +kernel
theorem d_196_1 : decode ov_m196.2.1 1 = .ok (.ifCond .lt 25, 3) := by decide +kernel
theorem b_196_26_1 : ov_ds ov_m196.2.1 26 [.iconst 0] = true := by decide +kernel
theorem d_196_27 : decode ov_m196.2.1 27 = .ok (.ireturn, 1) := by decide +kernel
theorem b_196_4_2 : ov_ds ov_m196.2.1 4 [.iload_n 1, .aload_n 0] = true := by decide +kernel
theorem d_196_6 : decode ov_m196.2.1 6 = .ok (.getfield 39, 3) := by decide +kernel
theorem d_196_9 : decode ov_m196.2.1 9 = .ok (.arraylength, 1) := by decide +kernel
theorem d_196_10 : decode ov_m196.2.1 10 = .ok (.if_icmp .ge 16, 3) := by decide +kernel
theorem b_196_13_1 : ov_ds ov_m196.2.1 13 [.iload_n 2] = true := by decide +kernel
theorem d_196_14 : decode ov_m196.2.1 14 = .ok (.ifCond .eq 14, 3) := by decide +kernel
theorem b_196_28_1 : ov_ds ov_m196.2.1 28 [.iload_n 2] = true := by decide +kernel
theorem d_196_29 : decode ov_m196.2.1 29 = .ok (.ifCond .eq 26, 3) := by decide +kernel
theorem b_196_55_1 : ov_ds ov_m196.2.1 55 [.aload_n 0] = true := by decide +kernel
theorem d_196_56 : decode ov_m196.2.1 56 = .ok (.getfield 39, 3) := by decide +kernel
theorem b_196_59_1 : ov_ds ov_m196.2.1 59 [.iload_n 1] = true := by decide +kernel
theorem d_196_60 : decode ov_m196.2.1 60 = .ok (.aaload, 1) := by decide +kernel
theorem b_196_61_1 : ov_ds ov_m196.2.1 61 [.aload_n 0] = true := by decide +kernel
theorem d_196_62 : decode ov_m196.2.1 62 = .ok (.getfield 28, 3) := by decide +kernel
theorem d_196_65 : decode ov_m196.2.1 65 = .ok (.invokevirtual 322, 3) := by decide +kernel
theorem b_196_68_1 : ov_ds ov_m196.2.1 68 [.aload_n 0] = true := by decide +kernel
theorem d_196_69 : decode ov_m196.2.1 69 = .ok (.getfield 43, 3) := by decide +kernel
theorem b_196_72_2 : ov_ds ov_m196.2.1 72 [.iload_n 1, .iconst 1] = true := by decide +kernel
theorem d_196_74 : decode ov_m196.2.1 74 = .ok (.bastore, 1) := by decide +kernel
theorem b_196_75_1 : ov_ds ov_m196.2.1 75 [.iconst 1] = true := by decide +kernel
theorem d_196_76 : decode ov_m196.2.1 76 = .ok (.ireturn, 1) := by decide +kernel
theorem b_196_32_1 : ov_ds ov_m196.2.1 32 [.aload_n 0] = true := by decide +kernel
theorem d_196_33 : decode ov_m196.2.1 33 = .ok (.getfield 28, 3) := by decide +kernel
theorem b_196_36_1 : ov_ds ov_m196.2.1 36 [.aload_n 0] = true := by decide +kernel
theorem d_196_37 : decode ov_m196.2.1 37 = .ok (.getfield 39, 3) := by decide +kernel
theorem b_196_40_1 : ov_ds ov_m196.2.1 40 [.iload_n 1] = true := by decide +kernel
theorem d_196_41 : decode ov_m196.2.1 41 = .ok (.aaload, 1) := by decide +kernel
theorem d_196_42 : decode ov_m196.2.1 42 = .ok (.invokevirtual 322, 3) := by decide +kernel
theorem b_196_45_1 : ov_ds ov_m196.2.1 45 [.aload_n 0] = true := by decide +kernel
theorem d_196_46 : decode ov_m196.2.1 46 = .ok (.getfield 35, 3) := by decide +kernel
theorem d_196_49 : decode ov_m196.2.1 49 = .ok (.invokevirtual 115, 3) := by decide +kernel
theorem d_196_52 : decode ov_m196.2.1 52 = .ok (.goto 23, 3) := by decide +kernel
theorem b_196_17_1 : ov_ds ov_m196.2.1 17 [.aload_n 0] = true := by decide +kernel
theorem d_196_18 : decode ov_m196.2.1 18 = .ok (.getfield 43, 3) := by decide +kernel
theorem b_196_21_1 : ov_ds ov_m196.2.1 21 [.iload_n 1] = true := by decide +kernel
theorem d_196_22 : decode ov_m196.2.1 22 = .ok (.baload, 1) := by decide +kernel
theorem d_196_23 : decode ov_m196.2.1 23 = .ok (.ifCond .ne 5, 3) := by decide +kernel
theorem b_198_0_1 : ov_ds ov_m198.2.1 0 [.iload_n 1] = true := by decide +kernel
theorem d_198_1 : decode ov_m198.2.1 1 = .ok (.tableswitch 195 0 14 #[75, 83, 91, 99, 107, 115, 126, 137, 145, 150, 155, 163, 171, 179, 187], 75) := by decide +kernel
theorem b_198_76_1 : ov_ds ov_m198.2.1 76 [.aload_n 0] = true := by decide +kernel
theorem d_198_77 : decode ov_m198.2.1 77 = .ok (.getfield 78, 3) := by decide +kernel
theorem d_198_80 : decode ov_m198.2.1 80 = .ok (.getfield 325, 3) := by decide +kernel
theorem d_198_83 : decode ov_m198.2.1 83 = .ok (.ireturn, 1) := by decide +kernel
theorem b_198_84_1 : ov_ds ov_m198.2.1 84 [.aload_n 0] = true := by decide +kernel
theorem d_198_85 : decode ov_m198.2.1 85 = .ok (.getfield 78, 3) := by decide +kernel
theorem d_198_88 : decode ov_m198.2.1 88 = .ok (.getfield 328, 3) := by decide +kernel
theorem d_198_91 : decode ov_m198.2.1 91 = .ok (.ireturn, 1) := by decide +kernel
theorem b_198_92_1 : ov_ds ov_m198.2.1 92 [.aload_n 0] = true := by decide +kernel
theorem d_198_93 : decode ov_m198.2.1 93 = .ok (.getfield 78, 3) := by decide +kernel
theorem d_198_96 : decode ov_m198.2.1 96 = .ok (.getfield 331, 3) := by decide +kernel
theorem d_198_99 : decode ov_m198.2.1 99 = .ok (.ireturn, 1) := by decide +kernel
theorem b_198_100_1 : ov_ds ov_m198.2.1 100 [.aload_n 0] = true := by decide +kernel
theorem d_198_101 : decode ov_m198.2.1 101 = .ok (.getfield 78, 3) := by decide +kernel
theorem d_198_104 : decode ov_m198.2.1 104 = .ok (.getfield 292, 3) := by decide +kernel
theorem d_198_107 : decode ov_m198.2.1 107 = .ok (.ireturn, 1) := by decide +kernel
theorem b_198_108_1 : ov_ds ov_m198.2.1 108 [.aload_n 0] = true := by decide +kernel
theorem d_198_109 : decode ov_m198.2.1 109 = .ok (.getfield 88, 3) := by decide +kernel
theorem d_198_112 : decode ov_m198.2.1 112 = .ok (.getfield 254, 3) := by decide +kernel
theorem d_198_115 : decode ov_m198.2.1 115 = .ok (.ireturn, 1) := by decide +kernel
theorem b_198_116_1 : ov_ds ov_m198.2.1 116 [.aload_n 0] = true := by decide +kernel
theorem d_198_117 : decode ov_m198.2.1 117 = .ok (.getfield 28, 3) := by decide +kernel
theorem d_198_120 : decode ov_m198.2.1 120 = .ok (.getfield 166, 3) := by decide +kernel
theorem b_198_123_1 : ov_ds ov_m198.2.1 123 [.bipush 6] = true := by decide +kernel
theorem d_198_125 : decode ov_m198.2.1 125 = .ok (.irem, 1) := by decide +kernel
theorem d_198_126 : decode ov_m198.2.1 126 = .ok (.ireturn, 1) := by decide +kernel
theorem b_198_127_1 : ov_ds ov_m198.2.1 127 [.aload_n 0] = true := by decide +kernel
theorem d_198_128 : decode ov_m198.2.1 128 = .ok (.getfield 28, 3) := by decide +kernel
theorem d_198_131 : decode ov_m198.2.1 131 = .ok (.getfield 166, 3) := by decide +kernel
theorem b_198_134_1 : ov_ds ov_m198.2.1 134 [.bipush 6] = true := by decide +kernel
theorem d_198_136 : decode ov_m198.2.1 136 = .ok (.idiv, 1) := by decide +kernel
theorem d_198_137 : decode ov_m198.2.1 137 = .ok (.ireturn, 1) := by decide +kernel
theorem b_198_138_1 : ov_ds ov_m198.2.1 138 [.aload_n 0] = true := by decide +kernel
theorem d_198_139 : decode ov_m198.2.1 139 = .ok (.getfield 28, 3) := by decide +kernel
theorem d_198_142 : decode ov_m198.2.1 142 = .ok (.getfield 179, 3) := by decide +kernel
theorem d_198_145 : decode ov_m198.2.1 145 = .ok (.ireturn, 1) := by decide +kernel
theorem b_198_146_1 : ov_ds ov_m198.2.1 146 [.aload_n 0] = true := by decide +kernel
theorem d_198_147 : decode ov_m198.2.1 147 = .ok (.invokevirtual 168, 3) := by decide +kernel
theorem d_198_150 : decode ov_m198.2.1 150 = .ok (.ireturn, 1) := by decide +kernel
theorem b_198_151_1 : ov_ds ov_m198.2.1 151 [.aload_n 0] = true := by decide +kernel
theorem d_198_152 : decode ov_m198.2.1 152 = .ok (.invokevirtual 334, 3) := by decide +kernel
theorem d_198_155 : decode ov_m198.2.1 155 = .ok (.ireturn, 1) := by decide +kernel
theorem b_198_156_1 : ov_ds ov_m198.2.1 156 [.aload_n 0] = true := by decide +kernel
theorem d_198_157 : decode ov_m198.2.1 157 = .ok (.getfield 28, 3) := by decide +kernel
theorem d_198_160 : decode ov_m198.2.1 160 = .ok (.getfield 337, 3) := by decide +kernel
theorem d_198_163 : decode ov_m198.2.1 163 = .ok (.ireturn, 1) := by decide +kernel
theorem b_198_164_1 : ov_ds ov_m198.2.1 164 [.aload_n 0] = true := by decide +kernel
theorem d_198_165 : decode ov_m198.2.1 165 = .ok (.getfield 28, 3) := by decide +kernel
theorem d_198_168 : decode ov_m198.2.1 168 = .ok (.getfield 340, 3) := by decide +kernel
theorem d_198_171 : decode ov_m198.2.1 171 = .ok (.ireturn, 1) := by decide +kernel
theorem b_198_172_1 : ov_ds ov_m198.2.1 172 [.aload_n 0] = true := by decide +kernel
theorem d_198_173 : decode ov_m198.2.1 173 = .ok (.getfield 78, 3) := by decide +kernel
theorem d_198_176 : decode ov_m198.2.1 176 = .ok (.getfield 343, 3) := by decide +kernel
theorem d_198_179 : decode ov_m198.2.1 179 = .ok (.ireturn, 1) := by decide +kernel
theorem b_198_180_1 : ov_ds ov_m198.2.1 180 [.aload_n 0] = true := by decide +kernel
theorem d_198_181 : decode ov_m198.2.1 181 = .ok (.getfield 35, 3) := by decide +kernel
theorem d_198_184 : decode ov_m198.2.1 184 = .ok (.getfield 346, 3) := by decide +kernel
theorem d_198_187 : decode ov_m198.2.1 187 = .ok (.ireturn, 1) := by decide +kernel
theorem b_198_188_1 : ov_ds ov_m198.2.1 188 [.aload_n 0] = true := by decide +kernel
theorem d_198_189 : decode ov_m198.2.1 189 = .ok (.getfield 12, 3) := by decide +kernel
theorem d_198_192 : decode ov_m198.2.1 192 = .ok (.getfield 105, 3) := by decide +kernel
theorem d_198_195 : decode ov_m198.2.1 195 = .ok (.ireturn, 1) := by decide +kernel
theorem b_198_196_1 : ov_ds ov_m198.2.1 196 [.iconst (-1)] = true := by decide +kernel
theorem d_198_197 : decode ov_m198.2.1 197 = .ok (.ireturn, 1) := by decide +kernel

theorem b_25_0_2 : ov_ds ov_m25.2.1 0 [.aload_n 0, .iconst 0] = true := by decide +kernel
theorem d_25_2 : decode ov_m25.2.1 2 = .ok (.putfield 21, 3) := by decide +kernel
theorem b_25_5_1 : ov_ds ov_m25.2.1 5 [.aload_n 0] = true := by decide +kernel
theorem d_25_6 : decode ov_m25.2.1 6 = .ok (.invokevirtual 24, 3) := by decide +kernel
theorem d_25_9 : decode ov_m25.2.1 9 = .ok (.return_, 1) := by decide +kernel
theorem b_52_0_4 : ov_ds ov_m52.2.1 0 [.aload_n 0, .iload_n 1, .bipush 16, .aload_n 0] = true := by decide +kernel
theorem d_52_5 : decode ov_m52.2.1 5 = .ok (.getfield 9, 3) := by decide +kernel
theorem d_52_8 : decode ov_m52.2.1 8 = .ok (.getfield 263, 3) := by decide +kernel
theorem b_52_11_2 : ov_ds ov_m52.2.1 11 [.imul, .iadd] = true := by decide +kernel
theorem d_52_13 : decode ov_m52.2.1 13 = .ok (.putfield 24, 3) := by decide +kernel
theorem b_52_16_1 : ov_ds ov_m52.2.1 16 [.iconst 0] = true := by decide +kernel
theorem d_52_17 : decode ov_m52.2.1 17 = .ok (.ireturn, 1) := by decide +kernel
theorem b_54_0_1 : ov_ds ov_m54.2.1 0 [.aload_n 0] = true := by decide +kernel
theorem d_54_1 : decode ov_m54.2.1 1 = .ok (.getfield 9, 3) := by decide +kernel
theorem d_54_4 : decode ov_m54.2.1 4 = .ok (.getfield 37, 3) := by decide +kernel
theorem b_54_7_1 : ov_ds ov_m54.2.1 7 [.iconst 3] = true := by decide +kernel
theorem d_54_8 : decode ov_m54.2.1 8 = .ok (.if_icmp .eq 9, 3) := by decide +kernel
theorem b_54_17_1 : ov_ds ov_m54.2.1 17 [.aload_n 0] = true := by decide +kernel
theorem d_54_18 : decode ov_m54.2.1 18 = .ok (.getfield 9, 3) := by decide +kernel
theorem d_54_21 : decode ov_m54.2.1 21 = .ok (.getfield 146, 3) := by decide +kernel
theorem b_54_24_1 : ov_ds ov_m54.2.1 24 [.iload_n 1] = true := by decide +kernel
theorem d_54_25 : decode ov_m54.2.1 25 = .ok (.if_icmp .lt 14, 3) := by decide +kernel
theorem b_54_39_2 : ov_ds ov_m54.2.1 39 [.aload_n 0, .iconst 4] = true := by decide +kernel
theorem d_54_41 : decode ov_m54.2.1 41 = .ok (.invokevirtual 58, 3) := by decide +kernel
theorem d_54_44 : decode ov_m54.2.1 44 = .ok (.ifCond .eq 7, 3) := by decide +kernel
theorem b_54_51_1 : ov_ds ov_m54.2.1 51 [.iconst 0] = true := by decide +kernel
theorem d_54_52 : decode ov_m54.2.1 52 = .ok (.ireturn, 1) := by decide +kernel
theorem b_54_47_1 : ov_ds ov_m54.2.1 47 [.iconst 1] = true := by decide +kernel
theorem d_54_48 : decode ov_m54.2.1 48 = .ok (.goto 4, 3) := by decide +kernel
theorem b_54_28_1 : ov_ds ov_m54.2.1 28 [.aload_n 0] = true := by decide +kernel
theorem d_54_29 : decode ov_m54.2.1 29 = .ok (.getfield 9, 3) := by decide +kernel
theorem d_54_32 : decode ov_m54.2.1 32 = .ok (.getfield 146, 3) := by decide +kernel
theorem b_54_35_1 : ov_ds ov_m54.2.1 35 [.iload_n 2] = true := by decide +kernel
theorem d_54_36 : decode ov_m54.2.1 36 = .ok (.if_icmp .le 11, 3) := by decide +kernel
theorem b_54_11_2 : ov_ds ov_m54.2.1 11 [.aload_n 0, .iconst 1] = true := by decide +kernel
theorem d_54_13 : decode ov_m54.2.1 13 = .ok (.invokevirtual 58, 3) := by decide +kernel
theorem d_54_16 : decode ov_m54.2.1 16 = .ok (.ireturn, 1) := by decide +kernel
theorem b_53_0_3 : ov_ds ov_m53.2.1 0 [.aload_n 0, .iload_n 1, .iload_n 2] = true := by decide +kernel
theorem d_53_3 : decode ov_m53.2.1 3 = .ok (.invokevirtual 143, 3) := by decide +kernel
theorem d_53_6 : decode ov_m53.2.1 6 = .ok (.ifCond .ne 5, 3) := by decide +kernel
theorem b_53_11_2 : ov_ds ov_m53.2.1 11 [.aload_n 0, .aload_n 0] = true := by decide +kernel
theorem d_53_13 : decode ov_m53.2.1 13 = .ok (.getfield 9, 3) := by decide +kernel
theorem d_53_16 : decode ov_m53.2.1 16 = .ok (.getfield 146, 3) := by decide +kernel
theorem d_53_19 : decode ov_m53.2.1 19 = .ok (.putfield 81, 3) := by decide +kernel
theorem b_53_22_1 : ov_ds ov_m53.2.1 22 [.aload_n 0] = true := by decide +kernel
theorem d_53_23 : decode ov_m53.2.1 23 = .ok (.getfield 9, 3) := by decide +kernel
theorem d_53_26 : decode ov_m53.2.1 26 = .ok (.invokevirtual 75, 3) := by decide +kernel
theorem b_53_29_1 : ov_ds ov_m53.2.1 29 [.iconst 1] = true := by decide +kernel
theorem d_53_30 : decode ov_m53.2.1 30 = .ok (.ireturn, 1) := by decide +kernel
theorem b_53_9_1 : ov_ds ov_m53.2.1 9 [.iconst 0] = true := by decide +kernel
theorem d_53_10 : decode ov_m53.2.1 10 = .ok (.ireturn, 1) := by decide +kernel
theorem b_55_0_1 : ov_ds ov_m55.2.1 0 [.aload_n 0] = true := by decide +kernel
theorem d_55_1 : decode ov_m55.2.1 1 = .ok (.getfield 9, 3) := by decide +kernel
theorem b_55_4_1 : ov_ds ov_m55.2.1 4 [.iload_n 1] = true := by decide +kernel
theorem d_55_5 : decode ov_m55.2.1 5 = .ok (.invokevirtual 231, 3) := by decide +kernel
theorem d_55_8 : decode ov_m55.2.1 8 = .ok (.ifCond .ne 9, 3) := by decide +kernel
theorem b_55_17_1 : ov_ds ov_m55.2.1 17 [.aload_n 0] = true := by decide +kernel
theorem d_55_18 : decode ov_m55.2.1 18 = .ok (.getfield 9, 3) := by decide +kernel
theorem d_55_21 : decode ov_m55.2.1 21 = .ok (.invokevirtual 75, 3) := by decide +kernel
theorem b_55_24_1 : ov_ds ov_m55.2.1 24 [.iconst 1] = true := by decide +kernel
theorem d_55_25 : decode ov_m55.2.1 25 = .ok (.ireturn, 1) := by decide +kernel
theorem b_55_11_2 : ov_ds ov_m55.2.1 11 [.aload_n 0, .iconst 1] = true := by decide +kernel
theorem d_55_13 : decode ov_m55.2.1 13 = .ok (.invokevirtual 58, 3) := by decide +kernel
theorem d_55_16 : decode ov_m55.2.1 16 = .ok (.ireturn, 1) := by decide +kernel
theorem b_50_0_1 : ov_ds ov_m50.2.1 0 [.aload_n 0] = true := by decide +kernel
theorem d_50_1 : decode ov_m50.2.1 1 = .ok (.getfield 9, 3) := by decide +kernel
theorem b_50_4_1 : ov_ds ov_m50.2.1 4 [.lload_n 1] = true := by decide +kernel
theorem d_50_5 : decode ov_m50.2.1 5 = .ok (.invokevirtual 110, 3) := by decide +kernel
theorem d_50_8 : decode ov_m50.2.1 8 = .ok (.ifCond .ne 9, 3) := by decide +kernel
theorem b_50_17_1 : ov_ds ov_m50.2.1 17 [.aload_n 0] = true := by decide +kernel
theorem d_50_18 : decode ov_m50.2.1 18 = .ok (.getfield 9, 3) := by decide +kernel
theorem d_50_21 : decode ov_m50.2.1 21 = .ok (.invokevirtual 75, 3) := by decide +kernel
theorem b_50_24_1 : ov_ds ov_m50.2.1 24 [.iconst 1] = true := by decide +kernel
theorem d_50_25 : decode ov_m50.2.1 25 = .ok (.ireturn, 1) := by decide +kernel
theorem b_50_11_2 : ov_ds ov_m50.2.1 11 [.aload_n 0, .iconst 1] = true := by decide +kernel
theorem d_50_13 : decode ov_m50.2.1 13 = .ok (.invokevirtual 58, 3) := by decide +kernel
theorem d_50_16 : decode ov_m50.2.1 16 = .ok (.ireturn, 1) := by decide +kernel
theorem b_65_0_1 : ov_ds ov_m65.2.1 0 [.aload_n 0] = true := by decide +kernel
theorem d_65_1 : decode ov_m65.2.1 1 = .ok (.getfield 9, 3) := by decide +kernel
theorem d_65_4 : decode ov_m65.2.1 4 = .ok (.ldc2_w 177, 3) := by decide +kernel
theorem d_65_7 : decode ov_m65.2.1 7 = .ok (.invokevirtual 110, 3) := by decide +kernel
theorem d_65_10 : decode ov_m65.2.1 10 = .ok (.ifCond .eq 5, 3) := by decide +kernel
theorem b_65_15_1 : ov_ds ov_m65.2.1 15 [.aload_n 0] = true := by decide +kernel
theorem d_65_16 : decode ov_m65.2.1 16 = .ok (.getfield 9, 3) := by decide +kernel
theorem d_65_19 : decode ov_m65.2.1 19 = .ok (.ldc2_w 249, 3) := by decide +kernel
theorem d_65_22 : decode ov_m65.2.1 22 = .ok (.invokevirtual 110, 3) := by decide +kernel
theorem d_65_25 : decode ov_m65.2.1 25 = .ok (.ifCond .eq 7, 3) := by decide +kernel
theorem b_65_32_1 : ov_ds ov_m65.2.1 32 [.iconst (-1)] = true := by decide +kernel
theorem d_65_33 : decode ov_m65.2.1 33 = .ok (.ireturn, 1) := by decide +kernel
theorem b_65_28_1 : ov_ds ov_m65.2.1 28 [.iconst 1] = true := by decide +kernel
theorem d_65_29 : decode ov_m65.2.1 29 = .ok (.goto 4, 3) := by decide +kernel
theorem b_65_13_1 : ov_ds ov_m65.2.1 13 [.iconst 0] = true := by decide +kernel
theorem d_65_14 : decode ov_m65.2.1 14 = .ok (.ireturn, 1) := by decide +kernel
theorem b_59_0_1 : ov_ds ov_m59.2.1 0 [.aload_n 0] = true := by decide +kernel
theorem d_59_1 : decode ov_m59.2.1 1 = .ok (.getfield 9, 3) := by decide +kernel
theorem d_59_4 : decode ov_m59.2.1 4 = .ok (.ldc2_w 251, 3) := by decide +kernel
theorem d_59_7 : decode ov_m59.2.1 7 = .ok (.invokevirtual 110, 3) := by decide +kernel
theorem d_59_10 : decode ov_m59.2.1 10 = .ok (.ifCond .eq 5, 3) := by decide +kernel
theorem b_59_15_1 : ov_ds ov_m59.2.1 15 [.aload_n 0] = true := by decide +kernel
theorem d_59_16 : decode ov_m59.2.1 16 = .ok (.getfield 9, 3) := by decide +kernel
theorem d_59_19 : decode ov_m59.2.1 19 = .ok (.ldc2_w 253, 3) := by decide +kernel
theorem d_59_22 : decode ov_m59.2.1 22 = .ok (.invokevirtual 110, 3) := by decide +kernel
theorem d_59_25 : decode ov_m59.2.1 25 = .ok (.ifCond .eq 5, 3) := by decide +kernel
theorem b_59_30_1 : ov_ds ov_m59.2.1 30 [.aload_n 0] = true := by decide +kernel
theorem d_59_31 : decode ov_m59.2.1 31 = .ok (.getfield 9, 3) := by decide +kernel
theorem d_59_34 : decode ov_m59.2.1 34 = .ok (.ldc2_w 255, 3) := by decide +kernel
theorem d_59_37 : decode ov_m59.2.1 37 = .ok (.invokevirtual 110, 3) := by decide +kernel
theorem d_59_40 : decode ov_m59.2.1 40 = .ok (.ifCond .eq 5, 3) := by decide +kernel
theorem b_59_45_1 : ov_ds ov_m59.2.1 45 [.aload_n 0] = true := by decide +kernel
theorem d_59_46 : decode ov_m59.2.1 46 = .ok (.getfield 9, 3) := by decide +kernel
theorem d_59_49 : decode ov_m59.2.1 49 = .ok (.ldc2_w 257, 3) := by decide +kernel
theorem d_59_52 : decode ov_m59.2.1 52 = .ok (.invokevirtual 110, 3) := by decide +kernel
theorem d_59_55 : decode ov_m59.2.1 55 = .ok (.ifCond .eq 7, 3) := by decide +kernel
theorem b_59_62_1 : ov_ds ov_m59.2.1 62 [.iconst (-1)] = true := by decide +kernel
theorem d_59_63 : decode ov_m59.2.1 63 = .ok (.ireturn, 1) := by decide +kernel
theorem b_59_58_1 : ov_ds ov_m59.2.1 58 [.iconst 3] = true := by decide +kernel
theorem d_59_59 : decode ov_m59.2.1 59 = .ok (.goto 4, 3) := by decide +kernel
theorem b_59_43_1 : ov_ds ov_m59.2.1 43 [.iconst 2] = true := by decide +kernel
theorem d_59_44 : decode ov_m59.2.1 44 = .ok (.ireturn, 1) := by decide +kernel
theorem b_59_28_1 : ov_ds ov_m59.2.1 28 [.iconst 1] = true := by decide +kernel
theorem d_59_29 : decode ov_m59.2.1 29 = .ok (.ireturn, 1) := by decide +kernel
theorem b_59_13_1 : ov_ds ov_m59.2.1 13 [.iconst 0] = true := by decide +kernel
theorem d_59_14 : decode ov_m59.2.1 14 = .ok (.ireturn, 1) := by decide +kernel
theorem b_74_0_1 : ov_ds ov_m74.2.1 0 [.aload_n 0] = true := by decide +kernel
theorem d_74_1 : decode ov_m74.2.1 1 = .ok (.getfield 9, 3) := by decide +kernel
theorem d_74_4 : decode ov_m74.2.1 4 = .ok (.getfield 37, 3) := by decide +kernel
theorem b_74_7_1 : ov_ds ov_m74.2.1 7 [.iconst 3] = true := by decide +kernel
theorem d_74_8 : decode ov_m74.2.1 8 = .ok (.if_icmp .ne 14, 3) := by decide +kernel
theorem b_74_22_1 : ov_ds ov_m74.2.1 22 [.aload_n 0] = true := by decide +kernel
theorem d_74_23 : decode ov_m74.2.1 23 = .ok (.getfield 9, 3) := by decide +kernel
theorem d_74_26 : decode ov_m74.2.1 26 = .ok (.ldc2_w 245, 3) := by decide +kernel
theorem d_74_29 : decode ov_m74.2.1 29 = .ok (.invokevirtual 110, 3) := by decide +kernel
theorem d_74_32 : decode ov_m74.2.1 32 = .ok (.ifCond .eq 6, 3) := by decide +kernel
theorem b_74_38_1 : ov_ds ov_m74.2.1 38 [.aload_n 0] = true := by decide +kernel
theorem d_74_39 : decode ov_m74.2.1 39 = .ok (.getfield 9, 3) := by decide +kernel
theorem d_74_42 : decode ov_m74.2.1 42 = .ok (.ldc2_w 247, 3) := by decide +kernel
theorem d_74_45 : decode ov_m74.2.1 45 = .ok (.invokevirtual 110, 3) := by decide +kernel
theorem d_74_48 : decode ov_m74.2.1 48 = .ok (.ifCond .eq 6, 3) := by decide +kernel
theorem b_74_54_1 : ov_ds ov_m74.2.1 54 [.aload_n 0] = true := by decide +kernel
theorem d_74_55 : decode ov_m74.2.1 55 = .ok (.invokevirtual 54, 3) := by decide +kernel
theorem b_74_58_3 : ov_ds ov_m74.2.1 58 [.istore_n 1, .iload_n 1, .iconst (-1)] = true := by decide +kernel
theorem d_74_61 : decode ov_m74.2.1 61 = .ok (.if_icmp .ne 7, 3) := by decide +kernel
theorem b_74_68_1 : ov_ds ov_m74.2.1 68 [.iload_n 1] = true := by decide +kernel
theorem d_74_69 : decode ov_m74.2.1 69 = .ok (.ifCond .ne 8, 3) := by decide +kernel
theorem b_74_77_1 : ov_ds ov_m74.2.1 77 [.bipush 9] = true := by decide +kernel
theorem d_74_79 : decode ov_m74.2.1 79 = .ok (.ireturn, 1) := by decide +kernel
theorem b_74_72_1 : ov_ds ov_m74.2.1 72 [.bipush 8] = true := by decide +kernel
theorem d_74_74 : decode ov_m74.2.1 74 = .ok (.goto 5, 3) := by decide +kernel
theorem b_74_64_1 : ov_ds ov_m74.2.1 64 [.iconst (-1)] = true := by decide +kernel
theorem d_74_65 : decode ov_m74.2.1 65 = .ok (.goto 14, 3) := by decide +kernel
theorem b_74_51_1 : ov_ds ov_m74.2.1 51 [.bipush 11] = true := by decide +kernel
theorem d_74_53 : decode ov_m74.2.1 53 = .ok (.ireturn, 1) := by decide +kernel
theorem b_74_35_1 : ov_ds ov_m74.2.1 35 [.bipush 10] = true := by decide +kernel
theorem d_74_37 : decode ov_m74.2.1 37 = .ok (.ireturn, 1) := by decide +kernel
theorem b_74_11_2 : ov_ds ov_m74.2.1 11 [.bipush 16, .aload_n 0] = true := by decide +kernel
theorem d_74_14 : decode ov_m74.2.1 14 = .ok (.getfield 9, 3) := by decide +kernel
theorem d_74_17 : decode ov_m74.2.1 17 = .ok (.getfield 146, 3) := by decide +kernel
theorem b_74_20_1 : ov_ds ov_m74.2.1 20 [.iadd] = true := by decide +kernel
theorem d_74_21 : decode ov_m74.2.1 21 = .ok (.ireturn, 1) := by decide +kernel
theorem b_73_0_1 : ov_ds ov_m73.2.1 0 [.aload_n 0] = true := by decide +kernel
theorem d_73_1 : decode ov_m73.2.1 1 = .ok (.invokevirtual 240, 3) := by decide +kernel
theorem b_73_4_2 : ov_ds ov_m73.2.1 4 [.istore_n 2, .aload_n 0] = true := by decide +kernel
theorem d_73_6 : decode ov_m73.2.1 6 = .ok (.getfield 9, 3) := by decide +kernel
theorem d_73_9 : decode ov_m73.2.1 9 = .ok (.ldc2_w 243, 3) := by decide +kernel
theorem d_73_12 : decode ov_m73.2.1 12 = .ok (.invokevirtual 110, 3) := by decide +kernel
theorem b_73_15_2 : ov_ds ov_m73.2.1 15 [.istore_n 3, .aload_n 0] = true := by decide +kernel
theorem d_73_17 : decode ov_m73.2.1 17 = .ok (.getfield 9, 3) := by decide +kernel
theorem b_73_20_1 : ov_ds ov_m73.2.1 20 [.bipush 40] = true := by decide +kernel
theorem d_73_22 : decode ov_m73.2.1 22 = .ok (.invokevirtual 231, 3) := by decide +kernel
theorem b_73_25_3 : ov_ds ov_m73.2.1 25 [.istore 4, .iload_n 2, .iconst (-1)] = true := by decide +kernel
theorem d_73_29 : decode ov_m73.2.1 29 = .ok (.if_icmp .ne 18, 3) := by decide +kernel
theorem b_73_47_2 : ov_ds ov_m73.2.1 47 [.iload_n 1, .iconst 4] = true := by decide +kernel
theorem d_73_49 : decode ov_m73.2.1 49 = .ok (.if_icmp .le 9, 3) := by decide +kernel
theorem b_73_58_1 : ov_ds ov_m73.2.1 58 [.aload_n 0] = true := by decide +kernel
theorem d_73_59 : decode ov_m73.2.1 59 = .ok (.getfield 9, 3) := by decide +kernel
theorem d_73_62 : decode ov_m73.2.1 62 = .ok (.invokevirtual 75, 3) := by decide +kernel
theorem b_73_65_1 : ov_ds ov_m73.2.1 65 [.iload 4] = true := by decide +kernel
theorem d_73_67 : decode ov_m73.2.1 67 = .ok (.ifCond .eq 28, 3) := by decide +kernel
theorem b_73_95_1 : ov_ds ov_m73.2.1 95 [.iload_n 3] = true := by decide +kernel
theorem d_73_96 : decode ov_m73.2.1 96 = .ok (.ifCond .eq 13, 3) := by decide +kernel
theorem b_73_109_1 : ov_ds ov_m73.2.1 109 [.iconst 1] = true := by decide +kernel
theorem d_73_110 : decode ov_m73.2.1 110 = .ok (.goto 4, 3) := by decide +kernel
theorem b_73_114_2 : ov_ds ov_m73.2.1 114 [.istore 5, .aload_n 0] = true := by decide +kernel
theorem d_73_117 : decode ov_m73.2.1 117 = .ok (.getfield 15, 3) := by decide +kernel
theorem b_73_120_1 : ov_ds ov_m73.2.1 120 [.iload_n 3] = true := by decide +kernel
theorem d_73_121 : decode ov_m73.2.1 121 = .ok (.ifCond .eq 7, 3) := by decide +kernel
theorem b_73_128_1 : ov_ds ov_m73.2.1 128 [.iload_n 2] = true := by decide +kernel
theorem d_73_129 : decode ov_m73.2.1 129 = .ok (.invokevirtual 224, 3) := by decide +kernel
theorem b_73_132_1 : ov_ds ov_m73.2.1 132 [.iload 5] = true := by decide +kernel
theorem d_73_134 : decode ov_m73.2.1 134 = .ok (.ireturn, 1) := by decide +kernel
theorem b_73_124_1 : ov_ds ov_m73.2.1 124 [.iconst 0] = true := by decide +kernel
theorem d_73_125 : decode ov_m73.2.1 125 = .ok (.goto 4, 3) := by decide +kernel
theorem b_73_99_4 : ov_ds ov_m73.2.1 99 [.aload_n 0, .iload_n 1, .iconst 1, .iadd] = true := by decide +kernel
theorem d_73_103 : decode ov_m73.2.1 103 = .ok (.invokevirtual 237, 3) := by decide +kernel
theorem d_73_106 : decode ov_m73.2.1 106 = .ok (.ifCond .eq 7, 3) := by decide +kernel
theorem b_73_113_3 : ov_ds ov_m73.2.1 113 [.iconst 0, .istore 5, .aload_n 0] = true := by decide +kernel
theorem b_73_70_4 : ov_ds ov_m73.2.1 70 [.aload_n 0, .iload_n 1, .iconst 1, .iadd] = true := by decide +kernel
theorem d_73_74 : decode ov_m73.2.1 74 = .ok (.invokevirtual 210, 3) := by decide +kernel
theorem d_73_77 : decode ov_m73.2.1 77 = .ok (.ifCond .eq 16, 3) := by decide +kernel
theorem b_73_93_1 : ov_ds ov_m73.2.1 93 [.iconst 0] = true := by decide +kernel
theorem d_73_94 : decode ov_m73.2.1 94 = .ok (.ireturn, 1) := by decide +kernel
theorem b_73_80_2 : ov_ds ov_m73.2.1 80 [.aload_n 0, .bipush 41] = true := by decide +kernel
theorem d_73_83 : decode ov_m73.2.1 83 = .ok (.invokevirtual 92, 3) := by decide +kernel
theorem d_73_86 : decode ov_m73.2.1 86 = .ok (.ifCond .eq 7, 3) := by decide +kernel
theorem b_73_89_1 : ov_ds ov_m73.2.1 89 [.iconst 1] = true := by decide +kernel
theorem d_73_90 : decode ov_m73.2.1 90 = .ok (.goto 4, 3) := by decide +kernel
theorem b_73_52_2 : ov_ds ov_m73.2.1 52 [.aload_n 0, .iconst 5] = true := by decide +kernel
theorem d_73_54 : decode ov_m73.2.1 54 = .ok (.invokevirtual 58, 3) := by decide +kernel
theorem d_73_57 : decode ov_m73.2.1 57 = .ok (.ireturn, 1) := by decide +kernel
theorem b_73_32_1 : ov_ds ov_m73.2.1 32 [.iload_n 3] = true := by decide +kernel
theorem d_73_33 : decode ov_m73.2.1 33 = .ok (.ifCond .ne 14, 3) := by decide +kernel
theorem b_73_36_1 : ov_ds ov_m73.2.1 36 [.iload 4] = true := by decide +kernel
theorem d_73_38 : decode ov_m73.2.1 38 = .ok (.ifCond .ne 9, 3) := by decide +kernel
theorem b_73_41_2 : ov_ds ov_m73.2.1 41 [.aload_n 0, .iconst 1] = true := by decide +kernel
theorem d_73_43 : decode ov_m73.2.1 43 = .ok (.invokevirtual 58, 3) := by decide +kernel
theorem d_73_46 : decode ov_m73.2.1 46 = .ok (.ireturn, 1) := by decide +kernel
theorem b_72_0_2 : ov_ds ov_m72.2.1 0 [.aload_n 0, .iload_n 1] = true := by decide +kernel
theorem d_72_2 : decode ov_m72.2.1 2 = .ok (.invokevirtual 237, 3) := by decide +kernel
theorem b_72_5_3 : ov_ds ov_m72.2.1 5 [.istore_n 2, .iconst 0, .istore_n 3] = true := by decide +kernel
theorem b_72_8_2 : ov_ds ov_m72.2.1 8 [.iload_n 3, .sipush 1000] = true := by decide +kernel
theorem d_72_12 : decode ov_m72.2.1 12 = .ok (.if_icmp .ge 47, 3) := by decide +kernel
theorem b_72_59_1 : ov_ds ov_m72.2.1 59 [.iload_n 2] = true := by decide +kernel
theorem d_72_60 : decode ov_m72.2.1 60 = .ok (.ireturn, 1) := by decide +kernel
theorem b_72_15_1 : ov_ds ov_m72.2.1 15 [.iload_n 2] = true := by decide +kernel
theorem d_72_16 : decode ov_m72.2.1 16 = .ok (.ifCond .eq 43, 3) := by decide +kernel
theorem b_72_19_1 : ov_ds ov_m72.2.1 19 [.aload_n 0] = true := by decide +kernel
theorem d_72_20 : decode ov_m72.2.1 20 = .ok (.getfield 9, 3) := by decide +kernel
theorem b_72_23_1 : ov_ds ov_m72.2.1 23 [.bipush 42] = true := by decide +kernel
theorem d_72_25 : decode ov_m72.2.1 25 = .ok (.invokevirtual 231, 3) := by decide +kernel
theorem d_72_28 : decode ov_m72.2.1 28 = .ok (.ifCond .eq 31, 3) := by decide +kernel
theorem b_72_31_1 : ov_ds ov_m72.2.1 31 [.aload_n 0] = true := by decide +kernel
theorem d_72_32 : decode ov_m72.2.1 32 = .ok (.getfield 9, 3) := by decide +kernel
theorem d_72_35 : decode ov_m72.2.1 35 = .ok (.invokevirtual 75, 3) := by decide +kernel
theorem b_72_38_2 : ov_ds ov_m72.2.1 38 [.aload_n 0, .iload_n 1] = true := by decide +kernel
theorem d_72_40 : decode ov_m72.2.1 40 = .ok (.invokevirtual 237, 3) := by decide +kernel
theorem b_72_43_2 : ov_ds ov_m72.2.1 43 [.istore_n 2, .aload_n 0] = true := by decide +kernel
theorem d_72_45 : decode ov_m72.2.1 45 = .ok (.getfield 15, 3) := by decide +kernel
theorem b_72_48_1 : ov_ds ov_m72.2.1 48 [.bipush 7] = true := by decide +kernel
theorem d_72_50 : decode ov_m72.2.1 50 = .ok (.invokevirtual 224, 3) := by decide +kernel
theorem b_72_53_1 : ov_ds ov_m72.2.1 53 [.iinc 3 1] = true := by decide +kernel
theorem d_72_56 : decode ov_m72.2.1 56 = .ok (.goto (-48), 3) := by decide +kernel
theorem b_71_0_2 : ov_ds ov_m71.2.1 0 [.aload_n 0, .iload_n 1] = true := by decide +kernel
theorem d_71_2 : decode ov_m71.2.1 2 = .ok (.invokevirtual 234, 3) := by decide +kernel
theorem b_71_5_3 : ov_ds ov_m71.2.1 5 [.istore_n 2, .iconst 0, .istore_n 3] = true := by decide +kernel
theorem b_71_8_2 : ov_ds ov_m71.2.1 8 [.iload_n 3, .sipush 1000] = true := by decide +kernel
theorem d_71_12 : decode ov_m71.2.1 12 = .ok (.if_icmp .ge 74, 3) := by decide +kernel
theorem b_71_86_1 : ov_ds ov_m71.2.1 86 [.iload_n 2] = true := by decide +kernel
theorem d_71_87 : decode ov_m71.2.1 87 = .ok (.ireturn, 1) := by decide +kernel
theorem b_71_15_1 : ov_ds ov_m71.2.1 15 [.iload_n 2] = true := by decide +kernel
theorem d_71_16 : decode ov_m71.2.1 16 = .ok (.ifCond .eq 70, 3) := by decide +kernel
theorem b_71_19_1 : ov_ds ov_m71.2.1 19 [.aload_n 0] = true := by decide +kernel
theorem d_71_20 : decode ov_m71.2.1 20 = .ok (.getfield 9, 3) := by decide +kernel
theorem b_71_23_1 : ov_ds ov_m71.2.1 23 [.bipush 43] = true := by decide +kernel
theorem d_71_25 : decode ov_m71.2.1 25 = .ok (.invokevirtual 231, 3) := by decide +kernel
theorem b_71_28_2 : ov_ds ov_m71.2.1 28 [.istore 4, .iload 4] = true := by decide +kernel
theorem d_71_32 : decode ov_m71.2.1 32 = .ok (.ifCond .ne 17, 3) := by decide +kernel
theorem b_71_49_1 : ov_ds ov_m71.2.1 49 [.aload_n 0] = true := by decide +kernel
theorem d_71_50 : decode ov_m71.2.1 50 = .ok (.getfield 9, 3) := by decide +kernel
theorem d_71_53 : decode ov_m71.2.1 53 = .ok (.invokevirtual 75, 3) := by decide +kernel
theorem b_71_56_2 : ov_ds ov_m71.2.1 56 [.aload_n 0, .iload_n 1] = true := by decide +kernel
theorem d_71_58 : decode ov_m71.2.1 58 = .ok (.invokevirtual 234, 3) := by decide +kernel
theorem b_71_61_2 : ov_ds ov_m71.2.1 61 [.istore_n 2, .aload_n 0] = true := by decide +kernel
theorem d_71_63 : decode ov_m71.2.1 63 = .ok (.getfield 15, 3) := by decide +kernel
theorem b_71_66_1 : ov_ds ov_m71.2.1 66 [.iload 4] = true := by decide +kernel
theorem d_71_68 : decode ov_m71.2.1 68 = .ok (.ifCond .eq 7, 3) := by decide +kernel
theorem b_71_75_1 : ov_ds ov_m71.2.1 75 [.bipush 6] = true := by decide +kernel
theorem d_71_77 : decode ov_m71.2.1 77 = .ok (.invokevirtual 224, 3) := by decide +kernel
theorem b_71_80_1 : ov_ds ov_m71.2.1 80 [.iinc 3 1] = true := by decide +kernel
theorem d_71_83 : decode ov_m71.2.1 83 = .ok (.goto (-75), 3) := by decide +kernel
theorem b_71_71_1 : ov_ds ov_m71.2.1 71 [.iconst 5] = true := by decide +kernel
theorem d_71_72 : decode ov_m71.2.1 72 = .ok (.goto 5, 3) := by decide +kernel
theorem b_71_35_1 : ov_ds ov_m71.2.1 35 [.aload_n 0] = true := by decide +kernel
theorem d_71_36 : decode ov_m71.2.1 36 = .ok (.getfield 9, 3) := by decide +kernel
theorem b_71_39_1 : ov_ds ov_m71.2.1 39 [.bipush 45] = true := by decide +kernel
theorem d_71_41 : decode ov_m71.2.1 41 = .ok (.invokevirtual 231, 3) := by decide +kernel
theorem d_71_44 : decode ov_m71.2.1 44 = .ok (.ifCond .ne 5, 3) := by decide +kernel
theorem b_71_47_1 : ov_ds ov_m71.2.1 47 [.iconst 1] = true := by decide +kernel
theorem d_71_48 : decode ov_m71.2.1 48 = .ok (.ireturn, 1) := by decide +kernel
theorem b_70_0_2 : ov_ds ov_m70.2.1 0 [.aload_n 0, .iload_n 1] = true := by decide +kernel
theorem d_70_2 : decode ov_m70.2.1 2 = .ok (.invokevirtual 228, 3) := by decide +kernel
theorem d_70_5 : decode ov_m70.2.1 5 = .ok (.ifCond .ne 5, 3) := by decide +kernel
theorem b_70_10_1 : ov_ds ov_m70.2.1 10 [.aload_n 0] = true := by decide +kernel
theorem d_70_11 : decode ov_m70.2.1 11 = .ok (.getfield 9, 3) := by decide +kernel
theorem b_70_14_1 : ov_ds ov_m70.2.1 14 [.bipush 60] = true := by decide +kernel
theorem d_70_16 : decode ov_m70.2.1 16 = .ok (.invokevirtual 231, 3) := by decide +kernel
theorem b_70_19_2 : ov_ds ov_m70.2.1 19 [.istore_n 2, .iload_n 2] = true := by decide +kernel
theorem d_70_21 : decode ov_m70.2.1 21 = .ok (.ifCond .ne 17, 3) := by decide +kernel
theorem b_70_38_1 : ov_ds ov_m70.2.1 38 [.aload_n 0] = true := by decide +kernel
theorem d_70_39 : decode ov_m70.2.1 39 = .ok (.getfield 9, 3) := by decide +kernel
theorem d_70_42 : decode ov_m70.2.1 42 = .ok (.invokevirtual 75, 3) := by decide +kernel
theorem b_70_45_2 : ov_ds ov_m70.2.1 45 [.aload_n 0, .iload_n 1] = true := by decide +kernel
theorem d_70_47 : decode ov_m70.2.1 47 = .ok (.invokevirtual 228, 3) := by decide +kernel
theorem b_70_50_2 : ov_ds ov_m70.2.1 50 [.istore_n 3, .aload_n 0] = true := by decide +kernel
theorem d_70_52 : decode ov_m70.2.1 52 = .ok (.getfield 15, 3) := by decide +kernel
theorem b_70_55_1 : ov_ds ov_m70.2.1 55 [.iload_n 2] = true := by decide +kernel
theorem d_70_56 : decode ov_m70.2.1 56 = .ok (.ifCond .eq 7, 3) := by decide +kernel
theorem b_70_63_1 : ov_ds ov_m70.2.1 63 [.iconst 4] = true := by decide +kernel
theorem d_70_64 : decode ov_m70.2.1 64 = .ok (.invokevirtual 224, 3) := by decide +kernel
theorem b_70_67_1 : ov_ds ov_m70.2.1 67 [.iload_n 3] = true := by decide +kernel
theorem d_70_68 : decode ov_m70.2.1 68 = .ok (.ireturn, 1) := by decide +kernel
theorem b_70_59_1 : ov_ds ov_m70.2.1 59 [.iconst 3] = true := by decide +kernel
theorem d_70_60 : decode ov_m70.2.1 60 = .ok (.goto 4, 3) := by decide +kernel
theorem b_70_24_1 : ov_ds ov_m70.2.1 24 [.aload_n 0] = true := by decide +kernel
theorem d_70_25 : decode ov_m70.2.1 25 = .ok (.getfield 9, 3) := by decide +kernel
theorem b_70_28_1 : ov_ds ov_m70.2.1 28 [.bipush 61] = true := by decide +kernel
theorem d_70_30 : decode ov_m70.2.1 30 = .ok (.invokevirtual 231, 3) := by decide +kernel
theorem d_70_33 : decode ov_m70.2.1 33 = .ok (.ifCond .ne 5, 3) := by decide +kernel
theorem b_70_36_1 : ov_ds ov_m70.2.1 36 [.iconst 1] = true := by decide +kernel
theorem d_70_37 : decode ov_m70.2.1 37 = .ok (.ireturn, 1) := by decide +kernel
theorem b_70_8_1 : ov_ds ov_m70.2.1 8 [.iconst 0] = true := by decide +kernel
theorem d_70_9 : decode ov_m70.2.1 9 = .ok (.ireturn, 1) := by decide +kernel
theorem b_69_0_2 : ov_ds ov_m69.2.1 0 [.aload_n 0, .iload_n 1] = true := by decide +kernel
theorem d_69_2 : decode ov_m69.2.1 2 = .ok (.invokevirtual 217, 3) := by decide +kernel
theorem b_69_5_3 : ov_ds ov_m69.2.1 5 [.istore_n 2, .iconst 0, .istore_n 3] = true := by decide +kernel
theorem b_69_8_2 : ov_ds ov_m69.2.1 8 [.iload_n 3, .sipush 1000] = true := by decide +kernel
theorem d_69_12 : decode ov_m69.2.1 12 = .ok (.if_icmp .ge 75, 3) := by decide +kernel
theorem b_69_87_1 : ov_ds ov_m69.2.1 87 [.iload_n 2] = true := by decide +kernel
theorem d_69_88 : decode ov_m69.2.1 88 = .ok (.ireturn, 1) := by decide +kernel
theorem b_69_15_1 : ov_ds ov_m69.2.1 15 [.iload_n 2] = true := by decide +kernel
theorem d_69_16 : decode ov_m69.2.1 16 = .ok (.ifCond .eq 71, 3) := by decide +kernel
theorem b_69_19_1 : ov_ds ov_m69.2.1 19 [.aload_n 0] = true := by decide +kernel
theorem d_69_20 : decode ov_m69.2.1 20 = .ok (.getfield 9, 3) := by decide +kernel
theorem d_69_23 : decode ov_m69.2.1 23 = .ok (.ldc2_w 220, 3) := by decide +kernel
theorem d_69_26 : decode ov_m69.2.1 26 = .ok (.invokevirtual 110, 3) := by decide +kernel
theorem b_69_29_2 : ov_ds ov_m69.2.1 29 [.istore 4, .iload 4] = true := by decide +kernel
theorem d_69_33 : decode ov_m69.2.1 33 = .ok (.ifCond .ne 18, 3) := by decide +kernel
theorem b_69_51_1 : ov_ds ov_m69.2.1 51 [.aload_n 0] = true := by decide +kernel
theorem d_69_52 : decode ov_m69.2.1 52 = .ok (.getfield 9, 3) := by decide +kernel
theorem d_69_55 : decode ov_m69.2.1 55 = .ok (.invokevirtual 75, 3) := by decide +kernel
theorem b_69_58_2 : ov_ds ov_m69.2.1 58 [.aload_n 0, .iload_n 1] = true := by decide +kernel
theorem d_69_60 : decode ov_m69.2.1 60 = .ok (.invokevirtual 217, 3) := by decide +kernel
theorem b_69_63_2 : ov_ds ov_m69.2.1 63 [.istore_n 2, .aload_n 0] = true := by decide +kernel
theorem d_69_65 : decode ov_m69.2.1 65 = .ok (.getfield 15, 3) := by decide +kernel
theorem b_69_68_1 : ov_ds ov_m69.2.1 68 [.iload 4] = true := by decide +kernel
theorem d_69_70 : decode ov_m69.2.1 70 = .ok (.ifCond .eq 7, 3) := by decide +kernel
theorem b_69_77_1 : ov_ds ov_m69.2.1 77 [.iconst 2] = true := by decide +kernel
theorem d_69_78 : decode ov_m69.2.1 78 = .ok (.invokevirtual 224, 3) := by decide +kernel
theorem b_69_81_1 : ov_ds ov_m69.2.1 81 [.iinc 3 1] = true := by decide +kernel
theorem d_69_84 : decode ov_m69.2.1 84 = .ok (.goto (-76), 3) := by decide +kernel
theorem b_69_73_1 : ov_ds ov_m69.2.1 73 [.iconst 1] = true := by decide +kernel
theorem d_69_74 : decode ov_m69.2.1 74 = .ok (.goto 4, 3) := by decide +kernel
theorem b_69_36_1 : ov_ds ov_m69.2.1 36 [.aload_n 0] = true := by decide +kernel
theorem d_69_37 : decode ov_m69.2.1 37 = .ok (.getfield 9, 3) := by decide +kernel
theorem d_69_40 : decode ov_m69.2.1 40 = .ok (.ldc2_w 222, 3) := by decide +kernel
theorem d_69_43 : decode ov_m69.2.1 43 = .ok (.invokevirtual 110, 3) := by decide +kernel
theorem d_69_46 : decode ov_m69.2.1 46 = .ok (.ifCond .ne 5, 3) := by decide +kernel
theorem b_69_49_1 : ov_ds ov_m69.2.1 49 [.iconst 1] = true := by decide +kernel
theorem d_69_50 : decode ov_m69.2.1 50 = .ok (.ireturn, 1) := by decide +kernel
theorem b_66_0_1 : ov_ds ov_m66.2.1 0 [.aload_n 0] = true := by decide +kernel
theorem d_66_1 : decode ov_m66.2.1 1 = .ok (.getfield 15, 3) := by decide +kernel
theorem d_66_4 : decode ov_m66.2.1 4 = .ok (.getfield 197, 3) := by decide +kernel
theorem b_66_7_1 : ov_ds ov_m66.2.1 7 [.iconst 4] = true := by decide +kernel
theorem d_66_8 : decode ov_m66.2.1 8 = .ok (.if_icmp .lt 9, 3) := by decide +kernel
theorem b_66_17_1 : ov_ds ov_m66.2.1 17 [.aload_n 0] = true := by decide +kernel
theorem d_66_18 : decode ov_m66.2.1 18 = .ok (.getfield 9, 3) := by decide +kernel
theorem d_66_21 : decode ov_m66.2.1 21 = .ok (.invokevirtual 75, 3) := by decide +kernel
theorem b_66_24_1 : ov_ds ov_m66.2.1 24 [.aload_n 0] = true := by decide +kernel
theorem d_66_25 : decode ov_m66.2.1 25 = .ok (.getfield 9, 3) := by decide +kernel
theorem d_66_28 : decode ov_m66.2.1 28 = .ok (.getfield 37, 3) := by decide +kernel
theorem b_66_31_1 : ov_ds ov_m66.2.1 31 [.iconst 2] = true := by decide +kernel
theorem d_66_32 : decode ov_m66.2.1 32 = .ok (.if_icmp .ne 16, 3) := by decide +kernel
theorem b_66_48_2 : ov_ds ov_m66.2.1 48 [.aload_n 0, .iconst 1] = true := by decide +kernel
theorem d_66_50 : decode ov_m66.2.1 50 = .ok (.invokevirtual 58, 3) := by decide +kernel
theorem d_66_53 : decode ov_m66.2.1 53 = .ok (.ireturn, 1) := by decide +kernel
theorem b_66_35_1 : ov_ds ov_m66.2.1 35 [.aload_n 0] = true := by decide +kernel
theorem d_66_36 : decode ov_m66.2.1 36 = .ok (.getfield 9, 3) := by decide +kernel
theorem d_66_39 : decode ov_m66.2.1 39 = .ok (.getfield 200, 3) := by decide +kernel
theorem d_66_42 : decode ov_m66.2.1 42 = .ok (.invokestatic 204, 3) := by decide +kernel
theorem d_66_45 : decode ov_m66.2.1 45 = .ok (.ifCond .eq 9, 3) := by decide +kernel
theorem b_66_54_1 : ov_ds ov_m66.2.1 54 [.aload_n 0] = true := by decide +kernel
theorem d_66_55 : decode ov_m66.2.1 55 = .ok (.getfield 15, 3) := by decide +kernel
theorem b_66_58_1 : ov_ds ov_m66.2.1 58 [.aload_n 0] = true := by decide +kernel
theorem d_66_59 : decode ov_m66.2.1 59 = .ok (.getfield 9, 3) := by decide +kernel
theorem d_66_62 : decode ov_m66.2.1 62 = .ok (.getfield 200, 3) := by decide +kernel
theorem d_66_65 : decode ov_m66.2.1 65 = .ok (.invokevirtual 207, 3) := by decide +kernel
theorem d_66_68 : decode ov_m66.2.1 68 = .ok (.ifCond .eq 9, 3) := by decide +kernel
theorem b_66_77_1 : ov_ds ov_m66.2.1 77 [.aload_n 0] = true := by decide +kernel
theorem d_66_78 : decode ov_m66.2.1 78 = .ok (.getfield 9, 3) := by decide +kernel
theorem d_66_81 : decode ov_m66.2.1 81 = .ok (.getfield 200, 3) := by decide +kernel
theorem b_66_84_2 : ov_ds ov_m66.2.1 84 [.lstore_n 1, .aload_n 0] = true := by decide +kernel
theorem d_66_86 : decode ov_m66.2.1 86 = .ok (.getfield 9, 3) := by decide +kernel
theorem d_66_89 : decode ov_m66.2.1 89 = .ok (.invokevirtual 75, 3) := by decide +kernel
theorem b_66_92_2 : ov_ds ov_m66.2.1 92 [.aload_n 0, .iconst 0] = true := by decide +kernel
theorem d_66_94 : decode ov_m66.2.1 94 = .ok (.invokevirtual 210, 3) := by decide +kernel
theorem d_66_97 : decode ov_m66.2.1 97 = .ok (.ifCond .ne 5, 3) := by decide +kernel
theorem b_66_102_1 : ov_ds ov_m66.2.1 102 [.aload_n 0] = true := by decide +kernel
theorem d_66_103 : decode ov_m66.2.1 103 = .ok (.getfield 15, 3) := by decide +kernel
theorem b_66_106_1 : ov_ds ov_m66.2.1 106 [.lload_n 1] = true := by decide +kernel
theorem d_66_107 : decode ov_m66.2.1 107 = .ok (.invokevirtual 213, 3) := by decide +kernel
theorem b_66_110_2 : ov_ds ov_m66.2.1 110 [.aload_n 0, .bipush 59] = true := by decide +kernel
theorem d_66_113 : decode ov_m66.2.1 113 = .ok (.invokevirtual 92, 3) := by decide +kernel
theorem d_66_116 : decode ov_m66.2.1 116 = .ok (.ireturn, 1) := by decide +kernel
theorem b_66_100_1 : ov_ds ov_m66.2.1 100 [.iconst 0] = true := by decide +kernel
theorem d_66_101 : decode ov_m66.2.1 101 = .ok (.ireturn, 1) := by decide +kernel
theorem b_66_71_2 : ov_ds ov_m66.2.1 71 [.aload_n 0, .iconst 3] = true := by decide +kernel
theorem d_66_73 : decode ov_m66.2.1 73 = .ok (.invokevirtual 58, 3) := by decide +kernel
theorem d_66_76 : decode ov_m66.2.1 76 = .ok (.ireturn, 1) := by decide +kernel
theorem b_66_11_2 : ov_ds ov_m66.2.1 11 [.aload_n 0, .iconst 5] = true := by decide +kernel
theorem d_66_13 : decode ov_m66.2.1 13 = .ok (.invokevirtual 58, 3) := by decide +kernel
theorem d_66_16 : decode ov_m66.2.1 16 = .ok (.ireturn, 1) := by decide +kernel
theorem b_78_0_1 : ov_ds ov_m78.2.1 0 [.aload_n 0] = true := by decide +kernel
theorem d_78_1 : decode ov_m78.2.1 1 = .ok (.getfield 15, 3) := by decide +kernel
theorem d_78_4 : decode ov_m78.2.1 4 = .ok (.getfield 193, 3) := by decide +kernel
theorem d_78_7 : decode ov_m78.2.1 7 = .ok (.ifCond .eq 9, 3) := by decide +kernel
theorem b_78_16_1 : ov_ds ov_m78.2.1 16 [.aload_n 0] = true := by decide +kernel
theorem d_78_17 : decode ov_m78.2.1 17 = .ok (.getfield 15, 3) := by decide +kernel
theorem b_78_20_1 : ov_ds ov_m78.2.1 20 [.iconst 1] = true := by decide +kernel
theorem d_78_21 : decode ov_m78.2.1 21 = .ok (.putfield 193, 3) := by decide +kernel
theorem b_78_24_1 : ov_ds ov_m78.2.1 24 [.aload_n 0] = true := by decide +kernel
theorem d_78_25 : decode ov_m78.2.1 25 = .ok (.getfield 9, 3) := by decide +kernel
theorem d_78_28 : decode ov_m78.2.1 28 = .ok (.invokevirtual 75, 3) := by decide +kernel
theorem b_78_31_2 : ov_ds ov_m78.2.1 31 [.aload_n 0, .bipush 59] = true := by decide +kernel
theorem d_78_34 : decode ov_m78.2.1 34 = .ok (.invokevirtual 92, 3) := by decide +kernel
theorem d_78_37 : decode ov_m78.2.1 37 = .ok (.ireturn, 1) := by decide +kernel
theorem b_78_10_2 : ov_ds ov_m78.2.1 10 [.aload_n 0, .iconst 3] = true := by decide +kernel
theorem d_78_12 : decode ov_m78.2.1 12 = .ok (.invokevirtual 58, 3) := by decide +kernel
theorem d_78_15 : decode ov_m78.2.1 15 = .ok (.ireturn, 1) := by decide +kernel
theorem b_77_0_1 : ov_ds ov_m77.2.1 0 [.aload_n 0] = true := by decide +kernel
theorem d_77_1 : decode ov_m77.2.1 1 = .ok (.getfield 15, 3) := by decide +kernel
theorem d_77_4 : decode ov_m77.2.1 4 = .ok (.getfield 190, 3) := by decide +kernel
theorem b_77_7_1 : ov_ds ov_m77.2.1 7 [.iload_n 1] = true := by decide +kernel
theorem d_77_8 : decode ov_m77.2.1 8 = .ok (.iaload, 1) := by decide +kernel
theorem b_77_9_1 : ov_ds ov_m77.2.1 9 [.iconst (-1)] = true := by decide +kernel
theorem d_77_10 : decode ov_m77.2.1 10 = .ok (.if_icmp .eq 9, 3) := by decide +kernel
theorem b_77_19_1 : ov_ds ov_m77.2.1 19 [.aload_n 0] = true := by decide +kernel
theorem d_77_20 : decode ov_m77.2.1 20 = .ok (.getfield 9, 3) := by decide +kernel
theorem d_77_23 : decode ov_m77.2.1 23 = .ok (.invokevirtual 75, 3) := by decide +kernel
theorem b_77_26_3 : ov_ds ov_m77.2.1 26 [.aload_n 0, .iload_n 2, .iload_n 3] = true := by decide +kernel
theorem d_77_29 : decode ov_m77.2.1 29 = .ok (.invokevirtual 78, 3) := by decide +kernel
theorem d_77_32 : decode ov_m77.2.1 32 = .ok (.ifCond .ne 5, 3) := by decide +kernel
theorem b_77_37_1 : ov_ds ov_m77.2.1 37 [.aload_n 0] = true := by decide +kernel
theorem d_77_38 : decode ov_m77.2.1 38 = .ok (.getfield 15, 3) := by decide +kernel
theorem d_77_41 : decode ov_m77.2.1 41 = .ok (.getfield 190, 3) := by decide +kernel
theorem b_77_44_2 : ov_ds ov_m77.2.1 44 [.iload_n 1, .aload_n 0] = true := by decide +kernel
theorem d_77_46 : decode ov_m77.2.1 46 = .ok (.getfield 81, 3) := by decide +kernel
theorem d_77_49 : decode ov_m77.2.1 49 = .ok (.iastore, 1) := by decide +kernel
theorem b_77_50_2 : ov_ds ov_m77.2.1 50 [.aload_n 0, .bipush 59] = true := by decide +kernel
theorem d_77_53 : decode ov_m77.2.1 53 = .ok (.invokevirtual 92, 3) := by decide +kernel
theorem d_77_56 : decode ov_m77.2.1 56 = .ok (.ireturn, 1) := by decide +kernel
theorem b_77_35_1 : ov_ds ov_m77.2.1 35 [.iconst 0] = true := by decide +kernel
theorem d_77_36 : decode ov_m77.2.1 36 = .ok (.ireturn, 1) := by decide +kernel
theorem b_77_13_2 : ov_ds ov_m77.2.1 13 [.aload_n 0, .iconst 3] = true := by decide +kernel
theorem d_77_15 : decode ov_m77.2.1 15 = .ok (.invokevirtual 58, 3) := by decide +kernel
theorem d_77_18 : decode ov_m77.2.1 18 = .ok (.ireturn, 1) := by decide +kernel
theorem b_64_0_1 : ov_ds ov_m64.2.1 0 [.aload_n 0] = true := by decide +kernel
theorem d_64_1 : decode ov_m64.2.1 1 = .ok (.getfield 9, 3) := by decide +kernel
theorem d_64_4 : decode ov_m64.2.1 4 = .ok (.invokevirtual 75, 3) := by decide +kernel
theorem b_64_7_3 : ov_ds ov_m64.2.1 7 [.aload_n 0, .iconst 0, .aload_n 0] = true := by decide +kernel
theorem d_64_10 : decode ov_m64.2.1 10 = .ok (.getfield 15, 3) := by decide +kernel
theorem d_64_13 : decode ov_m64.2.1 13 = .ok (.getfield 102, 3) := by decide +kernel
theorem b_64_16_2 : ov_ds ov_m64.2.1 16 [.iconst 1, .isub] = true := by decide +kernel
theorem d_64_18 : decode ov_m64.2.1 18 = .ok (.invokevirtual 78, 3) := by decide +kernel
theorem d_64_21 : decode ov_m64.2.1 21 = .ok (.ifCond .ne 5, 3) := by decide +kernel
theorem b_64_26_1 : ov_ds ov_m64.2.1 26 [.aload_n 0] = true := by decide +kernel
theorem d_64_27 : decode ov_m64.2.1 27 = .ok (.getfield 81, 3) := by decide +kernel
theorem b_64_30_4 : ov_ds ov_m64.2.1 30 [.istore_n 1, .aload_n 0, .iconst 0, .aload_n 0] = true := by decide +kernel
theorem d_64_34 : decode ov_m64.2.1 34 = .ok (.getfield 15, 3) := by decide +kernel
theorem d_64_37 : decode ov_m64.2.1 37 = .ok (.getfield 105, 3) := by decide +kernel
theorem b_64_40_2 : ov_ds ov_m64.2.1 40 [.iconst 1, .isub] = true := by decide +kernel
theorem d_64_42 : decode ov_m64.2.1 42 = .ok (.invokevirtual 78, 3) := by decide +kernel
theorem d_64_45 : decode ov_m64.2.1 45 = .ok (.ifCond .ne 5, 3) := by decide +kernel
theorem b_64_50_3 : ov_ds ov_m64.2.1 50 [.iload_n 1, .bipush 6, .aload_n 0] = true := by decide +kernel
theorem d_64_54 : decode ov_m64.2.1 54 = .ok (.getfield 81, 3) := by decide +kernel
theorem b_64_57_4 : ov_ds ov_m64.2.1 57 [.imul, .iadd, .istore_n 1, .aload_n 0] = true := by decide +kernel
theorem d_64_61 : decode ov_m64.2.1 61 = .ok (.invokevirtual 54, 3) := by decide +kernel
theorem b_64_64_3 : ov_ds ov_m64.2.1 64 [.istore_n 2, .iload_n 2, .iconst (-1)] = true := by decide +kernel
theorem d_64_67 : decode ov_m64.2.1 67 = .ok (.if_icmp .ne 9, 3) := by decide +kernel
theorem b_64_76_1 : ov_ds ov_m64.2.1 76 [.aload_n 0] = true := by decide +kernel
theorem d_64_77 : decode ov_m64.2.1 77 = .ok (.getfield 15, 3) := by decide +kernel
theorem b_64_80_2 : ov_ds ov_m64.2.1 80 [.iload_n 1, .iload_n 2] = true := by decide +kernel
theorem d_64_82 : decode ov_m64.2.1 82 = .ok (.invokevirtual 69, 3) := by decide +kernel
theorem d_64_85 : decode ov_m64.2.1 85 = .ok (.ifCond .eq 9, 3) := by decide +kernel
theorem b_64_94_1 : ov_ds ov_m64.2.1 94 [.aload_n 0] = true := by decide +kernel
theorem d_64_95 : decode ov_m64.2.1 95 = .ok (.getfield 15, 3) := by decide +kernel
theorem d_64_98 : decode ov_m64.2.1 98 = .ok (.getfield 187, 3) := by decide +kernel
theorem b_64_101_2 : ov_ds ov_m64.2.1 101 [.iload_n 1, .dup2] = true := by decide +kernel
theorem d_64_103 : decode ov_m64.2.1 103 = .ok (.iaload, 1) := by decide +kernel
theorem b_64_104_4 : ov_ds ov_m64.2.1 104 [.iconst 1, .iload_n 2, .ishl, .ior] = true := by decide +kernel
theorem d_64_108 : decode ov_m64.2.1 108 = .ok (.iastore, 1) := by decide +kernel
theorem b_64_109_1 : ov_ds ov_m64.2.1 109 [.aload_n 0] = true := by decide +kernel
theorem d_64_110 : decode ov_m64.2.1 110 = .ok (.getfield 9, 3) := by decide +kernel
theorem d_64_113 : decode ov_m64.2.1 113 = .ok (.invokevirtual 75, 3) := by decide +kernel
theorem b_64_116_2 : ov_ds ov_m64.2.1 116 [.aload_n 0, .bipush 59] = true := by decide +kernel
theorem d_64_119 : decode ov_m64.2.1 119 = .ok (.invokevirtual 92, 3) := by decide +kernel
theorem d_64_122 : decode ov_m64.2.1 122 = .ok (.ireturn, 1) := by decide +kernel
theorem b_64_88_2 : ov_ds ov_m64.2.1 88 [.aload_n 0, .iconst 3] = true := by decide +kernel
theorem d_64_90 : decode ov_m64.2.1 90 = .ok (.invokevirtual 58, 3) := by decide +kernel
theorem d_64_93 : decode ov_m64.2.1 93 = .ok (.ireturn, 1) := by decide +kernel
theorem b_64_70_2 : ov_ds ov_m64.2.1 70 [.aload_n 0, .iconst 1] = true := by decide +kernel
theorem d_64_72 : decode ov_m64.2.1 72 = .ok (.invokevirtual 58, 3) := by decide +kernel
theorem d_64_75 : decode ov_m64.2.1 75 = .ok (.ireturn, 1) := by decide +kernel
theorem b_64_48_1 : ov_ds ov_m64.2.1 48 [.iconst 0] = true := by decide +kernel
theorem d_64_49 : decode ov_m64.2.1 49 = .ok (.ireturn, 1) := by decide +kernel
theorem b_64_24_1 : ov_ds ov_m64.2.1 24 [.iconst 0] = true := by decide +kernel
theorem d_64_25 : decode ov_m64.2.1 25 = .ok (.ireturn, 1) := by decide +kernel
theorem b_63_0_1 : ov_ds ov_m63.2.1 0 [.aload_n 0] = true := by decide +kernel
theorem d_63_1 : decode ov_m63.2.1 1 = .ok (.ldc2_w 177, 3) := by decide +kernel
theorem d_63_4 : decode ov_m63.2.1 4 = .ok (.invokevirtual 98, 3) := by decide +kernel
theorem d_63_7 : decode ov_m63.2.1 7 = .ok (.ifCond .eq 22, 3) := by decide +kernel
theorem b_63_29_1 : ov_ds ov_m63.2.1 29 [.iconst 0] = true := by decide +kernel
theorem d_63_30 : decode ov_m63.2.1 30 = .ok (.ireturn, 1) := by decide +kernel
theorem b_63_10_3 : ov_ds ov_m63.2.1 10 [.aload_n 0, .iconst 0, .aload_n 0] = true := by decide +kernel
theorem d_63_13 : decode ov_m63.2.1 13 = .ok (.getfield 15, 3) := by decide +kernel
theorem d_63_16 : decode ov_m63.2.1 16 = .ok (.getfield 165, 3) := by decide +kernel
theorem b_63_19_1 : ov_ds ov_m63.2.1 19 [.iload_n 1] = true := by decide +kernel
theorem d_63_20 : decode ov_m63.2.1 20 = .ok (.iaload, 1) := by decide +kernel
theorem b_63_21_2 : ov_ds ov_m63.2.1 21 [.iconst 1, .isub] = true := by decide +kernel
theorem d_63_23 : decode ov_m63.2.1 23 = .ok (.invokevirtual 78, 3) := by decide +kernel
theorem d_63_26 : decode ov_m63.2.1 26 = .ok (.ifCond .ne 5, 3) := by decide +kernel
theorem b_63_31_1 : ov_ds ov_m63.2.1 31 [.aload_n 0] = true := by decide +kernel
theorem d_63_32 : decode ov_m63.2.1 32 = .ok (.getfield 15, 3) := by decide +kernel
theorem d_63_35 : decode ov_m63.2.1 35 = .ok (.getfield 179, 3) := by decide +kernel
theorem b_63_38_2 : ov_ds ov_m63.2.1 38 [.iload_n 1, .aload_n 0] = true := by decide +kernel
theorem d_63_40 : decode ov_m63.2.1 40 = .ok (.getfield 81, 3) := by decide +kernel
theorem d_63_43 : decode ov_m63.2.1 43 = .ok (.iastore, 1) := by decide +kernel
theorem b_63_44_1 : ov_ds ov_m63.2.1 44 [.aload_n 0] = true := by decide +kernel
theorem d_63_45 : decode ov_m63.2.1 45 = .ok (.ldc2_w 182, 3) := by decide +kernel
theorem d_63_48 : decode ov_m63.2.1 48 = .ok (.invokevirtual 98, 3) := by decide +kernel
theorem d_63_51 : decode ov_m63.2.1 51 = .ok (.ifCond .eq 20, 3) := by decide +kernel
theorem b_63_71_1 : ov_ds ov_m63.2.1 71 [.iconst 0] = true := by decide +kernel
theorem d_63_72 : decode ov_m63.2.1 72 = .ok (.ireturn, 1) := by decide +kernel
theorem b_63_54_3 : ov_ds ov_m63.2.1 54 [.aload_n 0, .iconst 0, .aload_n 0] = true := by decide +kernel
theorem d_63_57 : decode ov_m63.2.1 57 = .ok (.getfield 15, 3) := by decide +kernel
theorem d_63_60 : decode ov_m63.2.1 60 = .ok (.getfield 165, 3) := by decide +kernel
theorem b_63_63_1 : ov_ds ov_m63.2.1 63 [.iload_n 1] = true := by decide +kernel
theorem d_63_64 : decode ov_m63.2.1 64 = .ok (.iaload, 1) := by decide +kernel
theorem d_63_65 : decode ov_m63.2.1 65 = .ok (.invokevirtual 78, 3) := by decide +kernel
theorem d_63_68 : decode ov_m63.2.1 68 = .ok (.ifCond .ne 5, 3) := by decide +kernel
theorem b_63_73_1 : ov_ds ov_m63.2.1 73 [.aload_n 0] = true := by decide +kernel
theorem d_63_74 : decode ov_m63.2.1 74 = .ok (.getfield 15, 3) := by decide +kernel
theorem d_63_77 : decode ov_m63.2.1 77 = .ok (.getfield 184, 3) := by decide +kernel
theorem b_63_80_2 : ov_ds ov_m63.2.1 80 [.iload_n 1, .aload_n 0] = true := by decide +kernel
theorem d_63_82 : decode ov_m63.2.1 82 = .ok (.getfield 81, 3) := by decide +kernel
theorem d_63_85 : decode ov_m63.2.1 85 = .ok (.iastore, 1) := by decide +kernel
theorem b_63_86_1 : ov_ds ov_m63.2.1 86 [.iconst 1] = true := by decide +kernel
theorem d_63_87 : decode ov_m63.2.1 87 = .ok (.ireturn, 1) := by decide +kernel
theorem b_60_0_1 : ov_ds ov_m60.2.1 0 [.aload_n 0] = true := by decide +kernel
theorem d_60_1 : decode ov_m60.2.1 1 = .ok (.ldc2_w 163, 3) := by decide +kernel
theorem d_60_4 : decode ov_m60.2.1 4 = .ok (.invokevirtual 98, 3) := by decide +kernel
theorem d_60_7 : decode ov_m60.2.1 7 = .ok (.ifCond .eq 13, 3) := by decide +kernel
theorem b_60_20_1 : ov_ds ov_m60.2.1 20 [.iconst 0] = true := by decide +kernel
theorem d_60_21 : decode ov_m60.2.1 21 = .ok (.ireturn, 1) := by decide +kernel
theorem b_60_10_3 : ov_ds ov_m60.2.1 10 [.aload_n 0, .iconst 1, .bipush 60] = true := by decide +kernel
theorem d_60_14 : decode ov_m60.2.1 14 = .ok (.invokevirtual 143, 3) := by decide +kernel
theorem d_60_17 : decode ov_m60.2.1 17 = .ok (.ifCond .ne 5, 3) := by decide +kernel
theorem b_60_22_1 : ov_ds ov_m60.2.1 22 [.aload_n 0] = true := by decide +kernel
theorem d_60_23 : decode ov_m60.2.1 23 = .ok (.getfield 15, 3) := by decide +kernel
theorem d_60_26 : decode ov_m60.2.1 26 = .ok (.getfield 165, 3) := by decide +kernel
theorem b_60_29_2 : ov_ds ov_m60.2.1 29 [.iload_n 1, .aload_n 0] = true := by decide +kernel
theorem d_60_31 : decode ov_m60.2.1 31 = .ok (.getfield 9, 3) := by decide +kernel
theorem d_60_34 : decode ov_m60.2.1 34 = .ok (.getfield 146, 3) := by decide +kernel
theorem d_60_37 : decode ov_m60.2.1 37 = .ok (.iastore, 1) := by decide +kernel
theorem b_60_38_1 : ov_ds ov_m60.2.1 38 [.aload_n 0] = true := by decide +kernel
theorem d_60_39 : decode ov_m60.2.1 39 = .ok (.getfield 15, 3) := by decide +kernel
theorem b_60_42_1 : ov_ds ov_m60.2.1 42 [.iload_n 1] = true := by decide +kernel
theorem d_60_43 : decode ov_m60.2.1 43 = .ok (.invokevirtual 168, 3) := by decide +kernel
theorem d_60_46 : decode ov_m60.2.1 46 = .ok (.ifCond .eq 42, 3) := by decide +kernel
theorem b_60_88_1 : ov_ds ov_m60.2.1 88 [.aload_n 0] = true := by decide +kernel
theorem d_60_89 : decode ov_m60.2.1 89 = .ok (.getfield 9, 3) := by decide +kernel
theorem d_60_92 : decode ov_m60.2.1 92 = .ok (.invokevirtual 75, 3) := by decide +kernel
theorem b_60_95_1 : ov_ds ov_m60.2.1 95 [.iconst 1] = true := by decide +kernel
theorem d_60_96 : decode ov_m60.2.1 96 = .ok (.ireturn, 1) := by decide +kernel
theorem b_60_49_1 : ov_ds ov_m60.2.1 49 [.aload_n 0] = true := by decide +kernel
theorem d_60_50 : decode ov_m60.2.1 50 = .ok (.getfield 15, 3) := by decide +kernel
theorem d_60_53 : decode ov_m60.2.1 53 = .ok (.getfield 171, 3) := by decide +kernel
theorem b_60_56_1 : ov_ds ov_m60.2.1 56 [.aload_n 0] = true := by decide +kernel
theorem d_60_57 : decode ov_m60.2.1 57 = .ok (.getfield 9, 3) := by decide +kernel
theorem d_60_60 : decode ov_m60.2.1 60 = .ok (.getfield 146, 3) := by decide +kernel
theorem d_60_63 : decode ov_m60.2.1 63 = .ok (.invokestatic 174, 3) := by decide +kernel
theorem b_60_66_3 : ov_ds ov_m60.2.1 66 [.istore_n 2, .iload_n 2, .sipush 1200] = true := by decide +kernel
theorem d_60_71 : decode ov_m60.2.1 71 = .ok (.if_icmp .le 9, 3) := by decide +kernel
theorem b_60_80_1 : ov_ds ov_m60.2.1 80 [.aload_n 0] = true := by decide +kernel
theorem d_60_81 : decode ov_m60.2.1 81 = .ok (.getfield 15, 3) := by decide +kernel
theorem b_60_84_1 : ov_ds ov_m60.2.1 84 [.iload_n 2] = true := by decide +kernel
theorem d_60_85 : decode ov_m60.2.1 85 = .ok (.putfield 171, 3) := by decide +kernel
theorem b_60_74_2 : ov_ds ov_m60.2.1 74 [.aload_n 0, .iconst 4] = true := by decide +kernel
theorem d_60_76 : decode ov_m60.2.1 76 = .ok (.invokevirtual 58, 3) := by decide +kernel
theorem d_60_79 : decode ov_m60.2.1 79 = .ok (.ireturn, 1) := by decide +kernel
theorem b_58_0_1 : ov_ds ov_m58.2.1 0 [.aload_n 0] = true := by decide +kernel
theorem d_58_1 : decode ov_m58.2.1 1 = .ok (.getfield 9, 3) := by decide +kernel
theorem d_58_4 : decode ov_m58.2.1 4 = .ok (.invokevirtual 75, 3) := by decide +kernel
theorem b_58_7_3 : ov_ds ov_m58.2.1 7 [.aload_n 0, .iconst 0, .aload_n 0] = true := by decide +kernel
theorem d_58_10 : decode ov_m58.2.1 10 = .ok (.getfield 15, 3) := by decide +kernel
theorem d_58_13 : decode ov_m58.2.1 13 = .ok (.getfield 102, 3) := by decide +kernel
theorem b_58_16_2 : ov_ds ov_m58.2.1 16 [.iconst 1, .isub] = true := by decide +kernel
theorem d_58_18 : decode ov_m58.2.1 18 = .ok (.invokevirtual 78, 3) := by decide +kernel
theorem d_58_21 : decode ov_m58.2.1 21 = .ok (.ifCond .ne 5, 3) := by decide +kernel
theorem b_58_26_1 : ov_ds ov_m58.2.1 26 [.aload_n 0] = true := by decide +kernel
theorem d_58_27 : decode ov_m58.2.1 27 = .ok (.getfield 81, 3) := by decide +kernel
theorem b_58_30_4 : ov_ds ov_m58.2.1 30 [.istore_n 1, .aload_n 0, .iconst 0, .aload_n 0] = true := by decide +kernel
theorem d_58_34 : decode ov_m58.2.1 34 = .ok (.getfield 15, 3) := by decide +kernel
theorem d_58_37 : decode ov_m58.2.1 37 = .ok (.getfield 105, 3) := by decide +kernel
theorem b_58_40_2 : ov_ds ov_m58.2.1 40 [.iconst 1, .isub] = true := by decide +kernel
theorem d_58_42 : decode ov_m58.2.1 42 = .ok (.invokevirtual 143, 3) := by decide +kernel
theorem d_58_45 : decode ov_m58.2.1 45 = .ok (.ifCond .ne 5, 3) := by decide +kernel
theorem b_58_50_3 : ov_ds ov_m58.2.1 50 [.iload_n 1, .bipush 6, .aload_n 0] = true := by decide +kernel
theorem d_58_54 : decode ov_m58.2.1 54 = .ok (.getfield 9, 3) := by decide +kernel
theorem d_58_57 : decode ov_m58.2.1 57 = .ok (.getfield 146, 3) := by decide +kernel
theorem b_58_60_2 : ov_ds ov_m58.2.1 60 [.imul, .iadd] = true := by decide +kernel
theorem b_58_62_2 : ov_ds ov_m58.2.1 62 [.istore_n 1, .aload_n 0] = true := by decide +kernel
theorem d_58_64 : decode ov_m58.2.1 64 = .ok (.getfield 15, 3) := by decide +kernel
theorem d_58_67 : decode ov_m58.2.1 67 = .ok (.getfield 147, 3) := by decide +kernel
theorem b_58_70_1 : ov_ds ov_m58.2.1 70 [.iload_n 1] = true := by decide +kernel
theorem d_58_71 : decode ov_m58.2.1 71 = .ok (.iaload, 1) := by decide +kernel
theorem b_58_72_1 : ov_ds ov_m58.2.1 72 [.iconst (-1)] = true := by decide +kernel
theorem d_58_73 : decode ov_m58.2.1 73 = .ok (.if_icmp .eq 9, 3) := by decide +kernel
theorem b_58_82_1 : ov_ds ov_m58.2.1 82 [.aload_n 0] = true := by decide +kernel
theorem d_58_83 : decode ov_m58.2.1 83 = .ok (.getfield 9, 3) := by decide +kernel
theorem d_58_86 : decode ov_m58.2.1 86 = .ok (.invokevirtual 75, 3) := by decide +kernel
theorem b_58_89_1 : ov_ds ov_m58.2.1 89 [.aload_n 0] = true := by decide +kernel
theorem d_58_90 : decode ov_m58.2.1 90 = .ok (.invokevirtual 151, 3) := by decide +kernel
theorem b_58_93_3 : ov_ds ov_m58.2.1 93 [.istore_n 2, .iload_n 2, .iconst (-1)] = true := by decide +kernel
theorem d_58_96 : decode ov_m58.2.1 96 = .ok (.if_icmp .ne 9, 3) := by decide +kernel
theorem b_58_105_1 : ov_ds ov_m58.2.1 105 [.aload_n 0] = true := by decide +kernel
theorem d_58_106 : decode ov_m58.2.1 106 = .ok (.getfield 15, 3) := by decide +kernel
theorem d_58_109 : decode ov_m58.2.1 109 = .ok (.getfield 147, 3) := by decide +kernel
theorem b_58_112_2 : ov_ds ov_m58.2.1 112 [.iload_n 1, .iload_n 2] = true := by decide +kernel
theorem d_58_114 : decode ov_m58.2.1 114 = .ok (.iastore, 1) := by decide +kernel
theorem b_58_115_1 : ov_ds ov_m58.2.1 115 [.aload_n 0] = true := by decide +kernel
theorem d_58_116 : decode ov_m58.2.1 116 = .ok (.getfield 15, 3) := by decide +kernel
theorem b_58_119_1 : ov_ds ov_m58.2.1 119 [.dup] = true := by decide +kernel
theorem d_58_120 : decode ov_m58.2.1 120 = .ok (.getfield 154, 3) := by decide +kernel
theorem b_58_123_2 : ov_ds ov_m58.2.1 123 [.iconst 1, .iadd] = true := by decide +kernel
theorem d_58_125 : decode ov_m58.2.1 125 = .ok (.putfield 154, 3) := by decide +kernel
theorem b_58_128_1 : ov_ds ov_m58.2.1 128 [.aload_n 0] = true := by decide +kernel
theorem d_58_129 : decode ov_m58.2.1 129 = .ok (.getfield 9, 3) := by decide +kernel
theorem d_58_132 : decode ov_m58.2.1 132 = .ok (.invokevirtual 75, 3) := by decide +kernel
theorem b_58_135_2 : ov_ds ov_m58.2.1 135 [.aload_n 0, .iload_n 1] = true := by decide +kernel
theorem d_58_137 : decode ov_m58.2.1 137 = .ok (.invokevirtual 157, 3) := by decide +kernel
theorem d_58_140 : decode ov_m58.2.1 140 = .ok (.ifCond .eq 24, 3) := by decide +kernel
theorem b_58_164_1 : ov_ds ov_m58.2.1 164 [.iconst 0] = true := by decide +kernel
theorem d_58_165 : decode ov_m58.2.1 165 = .ok (.ireturn, 1) := by decide +kernel
theorem b_58_143_2 : ov_ds ov_m58.2.1 143 [.aload_n 0, .iload_n 1] = true := by decide +kernel
theorem d_58_145 : decode ov_m58.2.1 145 = .ok (.invokevirtual 160, 3) := by decide +kernel
theorem d_58_148 : decode ov_m58.2.1 148 = .ok (.ifCond .eq 16, 3) := by decide +kernel
theorem b_58_151_2 : ov_ds ov_m58.2.1 151 [.aload_n 0, .bipush 59] = true := by decide +kernel
theorem d_58_154 : decode ov_m58.2.1 154 = .ok (.invokevirtual 92, 3) := by decide +kernel
theorem d_58_157 : decode ov_m58.2.1 157 = .ok (.ifCond .eq 7, 3) := by decide +kernel
theorem b_58_160_1 : ov_ds ov_m58.2.1 160 [.iconst 1] = true := by decide +kernel
theorem d_58_161 : decode ov_m58.2.1 161 = .ok (.goto 4, 3) := by decide +kernel
theorem b_58_99_2 : ov_ds ov_m58.2.1 99 [.aload_n 0, .iconst 1] = true := by decide +kernel
theorem d_58_101 : decode ov_m58.2.1 101 = .ok (.invokevirtual 58, 3) := by decide +kernel
theorem d_58_104 : decode ov_m58.2.1 104 = .ok (.ireturn, 1) := by decide +kernel
theorem b_58_76_2 : ov_ds ov_m58.2.1 76 [.aload_n 0, .iconst 3] = true := by decide +kernel
theorem d_58_78 : decode ov_m58.2.1 78 = .ok (.invokevirtual 58, 3) := by decide +kernel
theorem d_58_81 : decode ov_m58.2.1 81 = .ok (.ireturn, 1) := by decide +kernel
theorem b_58_48_1 : ov_ds ov_m58.2.1 48 [.iconst 0] = true := by decide +kernel
theorem d_58_49 : decode ov_m58.2.1 49 = .ok (.ireturn, 1) := by decide +kernel
theorem b_58_24_1 : ov_ds ov_m58.2.1 24 [.iconst 0] = true := by decide +kernel
theorem d_58_25 : decode ov_m58.2.1 25 = .ok (.ireturn, 1) := by decide +kernel
theorem b_57_0_1 : ov_ds ov_m57.2.1 0 [.aload_n 0] = true := by decide +kernel
theorem d_57_1 : decode ov_m57.2.1 1 = .ok (.getfield 9, 3) := by decide +kernel
theorem d_57_4 : decode ov_m57.2.1 4 = .ok (.ldc2_w 108, 3) := by decide +kernel
theorem d_57_7 : decode ov_m57.2.1 7 = .ok (.invokevirtual 110, 3) := by decide +kernel
theorem d_57_10 : decode ov_m57.2.1 10 = .ok (.ifCond .eq 8, 3) := by decide +kernel
theorem b_57_18_1 : ov_ds ov_m57.2.1 18 [.aload_n 0] = true := by decide +kernel
theorem d_57_19 : decode ov_m57.2.1 19 = .ok (.getfield 9, 3) := by decide +kernel
theorem d_57_22 : decode ov_m57.2.1 22 = .ok (.ldc2_w 116, 3) := by decide +kernel
theorem d_57_25 : decode ov_m57.2.1 25 = .ok (.invokevirtual 110, 3) := by decide +kernel
theorem d_57_28 : decode ov_m57.2.1 28 = .ok (.ifCond .eq 8, 3) := by decide +kernel
theorem b_57_36_1 : ov_ds ov_m57.2.1 36 [.aload_n 0] = true := by decide +kernel
theorem d_57_37 : decode ov_m57.2.1 37 = .ok (.getfield 9, 3) := by decide +kernel
theorem d_57_40 : decode ov_m57.2.1 40 = .ok (.ldc2_w 121, 3) := by decide +kernel
theorem d_57_43 : decode ov_m57.2.1 43 = .ok (.invokevirtual 110, 3) := by decide +kernel
theorem d_57_46 : decode ov_m57.2.1 46 = .ok (.ifCond .eq 8, 3) := by decide +kernel
theorem b_57_54_1 : ov_ds ov_m57.2.1 54 [.aload_n 0] = true := by decide +kernel
theorem d_57_55 : decode ov_m57.2.1 55 = .ok (.getfield 9, 3) := by decide +kernel
theorem d_57_58 : decode ov_m57.2.1 58 = .ok (.ldc2_w 126, 3) := by decide +kernel
theorem d_57_61 : decode ov_m57.2.1 61 = .ok (.invokevirtual 110, 3) := by decide +kernel
theorem d_57_64 : decode ov_m57.2.1 64 = .ok (.ifCond .eq 12, 3) := by decide +kernel
theorem b_57_76_1 : ov_ds ov_m57.2.1 76 [.aload_n 0] = true := by decide +kernel
theorem d_57_77 : decode ov_m57.2.1 77 = .ok (.getfield 9, 3) := by decide +kernel
theorem d_57_80 : decode ov_m57.2.1 80 = .ok (.ldc2_w 132, 3) := by decide +kernel
theorem d_57_83 : decode ov_m57.2.1 83 = .ok (.invokevirtual 110, 3) := by decide +kernel
theorem d_57_86 : decode ov_m57.2.1 86 = .ok (.ifCond .eq 12, 3) := by decide +kernel
theorem b_57_98_1 : ov_ds ov_m57.2.1 98 [.aload_n 0] = true := by decide +kernel
theorem d_57_99 : decode ov_m57.2.1 99 = .ok (.getfield 9, 3) := by decide +kernel
theorem d_57_102 : decode ov_m57.2.1 102 = .ok (.ldc2_w 134, 3) := by decide +kernel
theorem d_57_105 : decode ov_m57.2.1 105 = .ok (.invokevirtual 110, 3) := by decide +kernel
theorem d_57_108 : decode ov_m57.2.1 108 = .ok (.ifCond .eq 12, 3) := by decide +kernel
theorem b_57_120_1 : ov_ds ov_m57.2.1 120 [.aload_n 0] = true := by decide +kernel
theorem d_57_121 : decode ov_m57.2.1 121 = .ok (.getfield 9, 3) := by decide +kernel
theorem d_57_124 : decode ov_m57.2.1 124 = .ok (.ldc2_w 136, 3) := by decide +kernel
theorem d_57_127 : decode ov_m57.2.1 127 = .ok (.invokevirtual 110, 3) := by decide +kernel
theorem d_57_130 : decode ov_m57.2.1 130 = .ok (.ifCond .eq 12, 3) := by decide +kernel
theorem b_57_142_1 : ov_ds ov_m57.2.1 142 [.aload_n 0] = true := by decide +kernel
theorem d_57_143 : decode ov_m57.2.1 143 = .ok (.getfield 9, 3) := by decide +kernel
theorem d_57_146 : decode ov_m57.2.1 146 = .ok (.ldc2_w 138, 3) := by decide +kernel
theorem d_57_149 : decode ov_m57.2.1 149 = .ok (.invokevirtual 110, 3) := by decide +kernel
theorem d_57_152 : decode ov_m57.2.1 152 = .ok (.ifCond .eq 10, 3) := by decide +kernel
theorem b_57_162_2 : ov_ds ov_m57.2.1 162 [.aload_n 0, .iconst 1] = true := by decide +kernel
theorem d_57_164 : decode ov_m57.2.1 164 = .ok (.invokevirtual 58, 3) := by decide +kernel
theorem d_57_167 : decode ov_m57.2.1 167 = .ok (.ireturn, 1) := by decide +kernel
theorem b_57_155_1 : ov_ds ov_m57.2.1 155 [.aload_n 0] = true := by decide +kernel
theorem d_57_156 : decode ov_m57.2.1 156 = .ok (.invokevirtual 140, 3) := by decide +kernel
theorem d_57_159 : decode ov_m57.2.1 159 = .ok (.goto 8, 3) := by decide +kernel
theorem b_57_133_4 : ov_ds ov_m57.2.1 133 [.aload_n 0, .iconst 3, .iconst 0, .bipush 9] = true := by decide +kernel
theorem d_57_138 : decode ov_m57.2.1 138 = .ok (.invokevirtual 128, 3) := by decide +kernel
theorem d_57_141 : decode ov_m57.2.1 141 = .ok (.ireturn, 1) := by decide +kernel
theorem b_57_111_4 : ov_ds ov_m57.2.1 111 [.aload_n 0, .iconst 2, .iconst 1, .bipush 30] = true := by decide +kernel
theorem d_57_116 : decode ov_m57.2.1 116 = .ok (.invokevirtual 128, 3) := by decide +kernel
theorem d_57_119 : decode ov_m57.2.1 119 = .ok (.ireturn, 1) := by decide +kernel
theorem b_57_89_4 : ov_ds ov_m57.2.1 89 [.aload_n 0, .iconst 1, .iconst 1, .bipush 30] = true := by decide +kernel
theorem d_57_94 : decode ov_m57.2.1 94 = .ok (.invokevirtual 128, 3) := by decide +kernel
theorem d_57_97 : decode ov_m57.2.1 97 = .ok (.ireturn, 1) := by decide +kernel
theorem b_57_67_4 : ov_ds ov_m57.2.1 67 [.aload_n 0, .iconst 0, .iconst 1, .bipush 30] = true := by decide +kernel
theorem d_57_72 : decode ov_m57.2.1 72 = .ok (.invokevirtual 128, 3) := by decide +kernel
theorem d_57_75 : decode ov_m57.2.1 75 = .ok (.ireturn, 1) := by decide +kernel
theorem b_57_49_1 : ov_ds ov_m57.2.1 49 [.aload_n 0] = true := by decide +kernel
theorem d_57_50 : decode ov_m57.2.1 50 = .ok (.invokevirtual 123, 3) := by decide +kernel
theorem d_57_53 : decode ov_m57.2.1 53 = .ok (.ireturn, 1) := by decide +kernel
theorem b_57_31_1 : ov_ds ov_m57.2.1 31 [.aload_n 0] = true := by decide +kernel
theorem d_57_32 : decode ov_m57.2.1 32 = .ok (.invokevirtual 118, 3) := by decide +kernel
theorem d_57_35 : decode ov_m57.2.1 35 = .ok (.ireturn, 1) := by decide +kernel
theorem b_57_13_1 : ov_ds ov_m57.2.1 13 [.aload_n 0] = true := by decide +kernel
theorem d_57_14 : decode ov_m57.2.1 14 = .ok (.invokevirtual 113, 3) := by decide +kernel
theorem d_57_17 : decode ov_m57.2.1 17 = .ok (.ireturn, 1) := by decide +kernel
theorem b_49_0_1 : ov_ds ov_m49.2.1 0 [.aload_n 0] = true := by decide +kernel
theorem d_49_1 : decode ov_m49.2.1 1 = .ok (.ldc2_w 96, 3) := by decide +kernel
theorem d_49_4 : decode ov_m49.2.1 4 = .ok (.invokevirtual 98, 3) := by decide +kernel
theorem d_49_7 : decode ov_m49.2.1 7 = .ok (.ifCond .eq 13, 3) := by decide +kernel
theorem b_49_20_1 : ov_ds ov_m49.2.1 20 [.iconst 0] = true := by decide +kernel
theorem d_49_21 : decode ov_m49.2.1 21 = .ok (.ireturn, 1) := by decide +kernel
theorem b_49_10_3 : ov_ds ov_m49.2.1 10 [.aload_n 0, .iconst 1, .bipush 6] = true := by decide +kernel
theorem d_49_14 : decode ov_m49.2.1 14 = .ok (.invokevirtual 78, 3) := by decide +kernel
theorem d_49_17 : decode ov_m49.2.1 17 = .ok (.ifCond .ne 5, 3) := by decide +kernel
theorem b_49_22_1 : ov_ds ov_m49.2.1 22 [.aload_n 0] = true := by decide +kernel
theorem d_49_23 : decode ov_m49.2.1 23 = .ok (.getfield 15, 3) := by decide +kernel
theorem b_49_26_1 : ov_ds ov_m49.2.1 26 [.aload_n 0] = true := by decide +kernel
theorem d_49_27 : decode ov_m49.2.1 27 = .ok (.getfield 81, 3) := by decide +kernel
theorem d_49_30 : decode ov_m49.2.1 30 = .ok (.putfield 102, 3) := by decide +kernel
theorem b_49_33_3 : ov_ds ov_m49.2.1 33 [.aload_n 0, .iconst 1, .bipush 9] = true := by decide +kernel
theorem d_49_37 : decode ov_m49.2.1 37 = .ok (.invokevirtual 78, 3) := by decide +kernel
theorem d_49_40 : decode ov_m49.2.1 40 = .ok (.ifCond .ne 5, 3) := by decide +kernel
theorem b_49_45_1 : ov_ds ov_m49.2.1 45 [.aload_n 0] = true := by decide +kernel
theorem d_49_46 : decode ov_m49.2.1 46 = .ok (.getfield 15, 3) := by decide +kernel
theorem b_49_49_1 : ov_ds ov_m49.2.1 49 [.aload_n 0] = true := by decide +kernel
theorem d_49_50 : decode ov_m49.2.1 50 = .ok (.getfield 81, 3) := by decide +kernel
theorem d_49_53 : decode ov_m49.2.1 53 = .ok (.putfield 105, 3) := by decide +kernel
theorem b_49_56_2 : ov_ds ov_m49.2.1 56 [.aload_n 0, .bipush 59] = true := by decide +kernel
theorem d_49_59 : decode ov_m49.2.1 59 = .ok (.invokevirtual 92, 3) := by decide +kernel
theorem d_49_62 : decode ov_m49.2.1 62 = .ok (.ireturn, 1) := by decide +kernel
theorem b_49_43_1 : ov_ds ov_m49.2.1 43 [.iconst 0] = true := by decide +kernel
theorem d_49_44 : decode ov_m49.2.1 44 = .ok (.ireturn, 1) := by decide +kernel
abbrev P_Tape_begin_1 (F : ov_H) (z : ov_Z) (h : ov_H)  : Option ov_V → ov_Z → ov_H → Prop := fun r0 z' h' => r0 = none ∧ ov_I F z' h' ∧ ((h' 3 3) = (h 3 3) ∧ (h' 36 7) = (h 36 7) ∧ (h' 1 1) = (h 1 1) ∧ (h' 90 2) = (h 90 2) ∧ (h' 0 10) = (h 0 10) ∧ (h' 0 11) = (h 0 11) ∧ (h' 0 12) = (h 0 12) ∧ (h' 0 13) = (h 0 13) ∧ (h' 3 1) = (h 3 1) ∧ (h' 36 8) = (h 36 8) ∧ (h' 46 3) = (h 46 3) ∧ (h' 46 4) = (h 46 4) ∧ (h' 49 4) = (h 49 4) ∧ (h' 49 5) = (h 49 5) ∧ (h' 64 0) = (h 64 0) ∧ (h' 76 0) = (h 76 0))
set_option maxHeartbeats 4000000 in
theorem c_Tape_begin_1 {u : ov_U} {F : ov_H} {z : ov_Z} {h : ov_H} (d : Nat) (hd : 5 ≤ d) (U : ov_cap u) (I : ov_I F z h) (hw : ov_kw 2 F) : ov_T u d ov_m25 [ov_r 1] z h (P_Tape_begin_1 F z h) := by
  refine ov_en rfl (Nat.le_of_ble_eq_true rfl) ?_
  show ov_R u d ov_m25 0 [(0, ov_r 1)] [] z h (P_Tape_begin_1 F z h)
  refine ov_blk (ls2 := [(0, ov_r 1)]) (st2 := [ov_i 0, ov_r 1]) (pc2 := 2) b_25_0_2 rfl rfl ?_
  refine ov_putf (x := 0) d_25_2 fl_Tape_21 (zb_1 I) (zs_1 I) rfl nk_0 rfl ?_
  have I1 := up_1_7 (x := 0) I (by omega) (hw 1 (by decide +kernel))
  refine ov_blk (ls2 := [(0, ov_r 1)]) (st2 := [ov_r 1]) (pc2 := 6) b_25_5_1 rfl rfl ?_
  refine ov_cV (as := []) (st := []) (d2 := d - 1) d_25_6 lk_Tape_24 rfl (Nat.le_of_ble_eq_true rfl) (c := 8) (zb_1 I1) (zs_1 I1) ⟨by decide, rfl⟩ (by omega) (c_Tape_advance_1 (d - 1) (by omega) U I1 (ov_kws hw (by decide +kernel))) ?_
  rintro _ z3 h4 ⟨rfl, I5, f2⟩
  show ov_R u d ov_m25 9 [(0, ov_r 1)] [] z3 h4 (P_Tape_begin_1 F z h)
  have f6 : (h4 3 3) = (h 3 3) ∧ (h4 36 7) = (h 36 7) ∧ (h4 1 1) = (h 1 1) ∧ (h4 90 2) = (h 90 2) ∧ (h4 0 10) = (h 0 10) ∧ (h4 0 11) = (h 0 11) ∧ (h4 0 12) = (h 0 12) ∧ (h4 0 13) = (h 0 13) ∧ (h4 3 1) = (h 3 1) ∧ (h4 36 8) = (h 36 8) ∧ (h4 46 3) = (h 46 3) ∧ (h4 46 4) = (h 46 4) ∧ (h4 49 4) = (h 49 4) ∧ (h4 49 5) = (h 49 5) ∧ (h4 64 0) = (h 64 0) ∧ (h4 76 0) = (h 76 0) := f2
  clear f2
  exact ov_retv (st := []) d_25_9 rfl ⟨rfl, I5, (by show (h4 3 3) = (h 3 3) ∧ (h4 36 7) = (h 36 7) ∧ (h4 1 1) = (h 1 1) ∧ (h4 90 2) = (h 90 2) ∧ (h4 0 10) = (h 0 10) ∧ (h4 0 11) = (h 0 11) ∧ (h4 0 12) = (h 0 12) ∧ (h4 0 13) = (h 0 13) ∧ (h4 3 1) = (h 3 1) ∧ (h4 36 8) = (h 36 8) ∧ (h4 46 3) = (h 46 3) ∧ (h4 46 4) = (h 46 4) ∧ (h4 49 4) = (h 49 4) ∧ (h4 49 5) = (h 49 5) ∧ (h4 64 0) = (h 64 0) ∧ (h4 76 0) = (h 76 0); omega)⟩
abbrev P_Reader_fail_3_k3_1_58 (F : ov_H) (z : ov_Z) (h : ov_H) (k : Int) : Option ov_V → ov_Z → ov_H → Prop := fun r0 z' h' => ∃ r : Int, r0 = some (ov_i r) ∧ ov_I F z' h' ∧ (r = 0 ∧ 1 ≤ (h' 3 2) ∧ (h' 36 7) = (h 36 7) ∧ (h' 1 1) = (h 1 1) ∧ (h' 90 2) = (h 90 2) ∧ (h' 0 10) = (h 0 10) ∧ (h' 0 11) = (h 0 11) ∧ (h' 0 12) = (h 0 12) ∧ (h' 0 13) = (h 0 13) ∧ (h' 3 1) = (h 3 1) ∧ (h' 36 8) = (h 36 8) ∧ (h' 46 3) = (h 46 3) ∧ (h' 46 4) = (h 46 4) ∧ (h' 49 4) = (h 49 4) ∧ (h' 49 5) = (h 49 5) ∧ (h' 64 0) = (h 64 0) ∧ (h' 76 0) = (h 76 0))
set_option maxHeartbeats 4000000 in
theorem c_Reader_fail_3_k3_1_58 {u : ov_U} {F : ov_H} {z : ov_Z} {h : ov_H} (d : Nat) (hd : 0 ≤ d) (U : ov_cap u) (I : ov_I F z h) (hw : ov_kw 8 F) (k : Int) (k0 : h 3 1 = 58) (g_k : ov_g k) (p0 : 1 ≤ k ∧ k ≤ 5) : ov_T u d ov_m52 [ov_r 3, ov_i k] z h (P_Reader_fail_3_k3_1_58 F z h k) := by
  refine ov_en rfl (Nat.le_of_ble_eq_true rfl) ?_
  show ov_R u d ov_m52 0 [(0, ov_r 3), (1, ov_i k)] [] z h (P_Reader_fail_3_k3_1_58 F z h k)
  refine ov_blk (ls2 := [(0, ov_r 3), (1, ov_i k)]) (st2 := [ov_r 3, ov_i 16, ov_i k, ov_r 3]) (pc2 := 5) b_52_0_4 rfl rfl ?_
  refine ov_getf (v := ov_r 1) d_52_5 fl_Reader_9 (zb_3 I) (zs_3 I) (congrArg ov_r (rg_3_0 I)) ?_
  refine ov_getf (v := ov_i (h 1 3)) d_52_8 fl_Reader_263 (zb_1 I) (zs_1 I) rfl ?_
  have g1 := rg_1_3 I
  refine ov_blk (ls2 := [(0, ov_r 3), (1, ov_i k)]) (st2 := [ov_i (k + (16 * (h 1 3))), ov_r 3]) (pc2 := 13) b_52_11_2 rfl rfl ?_
  refine ov_putf (x := (k + (16 * (h 1 3)))) d_52_13 fl_Reader_24 (zb_3 I) (zs_3 I) rfl nk_0 rfl ?_
  have I2 := up_3_2 (x := (k + (16 * (h 1 3)))) I (by omega) (hw 3 (by decide +kernel))
  refine ov_blk (ls2 := [(0, ov_r 3), (1, ov_i k)]) (st2 := [ov_i 0]) (pc2 := 17) b_52_16_1 rfl rfl ?_
  exact ov_retz (st := []) d_52_17 rfl (by omega) ⟨_, rfl, I2, (by show 0 = 0 ∧ 1 ≤ (k + (16 * (h 1 3))) ∧ (h 36 7) = (h 36 7) ∧ (h 1 1) = (h 1 1) ∧ (h 90 2) = (h 90 2) ∧ (h 0 10) = (h 0 10) ∧ (h 0 11) = (h 0 11) ∧ (h 0 12) = (h 0 12) ∧ (h 0 13) = (h 0 13) ∧ (h 3 1) = (h 3 1) ∧ (h 36 8) = (h 36 8) ∧ (h 46 3) = (h 46 3) ∧ (h 46 4) = (h 46 4) ∧ (h 49 4) = (h 49 4) ∧ (h 49 5) = (h 49 5) ∧ (h 64 0) = (h 64 0) ∧ (h 76 0) = (h 76 0); omega)⟩
abbrev P_Reader_isNumber_3_k3_1_58 (F : ov_H) (z : ov_Z) (h : ov_H) (a : Int) (b : Int) : Option ov_V → ov_Z → ov_H → Prop := fun r0 z' h' => ∃ r : Int, r0 = some (ov_i r) ∧ ov_I F z' h' ∧ ((r = 0 ∧ 1 ≤ (h' 3 2) ∨ r = 1 ∧ a ≤ (h' 1 4) ∧ (h' 1 4) ≤ b) ∧ (h' 36 7) = (h 36 7) ∧ (h' 1 1) = (h 1 1) ∧ (h' 90 2) = (h 90 2) ∧ (h' 0 10) = (h 0 10) ∧ (h' 0 11) = (h 0 11) ∧ (h' 0 12) = (h 0 12) ∧ (h' 0 13) = (h 0 13) ∧ (h' 3 1) = (h 3 1) ∧ (h' 36 8) = (h 36 8) ∧ (h' 46 3) = (h 46 3) ∧ (h' 46 4) = (h 46 4) ∧ (h' 49 4) = (h 49 4) ∧ (h' 49 5) = (h 49 5) ∧ (h' 64 0) = (h 64 0) ∧ (h' 76 0) = (h 76 0))
set_option maxHeartbeats 4000000 in
theorem c_Reader_isNumber_3_k3_1_58 {u : ov_U} {F : ov_H} {z : ov_Z} {h : ov_H} (d : Nat) (hd : 1 ≤ d) (U : ov_cap u) (I : ov_I F z h) (hw : ov_kw 8 F) (a : Int) (b : Int) (k0 : h 3 1 = 58) (g_a : ov_g a) (g_b : ov_g b) : ov_T u d ov_m54 [ov_r 3, ov_i a, ov_i b] z h (P_Reader_isNumber_3_k3_1_58 F z h a b) := by
  refine ov_en rfl (Nat.le_of_ble_eq_true rfl) ?_
  show ov_R u d ov_m54 0 [(0, ov_r 3), (1, ov_i a), (2, ov_i b)] [] z h (P_Reader_isNumber_3_k3_1_58 F z h a b)
  refine ov_blk (ls2 := [(0, ov_r 3), (1, ov_i a), (2, ov_i b)]) (st2 := [ov_r 3]) (pc2 := 1) b_54_0_1 rfl rfl ?_
  refine ov_getf (v := ov_r 1) d_54_1 fl_Reader_9 (zb_3 I) (zs_3 I) (congrArg ov_r (rg_3_0 I)) ?_
  refine ov_getf (v := ov_i (h 1 2)) d_54_4 fl_Reader_37 (zb_1 I) (zs_1 I) rfl ?_
  have g1 := rg_1_2 I
  refine ov_blk (ls2 := [(0, ov_r 3), (1, ov_i a), (2, ov_i b)]) (st2 := [ov_i 3, ov_i (h 1 2)]) (pc2 := 8) b_54_7_1 rfl rfl ?_
  refine ov_iceq (tgt := 17) d_54_8 (by decide) (by omega) (by omega) (fun c2 => ?_) (fun c2 => ?_)
  · skip
    refine ov_blk (ls2 := [(0, ov_r 3), (1, ov_i a), (2, ov_i b)]) (st2 := [ov_r 3]) (pc2 := 18) b_54_17_1 rfl rfl ?_
    refine ov_getf (v := ov_r 1) d_54_18 fl_Reader_9 (zb_3 I) (zs_3 I) (congrArg ov_r (rg_3_0 I)) ?_
    refine ov_getf (v := ov_i (h 1 4)) d_54_21 fl_Reader_146 (zb_1 I) (zs_1 I) rfl ?_
    have g3 := rg_1_4 I
    refine ov_blk (ls2 := [(0, ov_r 3), (1, ov_i a), (2, ov_i b)]) (st2 := [ov_i a, ov_i (h 1 4)]) (pc2 := 25) b_54_24_1 rfl rfl ?_
    refine ov_iclt (tgt := 39) d_54_25 (by decide) (by omega) (by omega) (fun c4 => ?_) (fun c4 => ?_)
    · skip
      refine ov_blk (ls2 := [(0, ov_r 3), (1, ov_i a), (2, ov_i b)]) (st2 := [ov_i 4, ov_r 3]) (pc2 := 41) b_54_39_2 rfl rfl ?_
      refine ov_cV (as := [ov_i 4]) (st := []) (d2 := d - 1) d_54_41 lk_Reader_58 rfl (Nat.le_of_ble_eq_true rfl) (c := 6) (zb_3 I) (zs_3 I) ⟨by decide, rfl⟩ (by omega) (c_Reader_fail_3_k3_1_58 (d - 1) (by omega) U I (ov_kws hw (by decide +kernel)) 4 k0 (by omega) (by omega)) ?_
      rintro _ z7 h8 ⟨v6, rfl, I9, f5⟩
      show ov_R u d ov_m54 44 [(0, ov_r 3), (1, ov_i a), (2, ov_i b)] [ov_i v6] z7 h8 (P_Reader_isNumber_3_k3_1_58 F z h a b)
      have f10 : v6 = 0 ∧ 1 ≤ (h8 3 2) ∧ (h8 36 7) = (h 36 7) ∧ (h8 1 1) = (h 1 1) ∧ (h8 90 2) = (h 90 2) ∧ (h8 0 10) = (h 0 10) ∧ (h8 0 11) = (h 0 11) ∧ (h8 0 12) = (h 0 12) ∧ (h8 0 13) = (h 0 13) ∧ (h8 3 1) = (h 3 1) ∧ (h8 36 8) = (h 36 8) ∧ (h8 46 3) = (h 46 3) ∧ (h8 46 4) = (h 46 4) ∧ (h8 49 4) = (h 49 4) ∧ (h8 49 5) = (h 49 5) ∧ (h8 64 0) = (h 64 0) ∧ (h8 76 0) = (h 76 0) := f5
      clear f5
      have e11 : h8 3 1 = 58 := by omega
      refine ov_ifeq (tgt := 51) d_54_44 (by decide) (by omega) (fun c12 => ?_) (fun c12 => ?_)
      · skip
        refine ov_blk (ls2 := [(0, ov_r 3), (1, ov_i a), (2, ov_i b)]) (st2 := [ov_i 0]) (pc2 := 52) b_54_51_1 rfl rfl ?_
        exact ov_retz (st := []) d_54_52 rfl (by omega) ⟨_, rfl, I9, (by show (0 = 0 ∧ 1 ≤ (h8 3 2) ∨ 0 = 1 ∧ a ≤ (h8 1 4) ∧ (h8 1 4) ≤ b) ∧ (h8 36 7) = (h 36 7) ∧ (h8 1 1) = (h 1 1) ∧ (h8 90 2) = (h 90 2) ∧ (h8 0 10) = (h 0 10) ∧ (h8 0 11) = (h 0 11) ∧ (h8 0 12) = (h 0 12) ∧ (h8 0 13) = (h 0 13) ∧ (h8 3 1) = (h 3 1) ∧ (h8 36 8) = (h 36 8) ∧ (h8 46 3) = (h 46 3) ∧ (h8 46 4) = (h 46 4) ∧ (h8 49 4) = (h 49 4) ∧ (h8 49 5) = (h 49 5) ∧ (h8 64 0) = (h 64 0) ∧ (h8 76 0) = (h 76 0); omega)⟩
      · skip
        refine ov_blk (ls2 := [(0, ov_r 3), (1, ov_i a), (2, ov_i b)]) (st2 := [ov_i 1]) (pc2 := 48) b_54_47_1 rfl rfl ?_
        refine ov_goto (tgt := 52) d_54_48 (by decide) ?_
        exact ov_retz (st := []) d_54_52 rfl (by omega) ⟨_, rfl, I9, (by show (1 = 0 ∧ 1 ≤ (h8 3 2) ∨ 1 = 1 ∧ a ≤ (h8 1 4) ∧ (h8 1 4) ≤ b) ∧ (h8 36 7) = (h 36 7) ∧ (h8 1 1) = (h 1 1) ∧ (h8 90 2) = (h 90 2) ∧ (h8 0 10) = (h 0 10) ∧ (h8 0 11) = (h 0 11) ∧ (h8 0 12) = (h 0 12) ∧ (h8 0 13) = (h 0 13) ∧ (h8 3 1) = (h 3 1) ∧ (h8 36 8) = (h 36 8) ∧ (h8 46 3) = (h 46 3) ∧ (h8 46 4) = (h 46 4) ∧ (h8 49 4) = (h 49 4) ∧ (h8 49 5) = (h 49 5) ∧ (h8 64 0) = (h 64 0) ∧ (h8 76 0) = (h 76 0); omega)⟩
    · skip
      refine ov_blk (ls2 := [(0, ov_r 3), (1, ov_i a), (2, ov_i b)]) (st2 := [ov_r 3]) (pc2 := 29) b_54_28_1 rfl rfl ?_
      refine ov_getf (v := ov_r 1) d_54_29 fl_Reader_9 (zb_3 I) (zs_3 I) (congrArg ov_r (rg_3_0 I)) ?_
      refine ov_getf (v := ov_i (h 1 4)) d_54_32 fl_Reader_146 (zb_1 I) (zs_1 I) rfl ?_
      refine ov_blk (ls2 := [(0, ov_r 3), (1, ov_i a), (2, ov_i b)]) (st2 := [ov_i b, ov_i (h 1 4)]) (pc2 := 36) b_54_35_1 rfl rfl ?_
      refine ov_icle (tgt := 47) d_54_36 (by decide) (by omega) (by omega) (fun c14 => ?_) (fun c14 => ?_)
      · skip
        refine ov_blk (ls2 := [(0, ov_r 3), (1, ov_i a), (2, ov_i b)]) (st2 := [ov_i 1]) (pc2 := 48) b_54_47_1 rfl rfl ?_
        refine ov_goto (tgt := 52) d_54_48 (by decide) ?_
        exact ov_retz (st := []) d_54_52 rfl (by omega) ⟨_, rfl, I, (by show (1 = 0 ∧ 1 ≤ (h 3 2) ∨ 1 = 1 ∧ a ≤ (h 1 4) ∧ (h 1 4) ≤ b) ∧ (h 36 7) = (h 36 7) ∧ (h 1 1) = (h 1 1) ∧ (h 90 2) = (h 90 2) ∧ (h 0 10) = (h 0 10) ∧ (h 0 11) = (h 0 11) ∧ (h 0 12) = (h 0 12) ∧ (h 0 13) = (h 0 13) ∧ (h 3 1) = (h 3 1) ∧ (h 36 8) = (h 36 8) ∧ (h 46 3) = (h 46 3) ∧ (h 46 4) = (h 46 4) ∧ (h 49 4) = (h 49 4) ∧ (h 49 5) = (h 49 5) ∧ (h 64 0) = (h 64 0) ∧ (h 76 0) = (h 76 0); omega)⟩
      · skip
        refine ov_blk (ls2 := [(0, ov_r 3), (1, ov_i a), (2, ov_i b)]) (st2 := [ov_i 4, ov_r 3]) (pc2 := 41) b_54_39_2 rfl rfl ?_
        refine ov_cV (as := [ov_i 4]) (st := []) (d2 := d - 1) d_54_41 lk_Reader_58 rfl (Nat.le_of_ble_eq_true rfl) (c := 6) (zb_3 I) (zs_3 I) ⟨by decide, rfl⟩ (by omega) (c_Reader_fail_3_k3_1_58 (d - 1) (by omega) U I (ov_kws hw (by decide +kernel)) 4 k0 (by omega) (by omega)) ?_
        rintro _ z17 h18 ⟨v16, rfl, I19, f15⟩
        show ov_R u d ov_m54 44 [(0, ov_r 3), (1, ov_i a), (2, ov_i b)] [ov_i v16] z17 h18 (P_Reader_isNumber_3_k3_1_58 F z h a b)
        have f20 : v16 = 0 ∧ 1 ≤ (h18 3 2) ∧ (h18 36 7) = (h 36 7) ∧ (h18 1 1) = (h 1 1) ∧ (h18 90 2) = (h 90 2) ∧ (h18 0 10) = (h 0 10) ∧ (h18 0 11) = (h 0 11) ∧ (h18 0 12) = (h 0 12) ∧ (h18 0 13) = (h 0 13) ∧ (h18 3 1) = (h 3 1) ∧ (h18 36 8) = (h 36 8) ∧ (h18 46 3) = (h 46 3) ∧ (h18 46 4) = (h 46 4) ∧ (h18 49 4) = (h 49 4) ∧ (h18 49 5) = (h 49 5) ∧ (h18 64 0) = (h 64 0) ∧ (h18 76 0) = (h 76 0) := f15
        clear f15
        have e21 : h18 3 1 = 58 := by omega
        refine ov_ifeq (tgt := 51) d_54_44 (by decide) (by omega) (fun c22 => ?_) (fun c22 => ?_)
        · skip
          refine ov_blk (ls2 := [(0, ov_r 3), (1, ov_i a), (2, ov_i b)]) (st2 := [ov_i 0]) (pc2 := 52) b_54_51_1 rfl rfl ?_
          exact ov_retz (st := []) d_54_52 rfl (by omega) ⟨_, rfl, I19, (by show (0 = 0 ∧ 1 ≤ (h18 3 2) ∨ 0 = 1 ∧ a ≤ (h18 1 4) ∧ (h18 1 4) ≤ b) ∧ (h18 36 7) = (h 36 7) ∧ (h18 1 1) = (h 1 1) ∧ (h18 90 2) = (h 90 2) ∧ (h18 0 10) = (h 0 10) ∧ (h18 0 11) = (h 0 11) ∧ (h18 0 12) = (h 0 12) ∧ (h18 0 13) = (h 0 13) ∧ (h18 3 1) = (h 3 1) ∧ (h18 36 8) = (h 36 8) ∧ (h18 46 3) = (h 46 3) ∧ (h18 46 4) = (h 46 4) ∧ (h18 49 4) = (h 49 4) ∧ (h18 49 5) = (h 49 5) ∧ (h18 64 0) = (h 64 0) ∧ (h18 76 0) = (h 76 0); omega)⟩
        · skip
          refine ov_blk (ls2 := [(0, ov_r 3), (1, ov_i a), (2, ov_i b)]) (st2 := [ov_i 1]) (pc2 := 48) b_54_47_1 rfl rfl ?_
          refine ov_goto (tgt := 52) d_54_48 (by decide) ?_
          exact ov_retz (st := []) d_54_52 rfl (by omega) ⟨_, rfl, I19, (by show (1 = 0 ∧ 1 ≤ (h18 3 2) ∨ 1 = 1 ∧ a ≤ (h18 1 4) ∧ (h18 1 4) ≤ b) ∧ (h18 36 7) = (h 36 7) ∧ (h18 1 1) = (h 1 1) ∧ (h18 90 2) = (h 90 2) ∧ (h18 0 10) = (h 0 10) ∧ (h18 0 11) = (h 0 11) ∧ (h18 0 12) = (h 0 12) ∧ (h18 0 13) = (h 0 13) ∧ (h18 3 1) = (h 3 1) ∧ (h18 36 8) = (h 36 8) ∧ (h18 46 3) = (h 46 3) ∧ (h18 46 4) = (h 46 4) ∧ (h18 49 4) = (h 49 4) ∧ (h18 49 5) = (h 49 5) ∧ (h18 64 0) = (h 64 0) ∧ (h18 76 0) = (h 76 0); omega)⟩
  · skip
    refine ov_blk (ls2 := [(0, ov_r 3), (1, ov_i a), (2, ov_i b)]) (st2 := [ov_i 1, ov_r 3]) (pc2 := 13) b_54_11_2 rfl rfl ?_
    refine ov_cV (as := [ov_i 1]) (st := []) (d2 := d - 1) d_54_13 lk_Reader_58 rfl (Nat.le_of_ble_eq_true rfl) (c := 6) (zb_3 I) (zs_3 I) ⟨by decide, rfl⟩ (by omega) (c_Reader_fail_3_k3_1_58 (d - 1) (by omega) U I (ov_kws hw (by decide +kernel)) 1 k0 (by omega) (by omega)) ?_
    rintro _ z25 h26 ⟨v24, rfl, I27, f23⟩
    show ov_R u d ov_m54 16 [(0, ov_r 3), (1, ov_i a), (2, ov_i b)] [ov_i v24] z25 h26 (P_Reader_isNumber_3_k3_1_58 F z h a b)
    have f28 : v24 = 0 ∧ 1 ≤ (h26 3 2) ∧ (h26 36 7) = (h 36 7) ∧ (h26 1 1) = (h 1 1) ∧ (h26 90 2) = (h 90 2) ∧ (h26 0 10) = (h 0 10) ∧ (h26 0 11) = (h 0 11) ∧ (h26 0 12) = (h 0 12) ∧ (h26 0 13) = (h 0 13) ∧ (h26 3 1) = (h 3 1) ∧ (h26 36 8) = (h 36 8) ∧ (h26 46 3) = (h 46 3) ∧ (h26 46 4) = (h 46 4) ∧ (h26 49 4) = (h 49 4) ∧ (h26 49 5) = (h 49 5) ∧ (h26 64 0) = (h 64 0) ∧ (h26 76 0) = (h 76 0) := f23
    clear f23
    have e29 : h26 3 1 = 58 := by omega
    exact ov_retz (st := []) d_54_16 rfl (by omega) ⟨_, rfl, I27, (by show (v24 = 0 ∧ 1 ≤ (h26 3 2) ∨ v24 = 1 ∧ a ≤ (h26 1 4) ∧ (h26 1 4) ≤ b) ∧ (h26 36 7) = (h 36 7) ∧ (h26 1 1) = (h 1 1) ∧ (h26 90 2) = (h 90 2) ∧ (h26 0 10) = (h 0 10) ∧ (h26 0 11) = (h 0 11) ∧ (h26 0 12) = (h 0 12) ∧ (h26 0 13) = (h 0 13) ∧ (h26 3 1) = (h 3 1) ∧ (h26 36 8) = (h 36 8) ∧ (h26 46 3) = (h 46 3) ∧ (h26 46 4) = (h 46 4) ∧ (h26 49 4) = (h 49 4) ∧ (h26 49 5) = (h 49 5) ∧ (h26 64 0) = (h 64 0) ∧ (h26 76 0) = (h 76 0); omega)⟩
abbrev P_Reader_takeNumber_3_k3_1_58 (F : ov_H) (z : ov_Z) (h : ov_H) (a : Int) (b : Int) : Option ov_V → ov_Z → ov_H → Prop := fun r0 z' h' => ∃ r : Int, r0 = some (ov_i r) ∧ ov_I F z' h' ∧ ((r = 0 ∧ 1 ≤ (h' 3 2) ∨ r = 1 ∧ a ≤ (h' 3 3) ∧ (h' 3 3) ≤ b) ∧ (h' 36 7) = (h 36 7) ∧ (h' 1 1) = (h 1 1) ∧ (h' 90 2) = (h 90 2) ∧ (h' 0 10) = (h 0 10) ∧ (h' 0 11) = (h 0 11) ∧ (h' 0 12) = (h 0 12) ∧ (h' 0 13) = (h 0 13) ∧ (h' 3 1) = (h 3 1) ∧ (h' 36 8) = (h 36 8) ∧ (h' 46 3) = (h 46 3) ∧ (h' 46 4) = (h 46 4) ∧ (h' 49 4) = (h 49 4) ∧ (h' 49 5) = (h 49 5) ∧ (h' 64 0) = (h 64 0) ∧ (h' 76 0) = (h 76 0))
set_option maxHeartbeats 4000000 in
theorem c_Reader_takeNumber_3_k3_1_58 {u : ov_U} {F : ov_H} {z : ov_Z} {h : ov_H} (d : Nat) (hd : 5 ≤ d) (U : ov_cap u) (I : ov_I F z h) (hw : ov_kw 10 F) (a : Int) (b : Int) (k0 : h 3 1 = 58) (g_a : ov_g a) (g_b : ov_g b) : ov_T u d ov_m53 [ov_r 3, ov_i a, ov_i b] z h (P_Reader_takeNumber_3_k3_1_58 F z h a b) := by
  refine ov_en rfl (Nat.le_of_ble_eq_true rfl) ?_
  show ov_R u d ov_m53 0 [(0, ov_r 3), (1, ov_i a), (2, ov_i b)] [] z h (P_Reader_takeNumber_3_k3_1_58 F z h a b)
  refine ov_blk (ls2 := [(0, ov_r 3), (1, ov_i a), (2, ov_i b)]) (st2 := [ov_i b, ov_i a, ov_r 3]) (pc2 := 3) b_53_0_3 rfl rfl ?_
  refine ov_cV (as := [ov_i a, ov_i b]) (st := []) (d2 := d - 1) d_53_3 lk_Reader_143 rfl (Nat.le_of_ble_eq_true rfl) (c := 6) (zb_3 I) (zs_3 I) ⟨by decide, rfl⟩ (by omega) (c_Reader_isNumber_3_k3_1_58 (d - 1) (by omega) U I (ov_kws hw (by decide +kernel)) a b k0 (by omega) (by omega)) ?_
  rintro _ z3 h4 ⟨v2, rfl, I5, f1⟩
  show ov_R u d ov_m53 6 [(0, ov_r 3), (1, ov_i a), (2, ov_i b)] [ov_i v2] z3 h4 (P_Reader_takeNumber_3_k3_1_58 F z h a b)
  have f6 : (v2 = 0 ∧ 1 ≤ (h4 3 2) ∨ v2 = 1 ∧ a ≤ (h4 1 4) ∧ (h4 1 4) ≤ b) ∧ (h4 36 7) = (h 36 7) ∧ (h4 1 1) = (h 1 1) ∧ (h4 90 2) = (h 90 2) ∧ (h4 0 10) = (h 0 10) ∧ (h4 0 11) = (h 0 11) ∧ (h4 0 12) = (h 0 12) ∧ (h4 0 13) = (h 0 13) ∧ (h4 3 1) = (h 3 1) ∧ (h4 36 8) = (h 36 8) ∧ (h4 46 3) = (h 46 3) ∧ (h4 46 4) = (h 46 4) ∧ (h4 49 4) = (h 49 4) ∧ (h4 49 5) = (h 49 5) ∧ (h4 64 0) = (h 64 0) ∧ (h4 76 0) = (h 76 0) := f1
  clear f1
  have e7 : h4 3 1 = 58 := by omega
  refine ov_ifne (tgt := 11) d_53_6 (by decide) (by omega) (fun c8 => ?_) (fun c8 => ?_)
  · skip
    refine ov_blk (ls2 := [(0, ov_r 3), (1, ov_i a), (2, ov_i b)]) (st2 := [ov_r 3, ov_r 3]) (pc2 := 13) b_53_11_2 rfl rfl ?_
    refine ov_getf (v := ov_r 1) d_53_13 fl_Reader_9 (zb_3 I5) (zs_3 I5) (congrArg ov_r (rg_3_0 I5)) ?_
    refine ov_getf (v := ov_i (h4 1 4)) d_53_16 fl_Reader_146 (zb_1 I5) (zs_1 I5) rfl ?_
    have g9 := rg_1_4 I5
    refine ov_putf (x := (h4 1 4)) d_53_19 fl_Reader_81 (zb_3 I5) (zs_3 I5) rfl nk_0 rfl ?_
    have I10 := up_3_3 (x := (h4 1 4)) I5 (by omega) (hw 3 (by decide +kernel))
    refine ov_blk (ls2 := [(0, ov_r 3), (1, ov_i a), (2, ov_i b)]) (st2 := [ov_r 3]) (pc2 := 23) b_53_22_1 rfl rfl ?_
    refine ov_getf (v := ov_r 1) d_53_23 fl_Reader_9 (zb_3 I10) (zs_3 I10) (congrArg ov_r (rg_3_0 I10)) ?_
    refine ov_cV (as := []) (st := []) (d2 := d - 1) d_53_26 lk_Reader_75 rfl (Nat.le_of_ble_eq_true rfl) (c := 8) (zb_1 I10) (zs_1 I10) ⟨by decide, rfl⟩ (by omega) (c_Tape_advance_1 (d - 1) (by omega) U I10 (ov_kws hw (by decide +kernel))) ?_
    rintro _ z12 h13 ⟨rfl, I14, f11⟩
    show ov_R u d ov_m53 29 [(0, ov_r 3), (1, ov_i a), (2, ov_i b)] [] z12 h13 (P_Reader_takeNumber_3_k3_1_58 F z h a b)
    have f15 : (h13 3 3) = (h4 1 4) ∧ (h13 36 7) = (h4 36 7) ∧ (h13 1 1) = (h4 1 1) ∧ (h13 90 2) = (h4 90 2) ∧ (h13 0 10) = (h4 0 10) ∧ (h13 0 11) = (h4 0 11) ∧ (h13 0 12) = (h4 0 12) ∧ (h13 0 13) = (h4 0 13) ∧ (h13 3 1) = (h4 3 1) ∧ (h13 36 8) = (h4 36 8) ∧ (h13 46 3) = (h4 46 3) ∧ (h13 46 4) = (h4 46 4) ∧ (h13 49 4) = (h4 49 4) ∧ (h13 49 5) = (h4 49 5) ∧ (h13 64 0) = (h4 64 0) ∧ (h13 76 0) = (h4 76 0) := f11
    clear f11
    have e16 : h13 3 1 = 58 := by omega
    refine ov_blk (ls2 := [(0, ov_r 3), (1, ov_i a), (2, ov_i b)]) (st2 := [ov_i 1]) (pc2 := 30) b_53_29_1 rfl rfl ?_
    exact ov_retz (st := []) d_53_30 rfl (by omega) ⟨_, rfl, I14, (by show (1 = 0 ∧ 1 ≤ (h13 3 2) ∨ 1 = 1 ∧ a ≤ (h13 3 3) ∧ (h13 3 3) ≤ b) ∧ (h13 36 7) = (h 36 7) ∧ (h13 1 1) = (h 1 1) ∧ (h13 90 2) = (h 90 2) ∧ (h13 0 10) = (h 0 10) ∧ (h13 0 11) = (h 0 11) ∧ (h13 0 12) = (h 0 12) ∧ (h13 0 13) = (h 0 13) ∧ (h13 3 1) = (h 3 1) ∧ (h13 36 8) = (h 36 8) ∧ (h13 46 3) = (h 46 3) ∧ (h13 46 4) = (h 46 4) ∧ (h13 49 4) = (h 49 4) ∧ (h13 49 5) = (h 49 5) ∧ (h13 64 0) = (h 64 0) ∧ (h13 76 0) = (h 76 0); omega)⟩
  · skip
    refine ov_blk (ls2 := [(0, ov_r 3), (1, ov_i a), (2, ov_i b)]) (st2 := [ov_i 0]) (pc2 := 10) b_53_9_1 rfl rfl ?_
    exact ov_retz (st := []) d_53_10 rfl (by omega) ⟨_, rfl, I5, (by show (0 = 0 ∧ 1 ≤ (h4 3 2) ∨ 0 = 1 ∧ a ≤ (h4 3 3) ∧ (h4 3 3) ≤ b) ∧ (h4 36 7) = (h 36 7) ∧ (h4 1 1) = (h 1 1) ∧ (h4 90 2) = (h 90 2) ∧ (h4 0 10) = (h 0 10) ∧ (h4 0 11) = (h 0 11) ∧ (h4 0 12) = (h 0 12) ∧ (h4 0 13) = (h 0 13) ∧ (h4 3 1) = (h 3 1) ∧ (h4 36 8) = (h 36 8) ∧ (h4 46 3) = (h 46 3) ∧ (h4 46 4) = (h 46 4) ∧ (h4 49 4) = (h 49 4) ∧ (h4 49 5) = (h 49 5) ∧ (h4 64 0) = (h 64 0) ∧ (h4 76 0) = (h 76 0); omega)⟩
abbrev P_Reader_takeSign_3_k3_1_58 (F : ov_H) (z : ov_Z) (h : ov_H) (c : Int) : Option ov_V → ov_Z → ov_H → Prop := fun r0 z' h' => ∃ r : Int, r0 = some (ov_i r) ∧ ov_I F z' h' ∧ ((r = 0 ∧ 1 ≤ (h' 3 2) ∨ r = 1) ∧ (h' 36 7) = (h 36 7) ∧ (h' 1 1) = (h 1 1) ∧ (h' 90 2) = (h 90 2) ∧ (h' 0 10) = (h 0 10) ∧ (h' 0 11) = (h 0 11) ∧ (h' 0 12) = (h 0 12) ∧ (h' 0 13) = (h 0 13) ∧ (h' 3 1) = (h 3 1) ∧ (h' 36 8) = (h 36 8) ∧ (h' 46 3) = (h 46 3) ∧ (h' 46 4) = (h 46 4) ∧ (h' 49 4) = (h 49 4) ∧ (h' 49 5) = (h 49 5) ∧ (h' 64 0) = (h 64 0) ∧ (h' 76 0) = (h 76 0))
set_option maxHeartbeats 4000000 in
theorem c_Reader_takeSign_3_k3_1_58 {u : ov_U} {F : ov_H} {z : ov_Z} {h : ov_H} (d : Nat) (hd : 5 ≤ d) (U : ov_cap u) (I : ov_I F z h) (hw : ov_kw 10 F) (c : Int) (k0 : h 3 1 = 58) (g_c : 0 ≤ c ∧ c ≤ 65535) : ov_T u d ov_m55 [ov_r 3, ov_i c] z h (P_Reader_takeSign_3_k3_1_58 F z h c) := by
  refine ov_en rfl (Nat.le_of_ble_eq_true rfl) ?_
  show ov_R u d ov_m55 0 [(0, ov_r 3), (1, ov_i c)] [] z h (P_Reader_takeSign_3_k3_1_58 F z h c)
  refine ov_blk (ls2 := [(0, ov_r 3), (1, ov_i c)]) (st2 := [ov_r 3]) (pc2 := 1) b_55_0_1 rfl rfl ?_
  refine ov_getf (v := ov_r 1) d_55_1 fl_Reader_9 (zb_3 I) (zs_3 I) (congrArg ov_r (rg_3_0 I)) ?_
  refine ov_blk (ls2 := [(0, ov_r 3), (1, ov_i c)]) (st2 := [ov_i c, ov_r 1]) (pc2 := 5) b_55_4_1 rfl rfl ?_
  refine ov_cV (as := [ov_i c]) (st := []) (d2 := d - 1) d_55_5 lk_Reader_231 rfl (Nat.le_of_ble_eq_true rfl) (c := 8) (zb_1 I) (zs_1 I) ⟨by decide, rfl⟩ (by omega) (c_Tape_isSign_1 (d - 1) (by omega) U I c (by omega)) ?_
  rintro _ _ _ ⟨v2, rfl, rfl, rfl, f1⟩
  show ov_R u d ov_m55 8 [(0, ov_r 3), (1, ov_i c)] [ov_i v2] z h (P_Reader_takeSign_3_k3_1_58 F z h c)
  have f3 : (v2 = 0 ∨ v2 = 1) := f1
  clear f1
  refine ov_ifne (tgt := 17) d_55_8 (by decide) (by omega) (fun c4 => ?_) (fun c4 => ?_)
  · skip
    refine ov_blk (ls2 := [(0, ov_r 3), (1, ov_i c)]) (st2 := [ov_r 3]) (pc2 := 18) b_55_17_1 rfl rfl ?_
    refine ov_getf (v := ov_r 1) d_55_18 fl_Reader_9 (zb_3 I) (zs_3 I) (congrArg ov_r (rg_3_0 I)) ?_
    refine ov_cV (as := []) (st := []) (d2 := d - 1) d_55_21 lk_Reader_75 rfl (Nat.le_of_ble_eq_true rfl) (c := 8) (zb_1 I) (zs_1 I) ⟨by decide, rfl⟩ (by omega) (c_Tape_advance_1 (d - 1) (by omega) U I (ov_kws hw (by decide +kernel))) ?_
    rintro _ z6 h7 ⟨rfl, I8, f5⟩
    show ov_R u d ov_m55 24 [(0, ov_r 3), (1, ov_i c)] [] z6 h7 (P_Reader_takeSign_3_k3_1_58 F z h c)
    have f9 : (h7 3 3) = (h 3 3) ∧ (h7 36 7) = (h 36 7) ∧ (h7 1 1) = (h 1 1) ∧ (h7 90 2) = (h 90 2) ∧ (h7 0 10) = (h 0 10) ∧ (h7 0 11) = (h 0 11) ∧ (h7 0 12) = (h 0 12) ∧ (h7 0 13) = (h 0 13) ∧ (h7 3 1) = (h 3 1) ∧ (h7 36 8) = (h 36 8) ∧ (h7 46 3) = (h 46 3) ∧ (h7 46 4) = (h 46 4) ∧ (h7 49 4) = (h 49 4) ∧ (h7 49 5) = (h 49 5) ∧ (h7 64 0) = (h 64 0) ∧ (h7 76 0) = (h 76 0) := f5
    clear f5
    have e10 : h7 3 1 = 58 := by omega
    refine ov_blk (ls2 := [(0, ov_r 3), (1, ov_i c)]) (st2 := [ov_i 1]) (pc2 := 25) b_55_24_1 rfl rfl ?_
    exact ov_retz (st := []) d_55_25 rfl (by omega) ⟨_, rfl, I8, (by show (1 = 0 ∧ 1 ≤ (h7 3 2) ∨ 1 = 1) ∧ (h7 36 7) = (h 36 7) ∧ (h7 1 1) = (h 1 1) ∧ (h7 90 2) = (h 90 2) ∧ (h7 0 10) = (h 0 10) ∧ (h7 0 11) = (h 0 11) ∧ (h7 0 12) = (h 0 12) ∧ (h7 0 13) = (h 0 13) ∧ (h7 3 1) = (h 3 1) ∧ (h7 36 8) = (h 36 8) ∧ (h7 46 3) = (h 46 3) ∧ (h7 46 4) = (h 46 4) ∧ (h7 49 4) = (h 49 4) ∧ (h7 49 5) = (h 49 5) ∧ (h7 64 0) = (h 64 0) ∧ (h7 76 0) = (h 76 0); omega)⟩
  · skip
    refine ov_blk (ls2 := [(0, ov_r 3), (1, ov_i c)]) (st2 := [ov_i 1, ov_r 3]) (pc2 := 13) b_55_11_2 rfl rfl ?_
    refine ov_cV (as := [ov_i 1]) (st := []) (d2 := d - 1) d_55_13 lk_Reader_58 rfl (Nat.le_of_ble_eq_true rfl) (c := 6) (zb_3 I) (zs_3 I) ⟨by decide, rfl⟩ (by omega) (c_Reader_fail_3_k3_1_58 (d - 1) (by omega) U I (ov_kws hw (by decide +kernel)) 1 k0 (by omega) (by omega)) ?_
    rintro _ z13 h14 ⟨v12, rfl, I15, f11⟩
    show ov_R u d ov_m55 16 [(0, ov_r 3), (1, ov_i c)] [ov_i v12] z13 h14 (P_Reader_takeSign_3_k3_1_58 F z h c)
    have f16 : v12 = 0 ∧ 1 ≤ (h14 3 2) ∧ (h14 36 7) = (h 36 7) ∧ (h14 1 1) = (h 1 1) ∧ (h14 90 2) = (h 90 2) ∧ (h14 0 10) = (h 0 10) ∧ (h14 0 11) = (h 0 11) ∧ (h14 0 12) = (h 0 12) ∧ (h14 0 13) = (h 0 13) ∧ (h14 3 1) = (h 3 1) ∧ (h14 36 8) = (h 36 8) ∧ (h14 46 3) = (h 46 3) ∧ (h14 46 4) = (h 46 4) ∧ (h14 49 4) = (h 49 4) ∧ (h14 49 5) = (h 49 5) ∧ (h14 64 0) = (h 64 0) ∧ (h14 76 0) = (h 76 0) := f11
    clear f11
    have e17 : h14 3 1 = 58 := by omega
    exact ov_retz (st := []) d_55_16 rfl (by omega) ⟨_, rfl, I15, (by show (v12 = 0 ∧ 1 ≤ (h14 3 2) ∨ v12 = 1) ∧ (h14 36 7) = (h 36 7) ∧ (h14 1 1) = (h 1 1) ∧ (h14 90 2) = (h 90 2) ∧ (h14 0 10) = (h 0 10) ∧ (h14 0 11) = (h 0 11) ∧ (h14 0 12) = (h 0 12) ∧ (h14 0 13) = (h 0 13) ∧ (h14 3 1) = (h 3 1) ∧ (h14 36 8) = (h 36 8) ∧ (h14 46 3) = (h 46 3) ∧ (h14 46 4) = (h 46 4) ∧ (h14 49 4) = (h 49 4) ∧ (h14 49 5) = (h 49 5) ∧ (h14 64 0) = (h 64 0) ∧ (h14 76 0) = (h 76 0); omega)⟩
abbrev P_Reader_takeWord_3_k3_1_58 (F : ov_H) (z : ov_Z) (h : ov_H) (w : Int) : Option ov_V → ov_Z → ov_H → Prop := fun r0 z' h' => ∃ r : Int, r0 = some (ov_i r) ∧ ov_I F z' h' ∧ ((r = 0 ∧ 1 ≤ (h' 3 2) ∨ r = 1) ∧ (h' 36 7) = (h 36 7) ∧ (h' 1 1) = (h 1 1) ∧ (h' 90 2) = (h 90 2) ∧ (h' 0 10) = (h 0 10) ∧ (h' 0 11) = (h 0 11) ∧ (h' 0 12) = (h 0 12) ∧ (h' 0 13) = (h 0 13) ∧ (h' 3 1) = (h 3 1) ∧ (h' 36 8) = (h 36 8) ∧ (h' 46 3) = (h 46 3) ∧ (h' 46 4) = (h 46 4) ∧ (h' 49 4) = (h 49 4) ∧ (h' 49 5) = (h 49 5) ∧ (h' 64 0) = (h 64 0) ∧ (h' 76 0) = (h 76 0))
set_option maxHeartbeats 4000000 in
theorem c_Reader_takeWord_3_k3_1_58 {u : ov_U} {F : ov_H} {z : ov_Z} {h : ov_H} (d : Nat) (hd : 5 ≤ d) (U : ov_cap u) (I : ov_I F z h) (hw : ov_kw 10 F) (w : Int) (k0 : h 3 1 = 58) : ov_T u d ov_m50 [ov_r 3, ov_l w] z h (P_Reader_takeWord_3_k3_1_58 F z h w) := by
  refine ov_en rfl (Nat.le_of_ble_eq_true rfl) ?_
  show ov_R u d ov_m50 0 [(0, ov_r 3), (1, ov_l w)] [] z h (P_Reader_takeWord_3_k3_1_58 F z h w)
  refine ov_blk (ls2 := [(0, ov_r 3), (1, ov_l w)]) (st2 := [ov_r 3]) (pc2 := 1) b_50_0_1 rfl rfl ?_
  refine ov_getf (v := ov_r 1) d_50_1 fl_Reader_9 (zb_3 I) (zs_3 I) (congrArg ov_r (rg_3_0 I)) ?_
  refine ov_blk (ls2 := [(0, ov_r 3), (1, ov_l w)]) (st2 := [ov_l w, ov_r 1]) (pc2 := 5) b_50_4_1 rfl rfl ?_
  refine ov_cV (as := [ov_l w]) (st := []) (d2 := d - 1) d_50_5 lk_Reader_110 rfl (Nat.le_of_ble_eq_true rfl) (c := 8) (zb_1 I) (zs_1 I) ⟨by decide, rfl⟩ (by omega) (c_Tape_isWord_1 (d - 1) (by omega) U I w) ?_
  rintro _ _ _ ⟨v2, rfl, rfl, rfl, f1⟩
  show ov_R u d ov_m50 8 [(0, ov_r 3), (1, ov_l w)] [ov_i v2] z h (P_Reader_takeWord_3_k3_1_58 F z h w)
  have f3 : (v2 = 0 ∨ v2 = 1) ∧ (v2 = 1 → (h 1 2) = 2) := f1
  clear f1
  refine ov_ifne (tgt := 17) d_50_8 (by decide) (by omega) (fun c4 => ?_) (fun c4 => ?_)
  · skip
    refine ov_blk (ls2 := [(0, ov_r 3), (1, ov_l w)]) (st2 := [ov_r 3]) (pc2 := 18) b_50_17_1 rfl rfl ?_
    refine ov_getf (v := ov_r 1) d_50_18 fl_Reader_9 (zb_3 I) (zs_3 I) (congrArg ov_r (rg_3_0 I)) ?_
    refine ov_cV (as := []) (st := []) (d2 := d - 1) d_50_21 lk_Reader_75 rfl (Nat.le_of_ble_eq_true rfl) (c := 8) (zb_1 I) (zs_1 I) ⟨by decide, rfl⟩ (by omega) (c_Tape_advance_1 (d - 1) (by omega) U I (ov_kws hw (by decide +kernel))) ?_
    rintro _ z6 h7 ⟨rfl, I8, f5⟩
    show ov_R u d ov_m50 24 [(0, ov_r 3), (1, ov_l w)] [] z6 h7 (P_Reader_takeWord_3_k3_1_58 F z h w)
    have f9 : (h7 3 3) = (h 3 3) ∧ (h7 36 7) = (h 36 7) ∧ (h7 1 1) = (h 1 1) ∧ (h7 90 2) = (h 90 2) ∧ (h7 0 10) = (h 0 10) ∧ (h7 0 11) = (h 0 11) ∧ (h7 0 12) = (h 0 12) ∧ (h7 0 13) = (h 0 13) ∧ (h7 3 1) = (h 3 1) ∧ (h7 36 8) = (h 36 8) ∧ (h7 46 3) = (h 46 3) ∧ (h7 46 4) = (h 46 4) ∧ (h7 49 4) = (h 49 4) ∧ (h7 49 5) = (h 49 5) ∧ (h7 64 0) = (h 64 0) ∧ (h7 76 0) = (h 76 0) := f5
    clear f5
    have e10 : h7 3 1 = 58 := by omega
    refine ov_blk (ls2 := [(0, ov_r 3), (1, ov_l w)]) (st2 := [ov_i 1]) (pc2 := 25) b_50_24_1 rfl rfl ?_
    exact ov_retz (st := []) d_50_25 rfl (by omega) ⟨_, rfl, I8, (by show (1 = 0 ∧ 1 ≤ (h7 3 2) ∨ 1 = 1) ∧ (h7 36 7) = (h 36 7) ∧ (h7 1 1) = (h 1 1) ∧ (h7 90 2) = (h 90 2) ∧ (h7 0 10) = (h 0 10) ∧ (h7 0 11) = (h 0 11) ∧ (h7 0 12) = (h 0 12) ∧ (h7 0 13) = (h 0 13) ∧ (h7 3 1) = (h 3 1) ∧ (h7 36 8) = (h 36 8) ∧ (h7 46 3) = (h 46 3) ∧ (h7 46 4) = (h 46 4) ∧ (h7 49 4) = (h 49 4) ∧ (h7 49 5) = (h 49 5) ∧ (h7 64 0) = (h 64 0) ∧ (h7 76 0) = (h 76 0); omega)⟩
  · skip
    refine ov_blk (ls2 := [(0, ov_r 3), (1, ov_l w)]) (st2 := [ov_i 1, ov_r 3]) (pc2 := 13) b_50_11_2 rfl rfl ?_
    refine ov_cV (as := [ov_i 1]) (st := []) (d2 := d - 1) d_50_13 lk_Reader_58 rfl (Nat.le_of_ble_eq_true rfl) (c := 6) (zb_3 I) (zs_3 I) ⟨by decide, rfl⟩ (by omega) (c_Reader_fail_3_k3_1_58 (d - 1) (by omega) U I (ov_kws hw (by decide +kernel)) 1 k0 (by omega) (by omega)) ?_
    rintro _ z13 h14 ⟨v12, rfl, I15, f11⟩
    show ov_R u d ov_m50 16 [(0, ov_r 3), (1, ov_l w)] [ov_i v12] z13 h14 (P_Reader_takeWord_3_k3_1_58 F z h w)
    have f16 : v12 = 0 ∧ 1 ≤ (h14 3 2) ∧ (h14 36 7) = (h 36 7) ∧ (h14 1 1) = (h 1 1) ∧ (h14 90 2) = (h 90 2) ∧ (h14 0 10) = (h 0 10) ∧ (h14 0 11) = (h 0 11) ∧ (h14 0 12) = (h 0 12) ∧ (h14 0 13) = (h 0 13) ∧ (h14 3 1) = (h 3 1) ∧ (h14 36 8) = (h 36 8) ∧ (h14 46 3) = (h 46 3) ∧ (h14 46 4) = (h 46 4) ∧ (h14 49 4) = (h 49 4) ∧ (h14 49 5) = (h 49 5) ∧ (h14 64 0) = (h 64 0) ∧ (h14 76 0) = (h 76 0) := f11
    clear f11
    have e17 : h14 3 1 = 58 := by omega
    exact ov_retz (st := []) d_50_16 rfl (by omega) ⟨_, rfl, I15, (by show (v12 = 0 ∧ 1 ≤ (h14 3 2) ∨ v12 = 1) ∧ (h14 36 7) = (h 36 7) ∧ (h14 1 1) = (h 1 1) ∧ (h14 90 2) = (h 90 2) ∧ (h14 0 10) = (h 0 10) ∧ (h14 0 11) = (h 0 11) ∧ (h14 0 12) = (h 0 12) ∧ (h14 0 13) = (h 0 13) ∧ (h14 3 1) = (h 3 1) ∧ (h14 36 8) = (h 36 8) ∧ (h14 46 3) = (h 46 3) ∧ (h14 46 4) = (h 46 4) ∧ (h14 49 4) = (h 49 4) ∧ (h14 49 5) = (h 49 5) ∧ (h14 64 0) = (h 64 0) ∧ (h14 76 0) = (h 76 0); omega)⟩
abbrev P_Reader_wayTold_3_k3_1_58 (F : ov_H) (z : ov_Z) (h : ov_H)  : Option ov_V → ov_Z → ov_H → Prop := fun r0 z' h' => ∃ r : Int, r0 = some (ov_i r) ∧ z = z' ∧ h = h' ∧ (-1 ≤ r ∧ r ≤ 1)
set_option maxHeartbeats 4000000 in
theorem c_Reader_wayTold_3_k3_1_58 {u : ov_U} {F : ov_H} {z : ov_Z} {h : ov_H} (d : Nat) (hd : 1 ≤ d) (U : ov_cap u) (I : ov_I F z h) (k0 : h 3 1 = 58) : ov_T u d ov_m65 [ov_r 3] z h (P_Reader_wayTold_3_k3_1_58 F z h) := by
  refine ov_en rfl (Nat.le_of_ble_eq_true rfl) ?_
  show ov_R u d ov_m65 0 [(0, ov_r 3)] [] z h (P_Reader_wayTold_3_k3_1_58 F z h)
  refine ov_blk (ls2 := [(0, ov_r 3)]) (st2 := [ov_r 3]) (pc2 := 1) b_65_0_1 rfl rfl ?_
  refine ov_getf (v := ov_r 1) d_65_1 fl_Reader_9 (zb_3 I) (zs_3 I) (congrArg ov_r (rg_3_0 I)) ?_
  refine ov_ldc2 (n := 1870030194) d_65_4 kc_Reader_177 ?_
  refine ov_cV (as := [ov_l 1870030194]) (st := []) (d2 := d - 1) d_65_7 lk_Reader_110 rfl (Nat.le_of_ble_eq_true rfl) (c := 8) (zb_1 I) (zs_1 I) ⟨by decide, rfl⟩ (by omega) (c_Tape_isWord_1 (d - 1) (by omega) U I 1870030194) ?_
  rintro _ _ _ ⟨v2, rfl, rfl, rfl, f1⟩
  show ov_R u d ov_m65 10 [(0, ov_r 3)] [ov_i v2] z h (P_Reader_wayTold_3_k3_1_58 F z h)
  have f3 : (v2 = 0 ∨ v2 = 1) ∧ (v2 = 1 → (h 1 2) = 2) := f1
  clear f1
  refine ov_ifeq (tgt := 15) d_65_10 (by decide) (by omega) (fun c4 => ?_) (fun c4 => ?_)
  · skip
    refine ov_blk (ls2 := [(0, ov_r 3)]) (st2 := [ov_r 3]) (pc2 := 16) b_65_15_1 rfl rfl ?_
    refine ov_getf (v := ov_r 1) d_65_16 fl_Reader_9 (zb_3 I) (zs_3 I) (congrArg ov_r (rg_3_0 I)) ?_
    refine ov_ldc2 (n := 28526) d_65_19 kc_Reader_249 ?_
    refine ov_cV (as := [ov_l 28526]) (st := []) (d2 := d - 1) d_65_22 lk_Reader_110 rfl (Nat.le_of_ble_eq_true rfl) (c := 8) (zb_1 I) (zs_1 I) ⟨by decide, rfl⟩ (by omega) (c_Tape_isWord_1 (d - 1) (by omega) U I 28526) ?_
    rintro _ _ _ ⟨v6, rfl, rfl, rfl, f5⟩
    show ov_R u d ov_m65 25 [(0, ov_r 3)] [ov_i v6] z h (P_Reader_wayTold_3_k3_1_58 F z h)
    have f7 : (v6 = 0 ∨ v6 = 1) ∧ (v6 = 1 → (h 1 2) = 2) := f5
    clear f5
    refine ov_ifeq (tgt := 32) d_65_25 (by decide) (by omega) (fun c8 => ?_) (fun c8 => ?_)
    · skip
      refine ov_blk (ls2 := [(0, ov_r 3)]) (st2 := [ov_i (-1)]) (pc2 := 33) b_65_32_1 rfl rfl ?_
      exact ov_reti (st := []) d_65_33 rfl ⟨_, rfl, rfl, rfl, (by show -1 ≤ (-1) ∧ (-1) ≤ 1; omega)⟩
    · skip
      refine ov_blk (ls2 := [(0, ov_r 3)]) (st2 := [ov_i 1]) (pc2 := 29) b_65_28_1 rfl rfl ?_
      refine ov_goto (tgt := 33) d_65_29 (by decide) ?_
      exact ov_reti (st := []) d_65_33 rfl ⟨_, rfl, rfl, rfl, (by show -1 ≤ 1 ∧ 1 ≤ 1; omega)⟩
  · skip
    refine ov_blk (ls2 := [(0, ov_r 3)]) (st2 := [ov_i 0]) (pc2 := 14) b_65_13_1 rfl rfl ?_
    exact ov_reti (st := []) d_65_14 rfl ⟨_, rfl, rfl, rfl, (by show -1 ≤ 0 ∧ 0 ≤ 1; omega)⟩
abbrev P_Reader_kindTold_3_k3_1_58 (F : ov_H) (z : ov_Z) (h : ov_H)  : Option ov_V → ov_Z → ov_H → Prop := fun r0 z' h' => ∃ r : Int, r0 = some (ov_i r) ∧ z = z' ∧ h = h' ∧ (-1 ≤ r ∧ r ≤ 3)
set_option maxHeartbeats 4000000 in
theorem c_Reader_kindTold_3_k3_1_58 {u : ov_U} {F : ov_H} {z : ov_Z} {h : ov_H} (d : Nat) (hd : 1 ≤ d) (U : ov_cap u) (I : ov_I F z h) (k0 : h 3 1 = 58) : ov_T u d ov_m59 [ov_r 3] z h (P_Reader_kindTold_3_k3_1_58 F z h) := by
  refine ov_en rfl (Nat.le_of_ble_eq_true rfl) ?_
  show ov_R u d ov_m59 0 [(0, ov_r 3)] [] z h (P_Reader_kindTold_3_k3_1_58 F z h)
  refine ov_blk (ls2 := [(0, ov_r 3)]) (st2 := [ov_r 3]) (pc2 := 1) b_59_0_1 rfl rfl ?_
  refine ov_getf (v := ov_r 1) d_59_1 fl_Reader_9 (zb_3 I) (zs_3 I) (congrArg ov_r (rg_3_0 I)) ?_
  refine ov_ldc2 (n := 427021001579) d_59_4 kc_Reader_251 ?_
  refine ov_cV (as := [ov_l 427021001579]) (st := []) (d2 := d - 1) d_59_7 lk_Reader_110 rfl (Nat.le_of_ble_eq_true rfl) (c := 8) (zb_1 I) (zs_1 I) ⟨by decide, rfl⟩ (by omega) (c_Tape_isWord_1 (d - 1) (by omega) U I 427021001579) ?_
  rintro _ _ _ ⟨v2, rfl, rfl, rfl, f1⟩
  show ov_R u d ov_m59 10 [(0, ov_r 3)] [ov_i v2] z h (P_Reader_kindTold_3_k3_1_58 F z h)
  have f3 : (v2 = 0 ∨ v2 = 1) ∧ (v2 = 1 → (h 1 2) = 2) := f1
  clear f1
  refine ov_ifeq (tgt := 15) d_59_10 (by decide) (by omega) (fun c4 => ?_) (fun c4 => ?_)
  · skip
    refine ov_blk (ls2 := [(0, ov_r 3)]) (st2 := [ov_r 3]) (pc2 := 16) b_59_15_1 rfl rfl ?_
    refine ov_getf (v := ov_r 1) d_59_16 fl_Reader_9 (zb_3 I) (zs_3 I) (congrArg ov_r (rg_3_0 I)) ?_
    refine ov_ldc2 (n := 114801865155950) d_59_19 kc_Reader_253 ?_
    refine ov_cV (as := [ov_l 114801865155950]) (st := []) (d2 := d - 1) d_59_22 lk_Reader_110 rfl (Nat.le_of_ble_eq_true rfl) (c := 8) (zb_1 I) (zs_1 I) ⟨by decide, rfl⟩ (by omega) (c_Tape_isWord_1 (d - 1) (by omega) U I 114801865155950) ?_
    rintro _ _ _ ⟨v6, rfl, rfl, rfl, f5⟩
    show ov_R u d ov_m59 25 [(0, ov_r 3)] [ov_i v6] z h (P_Reader_kindTold_3_k3_1_58 F z h)
    have f7 : (v6 = 0 ∨ v6 = 1) ∧ (v6 = 1 → (h 1 2) = 2) := f5
    clear f5
    refine ov_ifeq (tgt := 30) d_59_25 (by decide) (by omega) (fun c8 => ?_) (fun c8 => ?_)
    · skip
      refine ov_blk (ls2 := [(0, ov_r 3)]) (st2 := [ov_r 3]) (pc2 := 31) b_59_30_1 rfl rfl ?_
      refine ov_getf (v := ov_r 1) d_59_31 fl_Reader_9 (zb_3 I) (zs_3 I) (congrArg ov_r (rg_3_0 I)) ?_
      refine ov_ldc2 (n := 108256604483438) d_59_34 kc_Reader_255 ?_
      refine ov_cV (as := [ov_l 108256604483438]) (st := []) (d2 := d - 1) d_59_37 lk_Reader_110 rfl (Nat.le_of_ble_eq_true rfl) (c := 8) (zb_1 I) (zs_1 I) ⟨by decide, rfl⟩ (by omega) (c_Tape_isWord_1 (d - 1) (by omega) U I 108256604483438) ?_
      rintro _ _ _ ⟨v10, rfl, rfl, rfl, f9⟩
      show ov_R u d ov_m59 40 [(0, ov_r 3)] [ov_i v10] z h (P_Reader_kindTold_3_k3_1_58 F z h)
      have f11 : (v10 = 0 ∨ v10 = 1) ∧ (v10 = 1 → (h 1 2) = 2) := f9
      clear f9
      refine ov_ifeq (tgt := 45) d_59_40 (by decide) (by omega) (fun c12 => ?_) (fun c12 => ?_)
      · skip
        refine ov_blk (ls2 := [(0, ov_r 3)]) (st2 := [ov_r 3]) (pc2 := 46) b_59_45_1 rfl rfl ?_
        refine ov_getf (v := ov_r 1) d_59_46 fl_Reader_9 (zb_3 I) (zs_3 I) (congrArg ov_r (rg_3_0 I)) ?_
        refine ov_ldc2 (n := 123623862526821) d_59_49 kc_Reader_257 ?_
        refine ov_cV (as := [ov_l 123623862526821]) (st := []) (d2 := d - 1) d_59_52 lk_Reader_110 rfl (Nat.le_of_ble_eq_true rfl) (c := 8) (zb_1 I) (zs_1 I) ⟨by decide, rfl⟩ (by omega) (c_Tape_isWord_1 (d - 1) (by omega) U I 123623862526821) ?_
        rintro _ _ _ ⟨v14, rfl, rfl, rfl, f13⟩
        show ov_R u d ov_m59 55 [(0, ov_r 3)] [ov_i v14] z h (P_Reader_kindTold_3_k3_1_58 F z h)
        have f15 : (v14 = 0 ∨ v14 = 1) ∧ (v14 = 1 → (h 1 2) = 2) := f13
        clear f13
        refine ov_ifeq (tgt := 62) d_59_55 (by decide) (by omega) (fun c16 => ?_) (fun c16 => ?_)
        · skip
          refine ov_blk (ls2 := [(0, ov_r 3)]) (st2 := [ov_i (-1)]) (pc2 := 63) b_59_62_1 rfl rfl ?_
          exact ov_reti (st := []) d_59_63 rfl ⟨_, rfl, rfl, rfl, (by show -1 ≤ (-1) ∧ (-1) ≤ 3; omega)⟩
        · skip
          refine ov_blk (ls2 := [(0, ov_r 3)]) (st2 := [ov_i 3]) (pc2 := 59) b_59_58_1 rfl rfl ?_
          refine ov_goto (tgt := 63) d_59_59 (by decide) ?_
          exact ov_reti (st := []) d_59_63 rfl ⟨_, rfl, rfl, rfl, (by show -1 ≤ 3 ∧ 3 ≤ 3; omega)⟩
      · skip
        refine ov_blk (ls2 := [(0, ov_r 3)]) (st2 := [ov_i 2]) (pc2 := 44) b_59_43_1 rfl rfl ?_
        exact ov_reti (st := []) d_59_44 rfl ⟨_, rfl, rfl, rfl, (by show -1 ≤ 2 ∧ 2 ≤ 3; omega)⟩
    · skip
      refine ov_blk (ls2 := [(0, ov_r 3)]) (st2 := [ov_i 1]) (pc2 := 29) b_59_28_1 rfl rfl ?_
      exact ov_reti (st := []) d_59_29 rfl ⟨_, rfl, rfl, rfl, (by show -1 ≤ 1 ∧ 1 ≤ 3; omega)⟩
  · skip
    refine ov_blk (ls2 := [(0, ov_r 3)]) (st2 := [ov_i 0]) (pc2 := 14) b_59_13_1 rfl rfl ?_
    exact ov_reti (st := []) d_59_14 rfl ⟨_, rfl, rfl, rfl, (by show -1 ≤ 0 ∧ 0 ≤ 3; omega)⟩
abbrev P_Reader_plainPart_3_k3_1_58 (F : ov_H) (z : ov_Z) (h : ov_H)  : Option ov_V → ov_Z → ov_H → Prop := fun r0 z' h' => ∃ r : Int, r0 = some (ov_i r) ∧ z = z' ∧ h = h' ∧ (-2147483648 ≤ r ∧ r ≤ 2147483647)
set_option maxHeartbeats 4000000 in
theorem c_Reader_plainPart_3_k3_1_58 {u : ov_U} {F : ov_H} {z : ov_Z} {h : ov_H} (d : Nat) (hd : 2 ≤ d) (U : ov_cap u) (I : ov_I F z h) (k0 : h 3 1 = 58) : ov_T u d ov_m74 [ov_r 3] z h (P_Reader_plainPart_3_k3_1_58 F z h) := by
  refine ov_en rfl (Nat.le_of_ble_eq_true rfl) ?_
  show ov_R u d ov_m74 0 [(0, ov_r 3)] [] z h (P_Reader_plainPart_3_k3_1_58 F z h)
  refine ov_blk (ls2 := [(0, ov_r 3)]) (st2 := [ov_r 3]) (pc2 := 1) b_74_0_1 rfl rfl ?_
  refine ov_getf (v := ov_r 1) d_74_1 fl_Reader_9 (zb_3 I) (zs_3 I) (congrArg ov_r (rg_3_0 I)) ?_
  refine ov_getf (v := ov_i (h 1 2)) d_74_4 fl_Reader_37 (zb_1 I) (zs_1 I) rfl ?_
  have g1 := rg_1_2 I
  refine ov_blk (ls2 := [(0, ov_r 3)]) (st2 := [ov_i 3, ov_i (h 1 2)]) (pc2 := 8) b_74_7_1 rfl rfl ?_
  refine ov_icne (tgt := 22) d_74_8 (by decide) (by omega) (by omega) (fun c2 => ?_) (fun c2 => ?_)
  · skip
    refine ov_blk (ls2 := [(0, ov_r 3)]) (st2 := [ov_r 3]) (pc2 := 23) b_74_22_1 rfl rfl ?_
    refine ov_getf (v := ov_r 1) d_74_23 fl_Reader_9 (zb_3 I) (zs_3 I) (congrArg ov_r (rg_3_0 I)) ?_
    refine ov_ldc2 (n := 1818584692) d_74_26 kc_Reader_245 ?_
    refine ov_cV (as := [ov_l 1818584692]) (st := []) (d2 := d - 1) d_74_29 lk_Reader_110 rfl (Nat.le_of_ble_eq_true rfl) (c := 8) (zb_1 I) (zs_1 I) ⟨by decide, rfl⟩ (by omega) (c_Tape_isWord_1 (d - 1) (by omega) U I 1818584692) ?_
    rintro _ _ _ ⟨v4, rfl, rfl, rfl, f3⟩
    show ov_R u d ov_m74 32 [(0, ov_r 3)] [ov_i v4] z h (P_Reader_plainPart_3_k3_1_58 F z h)
    have f5 : (v4 = 0 ∨ v4 = 1) ∧ (v4 = 1 → (h 1 2) = 2) := f3
    clear f3
    refine ov_ifeq (tgt := 38) d_74_32 (by decide) (by omega) (fun c6 => ?_) (fun c6 => ?_)
    · skip
      refine ov_blk (ls2 := [(0, ov_r 3)]) (st2 := [ov_r 3]) (pc2 := 39) b_74_38_1 rfl rfl ?_
      refine ov_getf (v := ov_r 1) d_74_39 fl_Reader_9 (zb_3 I) (zs_3 I) (congrArg ov_r (rg_3_0 I)) ?_
      refine ov_ldc2 (n := 30064) d_74_42 kc_Reader_247 ?_
      refine ov_cV (as := [ov_l 30064]) (st := []) (d2 := d - 1) d_74_45 lk_Reader_110 rfl (Nat.le_of_ble_eq_true rfl) (c := 8) (zb_1 I) (zs_1 I) ⟨by decide, rfl⟩ (by omega) (c_Tape_isWord_1 (d - 1) (by omega) U I 30064) ?_
      rintro _ _ _ ⟨v8, rfl, rfl, rfl, f7⟩
      show ov_R u d ov_m74 48 [(0, ov_r 3)] [ov_i v8] z h (P_Reader_plainPart_3_k3_1_58 F z h)
      have f9 : (v8 = 0 ∨ v8 = 1) ∧ (v8 = 1 → (h 1 2) = 2) := f7
      clear f7
      refine ov_ifeq (tgt := 54) d_74_48 (by decide) (by omega) (fun c10 => ?_) (fun c10 => ?_)
      · skip
        refine ov_blk (ls2 := [(0, ov_r 3)]) (st2 := [ov_r 3]) (pc2 := 55) b_74_54_1 rfl rfl ?_
        refine ov_cV (as := []) (st := []) (d2 := d - 1) d_74_55 lk_Reader_54 rfl (Nat.le_of_ble_eq_true rfl) (c := 6) (zb_3 I) (zs_3 I) ⟨by decide, rfl⟩ (by omega) (c_Reader_wayTold_3_k3_1_58 (d - 1) (by omega) U I k0) ?_
        rintro _ _ _ ⟨v12, rfl, rfl, rfl, f11⟩
        show ov_R u d ov_m74 58 [(0, ov_r 3)] [ov_i v12] z h (P_Reader_plainPart_3_k3_1_58 F z h)
        have f13 : -1 ≤ v12 ∧ v12 ≤ 1 := f11
        clear f11
        refine ov_blk (ls2 := [(0, ov_r 3), (1, ov_i v12)]) (st2 := [ov_i (-1), ov_i v12]) (pc2 := 61) b_74_58_3 rfl rfl ?_
        refine ov_icne (tgt := 68) d_74_61 (by decide) (by omega) (by omega) (fun c14 => ?_) (fun c14 => ?_)
        · skip
          refine ov_blk (ls2 := [(0, ov_r 3), (1, ov_i v12)]) (st2 := [ov_i v12]) (pc2 := 69) b_74_68_1 rfl rfl ?_
          refine ov_ifne (tgt := 77) d_74_69 (by decide) (by omega) (fun c15 => ?_) (fun c15 => ?_)
          · skip
            refine ov_blk (ls2 := [(0, ov_r 3), (1, ov_i v12)]) (st2 := [ov_i 9]) (pc2 := 79) b_74_77_1 rfl rfl ?_
            exact ov_reti (st := []) d_74_79 rfl ⟨_, rfl, rfl, rfl, (by show -2147483648 ≤ 9 ∧ 9 ≤ 2147483647; omega)⟩
          · skip
            refine ov_blk (ls2 := [(0, ov_r 3), (1, ov_i v12)]) (st2 := [ov_i 8]) (pc2 := 74) b_74_72_1 rfl rfl ?_
            refine ov_goto (tgt := 79) d_74_74 (by decide) ?_
            exact ov_reti (st := []) d_74_79 rfl ⟨_, rfl, rfl, rfl, (by show -2147483648 ≤ 8 ∧ 8 ≤ 2147483647; omega)⟩
        · skip
          refine ov_blk (ls2 := [(0, ov_r 3), (1, ov_i v12)]) (st2 := [ov_i (-1)]) (pc2 := 65) b_74_64_1 rfl rfl ?_
          refine ov_goto (tgt := 79) d_74_65 (by decide) ?_
          exact ov_reti (st := []) d_74_79 rfl ⟨_, rfl, rfl, rfl, (by show -2147483648 ≤ (-1) ∧ (-1) ≤ 2147483647; omega)⟩
      · skip
        refine ov_blk (ls2 := [(0, ov_r 3)]) (st2 := [ov_i 11]) (pc2 := 53) b_74_51_1 rfl rfl ?_
        exact ov_reti (st := []) d_74_53 rfl ⟨_, rfl, rfl, rfl, (by show -2147483648 ≤ 11 ∧ 11 ≤ 2147483647; omega)⟩
    · skip
      refine ov_blk (ls2 := [(0, ov_r 3)]) (st2 := [ov_i 10]) (pc2 := 37) b_74_35_1 rfl rfl ?_
      exact ov_reti (st := []) d_74_37 rfl ⟨_, rfl, rfl, rfl, (by show -2147483648 ≤ 10 ∧ 10 ≤ 2147483647; omega)⟩
  · skip
    refine ov_blk (ls2 := [(0, ov_r 3)]) (st2 := [ov_r 3, ov_i 16]) (pc2 := 14) b_74_11_2 rfl rfl ?_
    refine ov_getf (v := ov_r 1) d_74_14 fl_Reader_9 (zb_3 I) (zs_3 I) (congrArg ov_r (rg_3_0 I)) ?_
    refine ov_getf (v := ov_i (h 1 4)) d_74_17 fl_Reader_146 (zb_1 I) (zs_1 I) rfl ?_
    have g16 := rg_1_4 I
    refine ov_blk (ls2 := [(0, ov_r 3)]) (st2 := [ov_i (16 + (h 1 4))]) (pc2 := 21) b_74_20_1 rfl rfl ?_
    refine ov_havw (fun w17 gw17 qw17 => ?_)
    exact ov_reti (st := []) d_74_21 rfl ⟨_, rfl, rfl, rfl, (by show -2147483648 ≤ w17 ∧ w17 ≤ 2147483647; omega)⟩
abbrev P_Reader_readPart_3_k3_1_58 (F : ov_H) (z : ov_Z) (h : ov_H) (dep : Int) : Option ov_V → ov_Z → ov_H → Prop := fun r0 z' h' => ∃ r : Int, r0 = some (ov_i r) ∧ ov_I F z' h' ∧ ((r = 0 ∧ 1 ≤ h' 3 2 ∨ r = 1) ∧ h' 36 7 = h 36 7 ∧ h' 1 1 = h 1 1 ∧ h' 90 2 = h 90 2 ∧ h' 0 10 = h 0 10 ∧ h' 0 11 = h 0 11 ∧ h' 0 12 = h 0 12 ∧ h' 0 13 = h 0 13 ∧ h' 3 1 = h 3 1 ∧ h' 36 8 = h 36 8 ∧ h' 46 3 = h 46 3 ∧ h' 46 4 = h 46 4 ∧ h' 49 4 = h 49 4 ∧ h' 49 5 = h 49 5 ∧ h' 64 0 = h 64 0 ∧ h' 76 0 = h 76 0)
abbrev P_Reader_readProduct_3_k3_1_58 (F : ov_H) (z : ov_Z) (h : ov_H) (dep : Int) : Option ov_V → ov_Z → ov_H → Prop := fun r0 z' h' => ∃ r : Int, r0 = some (ov_i r) ∧ ov_I F z' h' ∧ ((r = 0 ∧ 1 ≤ h' 3 2 ∨ r = 1) ∧ h' 36 7 = h 36 7 ∧ h' 1 1 = h 1 1 ∧ h' 90 2 = h 90 2 ∧ h' 0 10 = h 0 10 ∧ h' 0 11 = h 0 11 ∧ h' 0 12 = h 0 12 ∧ h' 0 13 = h 0 13 ∧ h' 3 1 = h 3 1 ∧ h' 36 8 = h 36 8 ∧ h' 46 3 = h 46 3 ∧ h' 46 4 = h 46 4 ∧ h' 49 4 = h 49 4 ∧ h' 49 5 = h 49 5 ∧ h' 64 0 = h 64 0 ∧ h' 76 0 = h 76 0)
abbrev P_Reader_readSum_3_k3_1_58 (F : ov_H) (z : ov_Z) (h : ov_H) (dep : Int) : Option ov_V → ov_Z → ov_H → Prop := fun r0 z' h' => ∃ r : Int, r0 = some (ov_i r) ∧ ov_I F z' h' ∧ ((r = 0 ∧ 1 ≤ h' 3 2 ∨ r = 1) ∧ h' 36 7 = h 36 7 ∧ h' 1 1 = h 1 1 ∧ h' 90 2 = h 90 2 ∧ h' 0 10 = h 0 10 ∧ h' 0 11 = h 0 11 ∧ h' 0 12 = h 0 12 ∧ h' 0 13 = h 0 13 ∧ h' 3 1 = h 3 1 ∧ h' 36 8 = h 36 8 ∧ h' 46 3 = h 46 3 ∧ h' 46 4 = h 46 4 ∧ h' 49 4 = h 49 4 ∧ h' 49 5 = h 49 5 ∧ h' 64 0 = h 64 0 ∧ h' 76 0 = h 76 0)
abbrev P_Reader_readTest_3_k3_1_58 (F : ov_H) (z : ov_Z) (h : ov_H) (dep : Int) : Option ov_V → ov_Z → ov_H → Prop := fun r0 z' h' => ∃ r : Int, r0 = some (ov_i r) ∧ ov_I F z' h' ∧ ((r = 0 ∧ 1 ≤ h' 3 2 ∨ r = 1) ∧ h' 36 7 = h 36 7 ∧ h' 1 1 = h 1 1 ∧ h' 90 2 = h 90 2 ∧ h' 0 10 = h 0 10 ∧ h' 0 11 = h 0 11 ∧ h' 0 12 = h 0 12 ∧ h' 0 13 = h 0 13 ∧ h' 3 1 = h 3 1 ∧ h' 36 8 = h 36 8 ∧ h' 46 3 = h 46 3 ∧ h' 46 4 = h 46 4 ∧ h' 49 4 = h 49 4 ∧ h' 49 5 = h 49 5 ∧ h' 64 0 = h 64 0 ∧ h' 76 0 = h 76 0)
abbrev P_Reader_readExpression_3_k3_1_58 (F : ov_H) (z : ov_Z) (h : ov_H) (dep : Int) : Option ov_V → ov_Z → ov_H → Prop := fun r0 z' h' => ∃ r : Int, r0 = some (ov_i r) ∧ ov_I F z' h' ∧ ((r = 0 ∧ 1 ≤ h' 3 2 ∨ r = 1) ∧ h' 36 7 = h 36 7 ∧ h' 1 1 = h 1 1 ∧ h' 90 2 = h 90 2 ∧ h' 0 10 = h 0 10 ∧ h' 0 11 = h 0 11 ∧ h' 0 12 = h 0 12 ∧ h' 0 13 = h 0 13 ∧ h' 3 1 = h 3 1 ∧ h' 36 8 = h 36 8 ∧ h' 46 3 = h 46 3 ∧ h' 46 4 = h 46 4 ∧ h' 49 4 = h 49 4 ∧ h' 49 5 = h 49 5 ∧ h' 64 0 = h 64 0 ∧ h' 76 0 = h 76 0)
set_option maxHeartbeats 4000000 in
theorem c_Reader_readPart_3_k3_1_58 {u : ov_U} {F : ov_H} (k : Nat) (HE : ∀ k' : Nat, k' + 1 = k → ∀ {z : ov_Z} {h : ov_H} (d : Nat) (hd : (10 + 5 * k' + 4) ≤ d) (U : ov_cap u) (I : ov_I F z h) (hw : ov_kw 295436135555504537610 F) (dep : Int) (k0 : h 3 1 = 58) (g_dep : ov_g dep) (p0 : 0 ≤ dep ∧ dep + (k' : Int) = 5), ov_T u d ov_m69 [ov_r 3, ov_i dep] z h (P_Reader_readExpression_3_k3_1_58 F z h dep)) (HP : ∀ k' : Nat, k' + 1 = k → ∀ {z : ov_Z} {h : ov_H} (d : Nat) (hd : (10 + 5 * k' + 0) ≤ d) (U : ov_cap u) (I : ov_I F z h) (hw : ov_kw 295436135555504537610 F) (dep : Int) (k0 : h 3 1 = 58) (g_dep : ov_g dep) (p0 : 0 ≤ dep ∧ dep + (k' : Int) = 5), ov_T u d ov_m73 [ov_r 3, ov_i dep] z h (P_Reader_readPart_3_k3_1_58 F z h dep)) {z : ov_Z} {h : ov_H} (d : Nat) (hd : (10 + 5 * k + 0) ≤ d) (U : ov_cap u) (I : ov_I F z h) (hw : ov_kw 295436135555504537610 F) (dep : Int) (k0 : h 3 1 = 58) (g_dep : ov_g dep) (p0 : 0 ≤ dep ∧ dep + (k : Int) = 5) : ov_T u d ov_m73 [ov_r 3, ov_i dep] z h (P_Reader_readPart_3_k3_1_58 F z h dep) := by
  refine ov_en rfl (Nat.le_of_ble_eq_true rfl) ?_
  show ov_R u d ov_m73 0 [(0, ov_r 3), (1, ov_i dep)] [] z h (P_Reader_readPart_3_k3_1_58 F z h dep)
  refine ov_blk (ls2 := [(0, ov_r 3), (1, ov_i dep)]) (st2 := [ov_r 3]) (pc2 := 1) b_73_0_1 rfl rfl ?_
  refine ov_cV (as := []) (st := []) (d2 := d - 1) d_73_1 lk_Reader_240 rfl (Nat.le_of_ble_eq_true rfl) (c := 6) (zb_3 I) (zs_3 I) ⟨by decide, rfl⟩ (by omega) (c_Reader_plainPart_3_k3_1_58 (d - 1) (by omega) U I k0) ?_
  rintro _ _ _ ⟨v2, rfl, rfl, rfl, f1⟩
  show ov_R u d ov_m73 4 [(0, ov_r 3), (1, ov_i dep)] [ov_i v2] z h (P_Reader_readPart_3_k3_1_58 F z h dep)
  have f3 : -2147483648 ≤ v2 ∧ v2 ≤ 2147483647 := f1
  clear f1
  refine ov_blk (ls2 := [(0, ov_r 3), (1, ov_i dep), (2, ov_i v2)]) (st2 := [ov_r 3]) (pc2 := 6) b_73_4_2 rfl rfl ?_
  refine ov_getf (v := ov_r 1) d_73_6 fl_Reader_9 (zb_3 I) (zs_3 I) (congrArg ov_r (rg_3_0 I)) ?_
  refine ov_ldc2 (n := 7237492) d_73_9 kc_Reader_243 ?_
  refine ov_cV (as := [ov_l 7237492]) (st := []) (d2 := d - 1) d_73_12 lk_Reader_110 rfl (Nat.le_of_ble_eq_true rfl) (c := 8) (zb_1 I) (zs_1 I) ⟨by decide, rfl⟩ (by omega) (c_Tape_isWord_1 (d - 1) (by omega) U I 7237492) ?_
  rintro _ _ _ ⟨v5, rfl, rfl, rfl, f4⟩
  show ov_R u d ov_m73 15 [(0, ov_r 3), (1, ov_i dep), (2, ov_i v2)] [ov_i v5] z h (P_Reader_readPart_3_k3_1_58 F z h dep)
  have f6 : (v5 = 0 ∨ v5 = 1) ∧ (v5 = 1 → (h 1 2) = 2) := f4
  clear f4
  refine ov_blk (ls2 := [(0, ov_r 3), (1, ov_i dep), (2, ov_i v2), (3, ov_i v5)]) (st2 := [ov_r 3]) (pc2 := 17) b_73_15_2 rfl rfl ?_
  refine ov_getf (v := ov_r 1) d_73_17 fl_Reader_9 (zb_3 I) (zs_3 I) (congrArg ov_r (rg_3_0 I)) ?_
  refine ov_blk (ls2 := [(0, ov_r 3), (1, ov_i dep), (2, ov_i v2), (3, ov_i v5)]) (st2 := [ov_i 40, ov_r 1]) (pc2 := 22) b_73_20_1 rfl rfl ?_
  refine ov_cV (as := [ov_i 40]) (st := []) (d2 := d - 1) d_73_22 lk_Reader_231 rfl (Nat.le_of_ble_eq_true rfl) (c := 8) (zb_1 I) (zs_1 I) ⟨by decide, rfl⟩ (by omega) (c_Tape_isSign_1 (d - 1) (by omega) U I 40 (by omega)) ?_
  rintro _ _ _ ⟨v8, rfl, rfl, rfl, f7⟩
  show ov_R u d ov_m73 25 [(0, ov_r 3), (1, ov_i dep), (2, ov_i v2), (3, ov_i v5)] [ov_i v8] z h (P_Reader_readPart_3_k3_1_58 F z h dep)
  have f9 : (v8 = 0 ∨ v8 = 1) := f7
  clear f7
  refine ov_blk (ls2 := [(0, ov_r 3), (1, ov_i dep), (2, ov_i v2), (3, ov_i v5), (4, ov_i v8)]) (st2 := [ov_i (-1), ov_i v2]) (pc2 := 29) b_73_25_3 rfl rfl ?_
  refine ov_icne (tgt := 47) d_73_29 (by decide) (by omega) (by omega) (fun c10 => ?_) (fun c10 => ?_)
  · skip
    refine ov_blk (ls2 := [(0, ov_r 3), (1, ov_i dep), (2, ov_i v2), (3, ov_i v5), (4, ov_i v8)]) (st2 := [ov_i 4, ov_i dep]) (pc2 := 49) b_73_47_2 rfl rfl ?_
    refine ov_icle (tgt := 58) d_73_49 (by decide) (by omega) (by omega) (fun c11 => ?_) (fun c11 => ?_)
    · skip
      refine ov_blk (ls2 := [(0, ov_r 3), (1, ov_i dep), (2, ov_i v2), (3, ov_i v5), (4, ov_i v8)]) (st2 := [ov_r 3]) (pc2 := 59) b_73_58_1 rfl rfl ?_
      refine ov_getf (v := ov_r 1) d_73_59 fl_Reader_9 (zb_3 I) (zs_3 I) (congrArg ov_r (rg_3_0 I)) ?_
      refine ov_cV (as := []) (st := []) (d2 := d - 1) d_73_62 lk_Reader_75 rfl (Nat.le_of_ble_eq_true rfl) (c := 8) (zb_1 I) (zs_1 I) ⟨by decide, rfl⟩ (by omega) (c_Tape_advance_1 (d - 1) (by omega) U I (ov_kws hw (by decide +kernel))) ?_
      rintro _ z13 h14 ⟨rfl, I15, f12⟩
      show ov_R u d ov_m73 65 [(0, ov_r 3), (1, ov_i dep), (2, ov_i v2), (3, ov_i v5), (4, ov_i v8)] [] z13 h14 (P_Reader_readPart_3_k3_1_58 F z h dep)
      have f16 : (h14 3 3) = (h 3 3) ∧ (h14 36 7) = (h 36 7) ∧ (h14 1 1) = (h 1 1) ∧ (h14 90 2) = (h 90 2) ∧ (h14 0 10) = (h 0 10) ∧ (h14 0 11) = (h 0 11) ∧ (h14 0 12) = (h 0 12) ∧ (h14 0 13) = (h 0 13) ∧ (h14 3 1) = (h 3 1) ∧ (h14 36 8) = (h 36 8) ∧ (h14 46 3) = (h 46 3) ∧ (h14 46 4) = (h 46 4) ∧ (h14 49 4) = (h 49 4) ∧ (h14 49 5) = (h 49 5) ∧ (h14 64 0) = (h 64 0) ∧ (h14 76 0) = (h 76 0) := f12
      clear f12
      have e17 : h14 3 1 = 58 := by omega
      refine ov_blk (ls2 := [(0, ov_r 3), (1, ov_i dep), (2, ov_i v2), (3, ov_i v5), (4, ov_i v8)]) (st2 := [ov_i v8]) (pc2 := 67) b_73_65_1 rfl rfl ?_
      refine ov_ifeq (tgt := 95) d_73_67 (by decide) (by omega) (fun c18 => ?_) (fun c18 => ?_)
      · skip
        refine ov_blk (ls2 := [(0, ov_r 3), (1, ov_i dep), (2, ov_i v2), (3, ov_i v5), (4, ov_i v8)]) (st2 := [ov_i v5]) (pc2 := 96) b_73_95_1 rfl rfl ?_
        refine ov_ifeq (tgt := 109) d_73_96 (by decide) (by omega) (fun c19 => ?_) (fun c19 => ?_)
        · skip
          refine ov_blk (ls2 := [(0, ov_r 3), (1, ov_i dep), (2, ov_i v2), (3, ov_i v5), (4, ov_i v8)]) (st2 := [ov_i 1]) (pc2 := 110) b_73_109_1 rfl rfl ?_
          refine ov_goto (tgt := 114) d_73_110 (by decide) ?_
          refine ov_blk (ls2 := [(0, ov_r 3), (1, ov_i dep), (2, ov_i v2), (3, ov_i v5), (4, ov_i v8), (5, ov_i 1)]) (st2 := [ov_r 3]) (pc2 := 117) b_73_114_2 rfl rfl ?_
          refine ov_getf (v := ov_r 58) d_73_117 fl_Reader_15 (zb_3 I15) (zs_3 I15) (congrArg ov_r e17) ?_
          refine ov_blk (ls2 := [(0, ov_r 3), (1, ov_i dep), (2, ov_i v2), (3, ov_i v5), (4, ov_i v8), (5, ov_i 1)]) (st2 := [ov_i v5, ov_r 58]) (pc2 := 121) b_73_120_1 rfl rfl ?_
          refine ov_ifeq (tgt := 128) d_73_121 (by decide) (by omega) (fun c20 => ?_) (fun c20 => ?_)
          · skip
            refine ov_blk (ls2 := [(0, ov_r 3), (1, ov_i dep), (2, ov_i v2), (3, ov_i v5), (4, ov_i v8), (5, ov_i 1)]) (st2 := [ov_i v2, ov_r 58]) (pc2 := 129) b_73_128_1 rfl rfl ?_
            refine ov_cV (as := [ov_i v2]) (st := []) (d2 := d - 1) d_73_129 lk_Reader_224 rfl (Nat.le_of_ble_eq_true rfl) (c := 9) (zb_58 I15) (zs_58 I15) ⟨by decide, rfl⟩ (by omega) (c_Town_addCode_58 (d - 1) (by omega) U I15 (ov_kws hw (by decide +kernel)) v2 (by omega)) ?_
            rintro _ z22 h23 ⟨rfl, I24, f21⟩
            show ov_R u d ov_m73 132 [(0, ov_r 3), (1, ov_i dep), (2, ov_i v2), (3, ov_i v5), (4, ov_i v8), (5, ov_i 1)] [] z22 h23 (P_Reader_readPart_3_k3_1_58 F z h dep)
            have f25 : (h23 3 2) = (h14 3 2) ∧ (h23 36 7) = (h14 36 7) ∧ (h23 1 1) = (h14 1 1) ∧ (h23 90 2) = (h14 90 2) ∧ (h23 0 10) = (h14 0 10) ∧ (h23 0 11) = (h14 0 11) ∧ (h23 0 12) = (h14 0 12) ∧ (h23 0 13) = (h14 0 13) ∧ (h23 3 1) = (h14 3 1) ∧ (h23 36 8) = (h14 36 8) ∧ (h23 46 3) = (h14 46 3) ∧ (h23 46 4) = (h14 46 4) ∧ (h23 49 4) = (h14 49 4) ∧ (h23 49 5) = (h14 49 5) ∧ (h23 64 0) = (h14 64 0) ∧ (h23 76 0) = (h14 76 0) := f21
            clear f21
            have e26 : h23 3 1 = 58 := by omega
            refine ov_blk (ls2 := [(0, ov_r 3), (1, ov_i dep), (2, ov_i v2), (3, ov_i v5), (4, ov_i v8), (5, ov_i 1)]) (st2 := [ov_i 1]) (pc2 := 134) b_73_132_1 rfl rfl ?_
            exact ov_retz (st := []) d_73_134 rfl (by omega) ⟨_, rfl, I24, (by show (1 = 0 ∧ 1 ≤ (h23 3 2) ∨ 1 = 1) ∧ (h23 36 7) = (h 36 7) ∧ (h23 1 1) = (h 1 1) ∧ (h23 90 2) = (h 90 2) ∧ (h23 0 10) = (h 0 10) ∧ (h23 0 11) = (h 0 11) ∧ (h23 0 12) = (h 0 12) ∧ (h23 0 13) = (h 0 13) ∧ (h23 3 1) = (h 3 1) ∧ (h23 36 8) = (h 36 8) ∧ (h23 46 3) = (h 46 3) ∧ (h23 46 4) = (h 46 4) ∧ (h23 49 4) = (h 49 4) ∧ (h23 49 5) = (h 49 5) ∧ (h23 64 0) = (h 64 0) ∧ (h23 76 0) = (h 76 0); omega)⟩
          · skip
            refine ov_blk (ls2 := [(0, ov_r 3), (1, ov_i dep), (2, ov_i v2), (3, ov_i v5), (4, ov_i v8), (5, ov_i 1)]) (st2 := [ov_i 0, ov_r 58]) (pc2 := 125) b_73_124_1 rfl rfl ?_
            refine ov_goto (tgt := 129) d_73_125 (by decide) ?_
            refine ov_cV (as := [ov_i 0]) (st := []) (d2 := d - 1) d_73_129 lk_Reader_224 rfl (Nat.le_of_ble_eq_true rfl) (c := 9) (zb_58 I15) (zs_58 I15) ⟨by decide, rfl⟩ (by omega) (c_Town_addCode_58 (d - 1) (by omega) U I15 (ov_kws hw (by decide +kernel)) 0 (by omega)) ?_
            rintro _ z28 h29 ⟨rfl, I30, f27⟩
            show ov_R u d ov_m73 132 [(0, ov_r 3), (1, ov_i dep), (2, ov_i v2), (3, ov_i v5), (4, ov_i v8), (5, ov_i 1)] [] z28 h29 (P_Reader_readPart_3_k3_1_58 F z h dep)
            have f31 : (h29 3 2) = (h14 3 2) ∧ (h29 36 7) = (h14 36 7) ∧ (h29 1 1) = (h14 1 1) ∧ (h29 90 2) = (h14 90 2) ∧ (h29 0 10) = (h14 0 10) ∧ (h29 0 11) = (h14 0 11) ∧ (h29 0 12) = (h14 0 12) ∧ (h29 0 13) = (h14 0 13) ∧ (h29 3 1) = (h14 3 1) ∧ (h29 36 8) = (h14 36 8) ∧ (h29 46 3) = (h14 46 3) ∧ (h29 46 4) = (h14 46 4) ∧ (h29 49 4) = (h14 49 4) ∧ (h29 49 5) = (h14 49 5) ∧ (h29 64 0) = (h14 64 0) ∧ (h29 76 0) = (h14 76 0) := f27
            clear f27
            have e32 : h29 3 1 = 58 := by omega
            refine ov_blk (ls2 := [(0, ov_r 3), (1, ov_i dep), (2, ov_i v2), (3, ov_i v5), (4, ov_i v8), (5, ov_i 1)]) (st2 := [ov_i 1]) (pc2 := 134) b_73_132_1 rfl rfl ?_
            exact ov_retz (st := []) d_73_134 rfl (by omega) ⟨_, rfl, I30, (by show (1 = 0 ∧ 1 ≤ (h29 3 2) ∨ 1 = 1) ∧ (h29 36 7) = (h 36 7) ∧ (h29 1 1) = (h 1 1) ∧ (h29 90 2) = (h 90 2) ∧ (h29 0 10) = (h 0 10) ∧ (h29 0 11) = (h 0 11) ∧ (h29 0 12) = (h 0 12) ∧ (h29 0 13) = (h 0 13) ∧ (h29 3 1) = (h 3 1) ∧ (h29 36 8) = (h 36 8) ∧ (h29 46 3) = (h 46 3) ∧ (h29 46 4) = (h 46 4) ∧ (h29 49 4) = (h 49 4) ∧ (h29 49 5) = (h 49 5) ∧ (h29 64 0) = (h 64 0) ∧ (h29 76 0) = (h 76 0); omega)⟩
        · skip
          refine ov_blk (ls2 := [(0, ov_r 3), (1, ov_i dep), (2, ov_i v2), (3, ov_i v5), (4, ov_i v8)]) (st2 := [ov_i (dep + 1), ov_r 3]) (pc2 := 103) b_73_99_4 rfl rfl ?_
          refine ov_cV (as := [ov_i (dep + 1)]) (st := []) (d2 := d - 1) d_73_103 lk_Reader_237 rfl (Nat.le_of_ble_eq_true rfl) (c := 6) (zb_3 I15) (zs_3 I15) ⟨by decide, rfl⟩ (by omega) (HP (k - 1) (by omega) (d - 1) (by omega) U I15 (ov_kws hw (by decide +kernel)) (dep + 1) e17 (by omega) (by omega)) ?_
          rintro _ z35 h36 ⟨v34, rfl, I37, f33⟩
          show ov_R u d ov_m73 106 [(0, ov_r 3), (1, ov_i dep), (2, ov_i v2), (3, ov_i v5), (4, ov_i v8)] [ov_i v34] z35 h36 (P_Reader_readPart_3_k3_1_58 F z h dep)
          have f38 : (v34 = 0 ∧ 1 ≤ (h36 3 2) ∨ v34 = 1) ∧ (h36 36 7) = (h14 36 7) ∧ (h36 1 1) = (h14 1 1) ∧ (h36 90 2) = (h14 90 2) ∧ (h36 0 10) = (h14 0 10) ∧ (h36 0 11) = (h14 0 11) ∧ (h36 0 12) = (h14 0 12) ∧ (h36 0 13) = (h14 0 13) ∧ (h36 3 1) = (h14 3 1) ∧ (h36 36 8) = (h14 36 8) ∧ (h36 46 3) = (h14 46 3) ∧ (h36 46 4) = (h14 46 4) ∧ (h36 49 4) = (h14 49 4) ∧ (h36 49 5) = (h14 49 5) ∧ (h36 64 0) = (h14 64 0) ∧ (h36 76 0) = (h14 76 0) := f33
          clear f33
          have e39 : h36 3 1 = 58 := by omega
          refine ov_ifeq (tgt := 113) d_73_106 (by decide) (by omega) (fun c40 => ?_) (fun c40 => ?_)
          · skip
            refine ov_blk (ls2 := [(0, ov_r 3), (1, ov_i dep), (2, ov_i v2), (3, ov_i v5), (4, ov_i v8), (5, ov_i 0)]) (st2 := [ov_r 3]) (pc2 := 117) b_73_113_3 rfl rfl ?_
            refine ov_getf (v := ov_r 58) d_73_117 fl_Reader_15 (zb_3 I37) (zs_3 I37) (congrArg ov_r e39) ?_
            refine ov_blk (ls2 := [(0, ov_r 3), (1, ov_i dep), (2, ov_i v2), (3, ov_i v5), (4, ov_i v8), (5, ov_i 0)]) (st2 := [ov_i v5, ov_r 58]) (pc2 := 121) b_73_120_1 rfl rfl ?_
            refine ov_ifeq (tgt := 128) d_73_121 (by decide) (by omega) (fun c41 => ?_) (fun c41 => ?_)
            · skip
              refine ov_blk (ls2 := [(0, ov_r 3), (1, ov_i dep), (2, ov_i v2), (3, ov_i v5), (4, ov_i v8), (5, ov_i 0)]) (st2 := [ov_i v2, ov_r 58]) (pc2 := 129) b_73_128_1 rfl rfl ?_
              refine ov_cV (as := [ov_i v2]) (st := []) (d2 := d - 1) d_73_129 lk_Reader_224 rfl (Nat.le_of_ble_eq_true rfl) (c := 9) (zb_58 I37) (zs_58 I37) ⟨by decide, rfl⟩ (by omega) (c_Town_addCode_58 (d - 1) (by omega) U I37 (ov_kws hw (by decide +kernel)) v2 (by omega)) ?_
              rintro _ z43 h44 ⟨rfl, I45, f42⟩
              show ov_R u d ov_m73 132 [(0, ov_r 3), (1, ov_i dep), (2, ov_i v2), (3, ov_i v5), (4, ov_i v8), (5, ov_i 0)] [] z43 h44 (P_Reader_readPart_3_k3_1_58 F z h dep)
              have f46 : (h44 3 2) = (h36 3 2) ∧ (h44 36 7) = (h36 36 7) ∧ (h44 1 1) = (h36 1 1) ∧ (h44 90 2) = (h36 90 2) ∧ (h44 0 10) = (h36 0 10) ∧ (h44 0 11) = (h36 0 11) ∧ (h44 0 12) = (h36 0 12) ∧ (h44 0 13) = (h36 0 13) ∧ (h44 3 1) = (h36 3 1) ∧ (h44 36 8) = (h36 36 8) ∧ (h44 46 3) = (h36 46 3) ∧ (h44 46 4) = (h36 46 4) ∧ (h44 49 4) = (h36 49 4) ∧ (h44 49 5) = (h36 49 5) ∧ (h44 64 0) = (h36 64 0) ∧ (h44 76 0) = (h36 76 0) := f42
              clear f42
              have e47 : h44 3 1 = 58 := by omega
              refine ov_blk (ls2 := [(0, ov_r 3), (1, ov_i dep), (2, ov_i v2), (3, ov_i v5), (4, ov_i v8), (5, ov_i 0)]) (st2 := [ov_i 0]) (pc2 := 134) b_73_132_1 rfl rfl ?_
              exact ov_retz (st := []) d_73_134 rfl (by omega) ⟨_, rfl, I45, (by show (0 = 0 ∧ 1 ≤ (h44 3 2) ∨ 0 = 1) ∧ (h44 36 7) = (h 36 7) ∧ (h44 1 1) = (h 1 1) ∧ (h44 90 2) = (h 90 2) ∧ (h44 0 10) = (h 0 10) ∧ (h44 0 11) = (h 0 11) ∧ (h44 0 12) = (h 0 12) ∧ (h44 0 13) = (h 0 13) ∧ (h44 3 1) = (h 3 1) ∧ (h44 36 8) = (h 36 8) ∧ (h44 46 3) = (h 46 3) ∧ (h44 46 4) = (h 46 4) ∧ (h44 49 4) = (h 49 4) ∧ (h44 49 5) = (h 49 5) ∧ (h44 64 0) = (h 64 0) ∧ (h44 76 0) = (h 76 0); omega)⟩
            · skip
              refine ov_blk (ls2 := [(0, ov_r 3), (1, ov_i dep), (2, ov_i v2), (3, ov_i v5), (4, ov_i v8), (5, ov_i 0)]) (st2 := [ov_i 0, ov_r 58]) (pc2 := 125) b_73_124_1 rfl rfl ?_
              refine ov_goto (tgt := 129) d_73_125 (by decide) ?_
              refine ov_cV (as := [ov_i 0]) (st := []) (d2 := d - 1) d_73_129 lk_Reader_224 rfl (Nat.le_of_ble_eq_true rfl) (c := 9) (zb_58 I37) (zs_58 I37) ⟨by decide, rfl⟩ (by omega) (c_Town_addCode_58 (d - 1) (by omega) U I37 (ov_kws hw (by decide +kernel)) 0 (by omega)) ?_
              rintro _ z49 h50 ⟨rfl, I51, f48⟩
              show ov_R u d ov_m73 132 [(0, ov_r 3), (1, ov_i dep), (2, ov_i v2), (3, ov_i v5), (4, ov_i v8), (5, ov_i 0)] [] z49 h50 (P_Reader_readPart_3_k3_1_58 F z h dep)
              have f52 : (h50 3 2) = (h36 3 2) ∧ (h50 36 7) = (h36 36 7) ∧ (h50 1 1) = (h36 1 1) ∧ (h50 90 2) = (h36 90 2) ∧ (h50 0 10) = (h36 0 10) ∧ (h50 0 11) = (h36 0 11) ∧ (h50 0 12) = (h36 0 12) ∧ (h50 0 13) = (h36 0 13) ∧ (h50 3 1) = (h36 3 1) ∧ (h50 36 8) = (h36 36 8) ∧ (h50 46 3) = (h36 46 3) ∧ (h50 46 4) = (h36 46 4) ∧ (h50 49 4) = (h36 49 4) ∧ (h50 49 5) = (h36 49 5) ∧ (h50 64 0) = (h36 64 0) ∧ (h50 76 0) = (h36 76 0) := f48
              clear f48
              have e53 : h50 3 1 = 58 := by omega
              refine ov_blk (ls2 := [(0, ov_r 3), (1, ov_i dep), (2, ov_i v2), (3, ov_i v5), (4, ov_i v8), (5, ov_i 0)]) (st2 := [ov_i 0]) (pc2 := 134) b_73_132_1 rfl rfl ?_
              exact ov_retz (st := []) d_73_134 rfl (by omega) ⟨_, rfl, I51, (by show (0 = 0 ∧ 1 ≤ (h50 3 2) ∨ 0 = 1) ∧ (h50 36 7) = (h 36 7) ∧ (h50 1 1) = (h 1 1) ∧ (h50 90 2) = (h 90 2) ∧ (h50 0 10) = (h 0 10) ∧ (h50 0 11) = (h 0 11) ∧ (h50 0 12) = (h 0 12) ∧ (h50 0 13) = (h 0 13) ∧ (h50 3 1) = (h 3 1) ∧ (h50 36 8) = (h 36 8) ∧ (h50 46 3) = (h 46 3) ∧ (h50 46 4) = (h 46 4) ∧ (h50 49 4) = (h 49 4) ∧ (h50 49 5) = (h 49 5) ∧ (h50 64 0) = (h 64 0) ∧ (h50 76 0) = (h 76 0); omega)⟩
          · skip
            refine ov_blk (ls2 := [(0, ov_r 3), (1, ov_i dep), (2, ov_i v2), (3, ov_i v5), (4, ov_i v8)]) (st2 := [ov_i 1]) (pc2 := 110) b_73_109_1 rfl rfl ?_
            refine ov_goto (tgt := 114) d_73_110 (by decide) ?_
            refine ov_blk (ls2 := [(0, ov_r 3), (1, ov_i dep), (2, ov_i v2), (3, ov_i v5), (4, ov_i v8), (5, ov_i 1)]) (st2 := [ov_r 3]) (pc2 := 117) b_73_114_2 rfl rfl ?_
            refine ov_getf (v := ov_r 58) d_73_117 fl_Reader_15 (zb_3 I37) (zs_3 I37) (congrArg ov_r e39) ?_
            refine ov_blk (ls2 := [(0, ov_r 3), (1, ov_i dep), (2, ov_i v2), (3, ov_i v5), (4, ov_i v8), (5, ov_i 1)]) (st2 := [ov_i v5, ov_r 58]) (pc2 := 121) b_73_120_1 rfl rfl ?_
            refine ov_ifeq (tgt := 128) d_73_121 (by decide) (by omega) (fun c54 => ?_) (fun c54 => ?_)
            · skip
              refine ov_blk (ls2 := [(0, ov_r 3), (1, ov_i dep), (2, ov_i v2), (3, ov_i v5), (4, ov_i v8), (5, ov_i 1)]) (st2 := [ov_i v2, ov_r 58]) (pc2 := 129) b_73_128_1 rfl rfl ?_
              refine ov_cV (as := [ov_i v2]) (st := []) (d2 := d - 1) d_73_129 lk_Reader_224 rfl (Nat.le_of_ble_eq_true rfl) (c := 9) (zb_58 I37) (zs_58 I37) ⟨by decide, rfl⟩ (by omega) (c_Town_addCode_58 (d - 1) (by omega) U I37 (ov_kws hw (by decide +kernel)) v2 (by omega)) ?_
              rintro _ z56 h57 ⟨rfl, I58, f55⟩
              show ov_R u d ov_m73 132 [(0, ov_r 3), (1, ov_i dep), (2, ov_i v2), (3, ov_i v5), (4, ov_i v8), (5, ov_i 1)] [] z56 h57 (P_Reader_readPart_3_k3_1_58 F z h dep)
              have f59 : (h57 3 2) = (h36 3 2) ∧ (h57 36 7) = (h36 36 7) ∧ (h57 1 1) = (h36 1 1) ∧ (h57 90 2) = (h36 90 2) ∧ (h57 0 10) = (h36 0 10) ∧ (h57 0 11) = (h36 0 11) ∧ (h57 0 12) = (h36 0 12) ∧ (h57 0 13) = (h36 0 13) ∧ (h57 3 1) = (h36 3 1) ∧ (h57 36 8) = (h36 36 8) ∧ (h57 46 3) = (h36 46 3) ∧ (h57 46 4) = (h36 46 4) ∧ (h57 49 4) = (h36 49 4) ∧ (h57 49 5) = (h36 49 5) ∧ (h57 64 0) = (h36 64 0) ∧ (h57 76 0) = (h36 76 0) := f55
              clear f55
              have e60 : h57 3 1 = 58 := by omega
              refine ov_blk (ls2 := [(0, ov_r 3), (1, ov_i dep), (2, ov_i v2), (3, ov_i v5), (4, ov_i v8), (5, ov_i 1)]) (st2 := [ov_i 1]) (pc2 := 134) b_73_132_1 rfl rfl ?_
              exact ov_retz (st := []) d_73_134 rfl (by omega) ⟨_, rfl, I58, (by show (1 = 0 ∧ 1 ≤ (h57 3 2) ∨ 1 = 1) ∧ (h57 36 7) = (h 36 7) ∧ (h57 1 1) = (h 1 1) ∧ (h57 90 2) = (h 90 2) ∧ (h57 0 10) = (h 0 10) ∧ (h57 0 11) = (h 0 11) ∧ (h57 0 12) = (h 0 12) ∧ (h57 0 13) = (h 0 13) ∧ (h57 3 1) = (h 3 1) ∧ (h57 36 8) = (h 36 8) ∧ (h57 46 3) = (h 46 3) ∧ (h57 46 4) = (h 46 4) ∧ (h57 49 4) = (h 49 4) ∧ (h57 49 5) = (h 49 5) ∧ (h57 64 0) = (h 64 0) ∧ (h57 76 0) = (h 76 0); omega)⟩
            · skip
              refine ov_blk (ls2 := [(0, ov_r 3), (1, ov_i dep), (2, ov_i v2), (3, ov_i v5), (4, ov_i v8), (5, ov_i 1)]) (st2 := [ov_i 0, ov_r 58]) (pc2 := 125) b_73_124_1 rfl rfl ?_
              refine ov_goto (tgt := 129) d_73_125 (by decide) ?_
              refine ov_cV (as := [ov_i 0]) (st := []) (d2 := d - 1) d_73_129 lk_Reader_224 rfl (Nat.le_of_ble_eq_true rfl) (c := 9) (zb_58 I37) (zs_58 I37) ⟨by decide, rfl⟩ (by omega) (c_Town_addCode_58 (d - 1) (by omega) U I37 (ov_kws hw (by decide +kernel)) 0 (by omega)) ?_
              rintro _ z62 h63 ⟨rfl, I64, f61⟩
              show ov_R u d ov_m73 132 [(0, ov_r 3), (1, ov_i dep), (2, ov_i v2), (3, ov_i v5), (4, ov_i v8), (5, ov_i 1)] [] z62 h63 (P_Reader_readPart_3_k3_1_58 F z h dep)
              have f65 : (h63 3 2) = (h36 3 2) ∧ (h63 36 7) = (h36 36 7) ∧ (h63 1 1) = (h36 1 1) ∧ (h63 90 2) = (h36 90 2) ∧ (h63 0 10) = (h36 0 10) ∧ (h63 0 11) = (h36 0 11) ∧ (h63 0 12) = (h36 0 12) ∧ (h63 0 13) = (h36 0 13) ∧ (h63 3 1) = (h36 3 1) ∧ (h63 36 8) = (h36 36 8) ∧ (h63 46 3) = (h36 46 3) ∧ (h63 46 4) = (h36 46 4) ∧ (h63 49 4) = (h36 49 4) ∧ (h63 49 5) = (h36 49 5) ∧ (h63 64 0) = (h36 64 0) ∧ (h63 76 0) = (h36 76 0) := f61
              clear f61
              have e66 : h63 3 1 = 58 := by omega
              refine ov_blk (ls2 := [(0, ov_r 3), (1, ov_i dep), (2, ov_i v2), (3, ov_i v5), (4, ov_i v8), (5, ov_i 1)]) (st2 := [ov_i 1]) (pc2 := 134) b_73_132_1 rfl rfl ?_
              exact ov_retz (st := []) d_73_134 rfl (by omega) ⟨_, rfl, I64, (by show (1 = 0 ∧ 1 ≤ (h63 3 2) ∨ 1 = 1) ∧ (h63 36 7) = (h 36 7) ∧ (h63 1 1) = (h 1 1) ∧ (h63 90 2) = (h 90 2) ∧ (h63 0 10) = (h 0 10) ∧ (h63 0 11) = (h 0 11) ∧ (h63 0 12) = (h 0 12) ∧ (h63 0 13) = (h 0 13) ∧ (h63 3 1) = (h 3 1) ∧ (h63 36 8) = (h 36 8) ∧ (h63 46 3) = (h 46 3) ∧ (h63 46 4) = (h 46 4) ∧ (h63 49 4) = (h 49 4) ∧ (h63 49 5) = (h 49 5) ∧ (h63 64 0) = (h 64 0) ∧ (h63 76 0) = (h 76 0); omega)⟩
      · skip
        refine ov_blk (ls2 := [(0, ov_r 3), (1, ov_i dep), (2, ov_i v2), (3, ov_i v5), (4, ov_i v8)]) (st2 := [ov_i (dep + 1), ov_r 3]) (pc2 := 74) b_73_70_4 rfl rfl ?_
        refine ov_cV (as := [ov_i (dep + 1)]) (st := []) (d2 := d - 1) d_73_74 lk_Reader_210 rfl (Nat.le_of_ble_eq_true rfl) (c := 6) (zb_3 I15) (zs_3 I15) ⟨by decide, rfl⟩ (by omega) (HE (k - 1) (by omega) (d - 1) (by omega) U I15 (ov_kws hw (by decide +kernel)) (dep + 1) e17 (by omega) (by omega)) ?_
        rintro _ z69 h70 ⟨v68, rfl, I71, f67⟩
        show ov_R u d ov_m73 77 [(0, ov_r 3), (1, ov_i dep), (2, ov_i v2), (3, ov_i v5), (4, ov_i v8)] [ov_i v68] z69 h70 (P_Reader_readPart_3_k3_1_58 F z h dep)
        have f72 : (v68 = 0 ∧ 1 ≤ (h70 3 2) ∨ v68 = 1) ∧ (h70 36 7) = (h14 36 7) ∧ (h70 1 1) = (h14 1 1) ∧ (h70 90 2) = (h14 90 2) ∧ (h70 0 10) = (h14 0 10) ∧ (h70 0 11) = (h14 0 11) ∧ (h70 0 12) = (h14 0 12) ∧ (h70 0 13) = (h14 0 13) ∧ (h70 3 1) = (h14 3 1) ∧ (h70 36 8) = (h14 36 8) ∧ (h70 46 3) = (h14 46 3) ∧ (h70 46 4) = (h14 46 4) ∧ (h70 49 4) = (h14 49 4) ∧ (h70 49 5) = (h14 49 5) ∧ (h70 64 0) = (h14 64 0) ∧ (h70 76 0) = (h14 76 0) := f67
        clear f67
        have e73 : h70 3 1 = 58 := by omega
        refine ov_ifeq (tgt := 93) d_73_77 (by decide) (by omega) (fun c74 => ?_) (fun c74 => ?_)
        · skip
          refine ov_blk (ls2 := [(0, ov_r 3), (1, ov_i dep), (2, ov_i v2), (3, ov_i v5), (4, ov_i v8)]) (st2 := [ov_i 0]) (pc2 := 94) b_73_93_1 rfl rfl ?_
          exact ov_retz (st := []) d_73_94 rfl (by omega) ⟨_, rfl, I71, (by show (0 = 0 ∧ 1 ≤ (h70 3 2) ∨ 0 = 1) ∧ (h70 36 7) = (h 36 7) ∧ (h70 1 1) = (h 1 1) ∧ (h70 90 2) = (h 90 2) ∧ (h70 0 10) = (h 0 10) ∧ (h70 0 11) = (h 0 11) ∧ (h70 0 12) = (h 0 12) ∧ (h70 0 13) = (h 0 13) ∧ (h70 3 1) = (h 3 1) ∧ (h70 36 8) = (h 36 8) ∧ (h70 46 3) = (h 46 3) ∧ (h70 46 4) = (h 46 4) ∧ (h70 49 4) = (h 49 4) ∧ (h70 49 5) = (h 49 5) ∧ (h70 64 0) = (h 64 0) ∧ (h70 76 0) = (h 76 0); omega)⟩
        · skip
          refine ov_blk (ls2 := [(0, ov_r 3), (1, ov_i dep), (2, ov_i v2), (3, ov_i v5), (4, ov_i v8)]) (st2 := [ov_i 41, ov_r 3]) (pc2 := 83) b_73_80_2 rfl rfl ?_
          refine ov_cV (as := [ov_i 41]) (st := []) (d2 := d - 1) d_73_83 lk_Reader_92 rfl (Nat.le_of_ble_eq_true rfl) (c := 6) (zb_3 I71) (zs_3 I71) ⟨by decide, rfl⟩ (by omega) (c_Reader_takeSign_3_k3_1_58 (d - 1) (by omega) U I71 (ov_kws hw (by decide +kernel)) 41 e73 (by omega)) ?_
          rintro _ z77 h78 ⟨v76, rfl, I79, f75⟩
          show ov_R u d ov_m73 86 [(0, ov_r 3), (1, ov_i dep), (2, ov_i v2), (3, ov_i v5), (4, ov_i v8)] [ov_i v76] z77 h78 (P_Reader_readPart_3_k3_1_58 F z h dep)
          have f80 : (v76 = 0 ∧ 1 ≤ (h78 3 2) ∨ v76 = 1) ∧ (h78 36 7) = (h70 36 7) ∧ (h78 1 1) = (h70 1 1) ∧ (h78 90 2) = (h70 90 2) ∧ (h78 0 10) = (h70 0 10) ∧ (h78 0 11) = (h70 0 11) ∧ (h78 0 12) = (h70 0 12) ∧ (h78 0 13) = (h70 0 13) ∧ (h78 3 1) = (h70 3 1) ∧ (h78 36 8) = (h70 36 8) ∧ (h78 46 3) = (h70 46 3) ∧ (h78 46 4) = (h70 46 4) ∧ (h78 49 4) = (h70 49 4) ∧ (h78 49 5) = (h70 49 5) ∧ (h78 64 0) = (h70 64 0) ∧ (h78 76 0) = (h70 76 0) := f75
          clear f75
          have e81 : h78 3 1 = 58 := by omega
          refine ov_ifeq (tgt := 93) d_73_86 (by decide) (by omega) (fun c82 => ?_) (fun c82 => ?_)
          · skip
            refine ov_blk (ls2 := [(0, ov_r 3), (1, ov_i dep), (2, ov_i v2), (3, ov_i v5), (4, ov_i v8)]) (st2 := [ov_i 0]) (pc2 := 94) b_73_93_1 rfl rfl ?_
            exact ov_retz (st := []) d_73_94 rfl (by omega) ⟨_, rfl, I79, (by show (0 = 0 ∧ 1 ≤ (h78 3 2) ∨ 0 = 1) ∧ (h78 36 7) = (h 36 7) ∧ (h78 1 1) = (h 1 1) ∧ (h78 90 2) = (h 90 2) ∧ (h78 0 10) = (h 0 10) ∧ (h78 0 11) = (h 0 11) ∧ (h78 0 12) = (h 0 12) ∧ (h78 0 13) = (h 0 13) ∧ (h78 3 1) = (h 3 1) ∧ (h78 36 8) = (h 36 8) ∧ (h78 46 3) = (h 46 3) ∧ (h78 46 4) = (h 46 4) ∧ (h78 49 4) = (h 49 4) ∧ (h78 49 5) = (h 49 5) ∧ (h78 64 0) = (h 64 0) ∧ (h78 76 0) = (h 76 0); omega)⟩
          · skip
            refine ov_blk (ls2 := [(0, ov_r 3), (1, ov_i dep), (2, ov_i v2), (3, ov_i v5), (4, ov_i v8)]) (st2 := [ov_i 1]) (pc2 := 90) b_73_89_1 rfl rfl ?_
            refine ov_goto (tgt := 94) d_73_90 (by decide) ?_
            exact ov_retz (st := []) d_73_94 rfl (by omega) ⟨_, rfl, I79, (by show (1 = 0 ∧ 1 ≤ (h78 3 2) ∨ 1 = 1) ∧ (h78 36 7) = (h 36 7) ∧ (h78 1 1) = (h 1 1) ∧ (h78 90 2) = (h 90 2) ∧ (h78 0 10) = (h 0 10) ∧ (h78 0 11) = (h 0 11) ∧ (h78 0 12) = (h 0 12) ∧ (h78 0 13) = (h 0 13) ∧ (h78 3 1) = (h 3 1) ∧ (h78 36 8) = (h 36 8) ∧ (h78 46 3) = (h 46 3) ∧ (h78 46 4) = (h 46 4) ∧ (h78 49 4) = (h 49 4) ∧ (h78 49 5) = (h 49 5) ∧ (h78 64 0) = (h 64 0) ∧ (h78 76 0) = (h 76 0); omega)⟩
    · skip
      refine ov_blk (ls2 := [(0, ov_r 3), (1, ov_i dep), (2, ov_i v2), (3, ov_i v5), (4, ov_i v8)]) (st2 := [ov_i 5, ov_r 3]) (pc2 := 54) b_73_52_2 rfl rfl ?_
      refine ov_cV (as := [ov_i 5]) (st := []) (d2 := d - 1) d_73_54 lk_Reader_58 rfl (Nat.le_of_ble_eq_true rfl) (c := 6) (zb_3 I) (zs_3 I) ⟨by decide, rfl⟩ (by omega) (c_Reader_fail_3_k3_1_58 (d - 1) (by omega) U I (ov_kws hw (by decide +kernel)) 5 k0 (by omega) (by omega)) ?_
      rintro _ z85 h86 ⟨v84, rfl, I87, f83⟩
      show ov_R u d ov_m73 57 [(0, ov_r 3), (1, ov_i dep), (2, ov_i v2), (3, ov_i v5), (4, ov_i v8)] [ov_i v84] z85 h86 (P_Reader_readPart_3_k3_1_58 F z h dep)
      have f88 : v84 = 0 ∧ 1 ≤ (h86 3 2) ∧ (h86 36 7) = (h 36 7) ∧ (h86 1 1) = (h 1 1) ∧ (h86 90 2) = (h 90 2) ∧ (h86 0 10) = (h 0 10) ∧ (h86 0 11) = (h 0 11) ∧ (h86 0 12) = (h 0 12) ∧ (h86 0 13) = (h 0 13) ∧ (h86 3 1) = (h 3 1) ∧ (h86 36 8) = (h 36 8) ∧ (h86 46 3) = (h 46 3) ∧ (h86 46 4) = (h 46 4) ∧ (h86 49 4) = (h 49 4) ∧ (h86 49 5) = (h 49 5) ∧ (h86 64 0) = (h 64 0) ∧ (h86 76 0) = (h 76 0) := f83
      clear f83
      have e89 : h86 3 1 = 58 := by omega
      exact ov_retz (st := []) d_73_57 rfl (by omega) ⟨_, rfl, I87, (by show (v84 = 0 ∧ 1 ≤ (h86 3 2) ∨ v84 = 1) ∧ (h86 36 7) = (h 36 7) ∧ (h86 1 1) = (h 1 1) ∧ (h86 90 2) = (h 90 2) ∧ (h86 0 10) = (h 0 10) ∧ (h86 0 11) = (h 0 11) ∧ (h86 0 12) = (h 0 12) ∧ (h86 0 13) = (h 0 13) ∧ (h86 3 1) = (h 3 1) ∧ (h86 36 8) = (h 36 8) ∧ (h86 46 3) = (h 46 3) ∧ (h86 46 4) = (h 46 4) ∧ (h86 49 4) = (h 49 4) ∧ (h86 49 5) = (h 49 5) ∧ (h86 64 0) = (h 64 0) ∧ (h86 76 0) = (h 76 0); omega)⟩
  · skip
    refine ov_blk (ls2 := [(0, ov_r 3), (1, ov_i dep), (2, ov_i v2), (3, ov_i v5), (4, ov_i v8)]) (st2 := [ov_i v5]) (pc2 := 33) b_73_32_1 rfl rfl ?_
    refine ov_ifne (tgt := 47) d_73_33 (by decide) (by omega) (fun c90 => ?_) (fun c90 => ?_)
    · skip
      refine ov_blk (ls2 := [(0, ov_r 3), (1, ov_i dep), (2, ov_i v2), (3, ov_i v5), (4, ov_i v8)]) (st2 := [ov_i 4, ov_i dep]) (pc2 := 49) b_73_47_2 rfl rfl ?_
      refine ov_icle (tgt := 58) d_73_49 (by decide) (by omega) (by omega) (fun c91 => ?_) (fun c91 => ?_)
      · skip
        refine ov_blk (ls2 := [(0, ov_r 3), (1, ov_i dep), (2, ov_i v2), (3, ov_i v5), (4, ov_i v8)]) (st2 := [ov_r 3]) (pc2 := 59) b_73_58_1 rfl rfl ?_
        refine ov_getf (v := ov_r 1) d_73_59 fl_Reader_9 (zb_3 I) (zs_3 I) (congrArg ov_r (rg_3_0 I)) ?_
        refine ov_cV (as := []) (st := []) (d2 := d - 1) d_73_62 lk_Reader_75 rfl (Nat.le_of_ble_eq_true rfl) (c := 8) (zb_1 I) (zs_1 I) ⟨by decide, rfl⟩ (by omega) (c_Tape_advance_1 (d - 1) (by omega) U I (ov_kws hw (by decide +kernel))) ?_
        rintro _ z93 h94 ⟨rfl, I95, f92⟩
        show ov_R u d ov_m73 65 [(0, ov_r 3), (1, ov_i dep), (2, ov_i v2), (3, ov_i v5), (4, ov_i v8)] [] z93 h94 (P_Reader_readPart_3_k3_1_58 F z h dep)
        have f96 : (h94 3 3) = (h 3 3) ∧ (h94 36 7) = (h 36 7) ∧ (h94 1 1) = (h 1 1) ∧ (h94 90 2) = (h 90 2) ∧ (h94 0 10) = (h 0 10) ∧ (h94 0 11) = (h 0 11) ∧ (h94 0 12) = (h 0 12) ∧ (h94 0 13) = (h 0 13) ∧ (h94 3 1) = (h 3 1) ∧ (h94 36 8) = (h 36 8) ∧ (h94 46 3) = (h 46 3) ∧ (h94 46 4) = (h 46 4) ∧ (h94 49 4) = (h 49 4) ∧ (h94 49 5) = (h 49 5) ∧ (h94 64 0) = (h 64 0) ∧ (h94 76 0) = (h 76 0) := f92
        clear f92
        have e97 : h94 3 1 = 58 := by omega
        refine ov_blk (ls2 := [(0, ov_r 3), (1, ov_i dep), (2, ov_i v2), (3, ov_i v5), (4, ov_i v8)]) (st2 := [ov_i v8]) (pc2 := 67) b_73_65_1 rfl rfl ?_
        refine ov_ifeq (tgt := 95) d_73_67 (by decide) (by omega) (fun c98 => ?_) (fun c98 => ?_)
        · skip
          refine ov_blk (ls2 := [(0, ov_r 3), (1, ov_i dep), (2, ov_i v2), (3, ov_i v5), (4, ov_i v8)]) (st2 := [ov_i v5]) (pc2 := 96) b_73_95_1 rfl rfl ?_
          refine ov_ifeq (tgt := 109) d_73_96 (by decide) (by omega) (fun c99 => ?_) (fun c99 => ?_)
          · skip
            refine ov_blk (ls2 := [(0, ov_r 3), (1, ov_i dep), (2, ov_i v2), (3, ov_i v5), (4, ov_i v8)]) (st2 := [ov_i 1]) (pc2 := 110) b_73_109_1 rfl rfl ?_
            refine ov_goto (tgt := 114) d_73_110 (by decide) ?_
            refine ov_blk (ls2 := [(0, ov_r 3), (1, ov_i dep), (2, ov_i v2), (3, ov_i v5), (4, ov_i v8), (5, ov_i 1)]) (st2 := [ov_r 3]) (pc2 := 117) b_73_114_2 rfl rfl ?_
            refine ov_getf (v := ov_r 58) d_73_117 fl_Reader_15 (zb_3 I95) (zs_3 I95) (congrArg ov_r e97) ?_
            refine ov_blk (ls2 := [(0, ov_r 3), (1, ov_i dep), (2, ov_i v2), (3, ov_i v5), (4, ov_i v8), (5, ov_i 1)]) (st2 := [ov_i v5, ov_r 58]) (pc2 := 121) b_73_120_1 rfl rfl ?_
            refine ov_ifeq (tgt := 128) d_73_121 (by decide) (by omega) (fun c100 => ?_) (fun c100 => ?_)
            · skip
              refine ov_blk (ls2 := [(0, ov_r 3), (1, ov_i dep), (2, ov_i v2), (3, ov_i v5), (4, ov_i v8), (5, ov_i 1)]) (st2 := [ov_i v2, ov_r 58]) (pc2 := 129) b_73_128_1 rfl rfl ?_
              refine ov_cV (as := [ov_i v2]) (st := []) (d2 := d - 1) d_73_129 lk_Reader_224 rfl (Nat.le_of_ble_eq_true rfl) (c := 9) (zb_58 I95) (zs_58 I95) ⟨by decide, rfl⟩ (by omega) (c_Town_addCode_58 (d - 1) (by omega) U I95 (ov_kws hw (by decide +kernel)) v2 (by omega)) ?_
              rintro _ z102 h103 ⟨rfl, I104, f101⟩
              show ov_R u d ov_m73 132 [(0, ov_r 3), (1, ov_i dep), (2, ov_i v2), (3, ov_i v5), (4, ov_i v8), (5, ov_i 1)] [] z102 h103 (P_Reader_readPart_3_k3_1_58 F z h dep)
              have f105 : (h103 3 2) = (h94 3 2) ∧ (h103 36 7) = (h94 36 7) ∧ (h103 1 1) = (h94 1 1) ∧ (h103 90 2) = (h94 90 2) ∧ (h103 0 10) = (h94 0 10) ∧ (h103 0 11) = (h94 0 11) ∧ (h103 0 12) = (h94 0 12) ∧ (h103 0 13) = (h94 0 13) ∧ (h103 3 1) = (h94 3 1) ∧ (h103 36 8) = (h94 36 8) ∧ (h103 46 3) = (h94 46 3) ∧ (h103 46 4) = (h94 46 4) ∧ (h103 49 4) = (h94 49 4) ∧ (h103 49 5) = (h94 49 5) ∧ (h103 64 0) = (h94 64 0) ∧ (h103 76 0) = (h94 76 0) := f101
              clear f101
              have e106 : h103 3 1 = 58 := by omega
              refine ov_blk (ls2 := [(0, ov_r 3), (1, ov_i dep), (2, ov_i v2), (3, ov_i v5), (4, ov_i v8), (5, ov_i 1)]) (st2 := [ov_i 1]) (pc2 := 134) b_73_132_1 rfl rfl ?_
              exact ov_retz (st := []) d_73_134 rfl (by omega) ⟨_, rfl, I104, (by show (1 = 0 ∧ 1 ≤ (h103 3 2) ∨ 1 = 1) ∧ (h103 36 7) = (h 36 7) ∧ (h103 1 1) = (h 1 1) ∧ (h103 90 2) = (h 90 2) ∧ (h103 0 10) = (h 0 10) ∧ (h103 0 11) = (h 0 11) ∧ (h103 0 12) = (h 0 12) ∧ (h103 0 13) = (h 0 13) ∧ (h103 3 1) = (h 3 1) ∧ (h103 36 8) = (h 36 8) ∧ (h103 46 3) = (h 46 3) ∧ (h103 46 4) = (h 46 4) ∧ (h103 49 4) = (h 49 4) ∧ (h103 49 5) = (h 49 5) ∧ (h103 64 0) = (h 64 0) ∧ (h103 76 0) = (h 76 0); omega)⟩
            · skip
              refine ov_blk (ls2 := [(0, ov_r 3), (1, ov_i dep), (2, ov_i v2), (3, ov_i v5), (4, ov_i v8), (5, ov_i 1)]) (st2 := [ov_i 0, ov_r 58]) (pc2 := 125) b_73_124_1 rfl rfl ?_
              refine ov_goto (tgt := 129) d_73_125 (by decide) ?_
              refine ov_cV (as := [ov_i 0]) (st := []) (d2 := d - 1) d_73_129 lk_Reader_224 rfl (Nat.le_of_ble_eq_true rfl) (c := 9) (zb_58 I95) (zs_58 I95) ⟨by decide, rfl⟩ (by omega) (c_Town_addCode_58 (d - 1) (by omega) U I95 (ov_kws hw (by decide +kernel)) 0 (by omega)) ?_
              rintro _ z108 h109 ⟨rfl, I110, f107⟩
              show ov_R u d ov_m73 132 [(0, ov_r 3), (1, ov_i dep), (2, ov_i v2), (3, ov_i v5), (4, ov_i v8), (5, ov_i 1)] [] z108 h109 (P_Reader_readPart_3_k3_1_58 F z h dep)
              have f111 : (h109 3 2) = (h94 3 2) ∧ (h109 36 7) = (h94 36 7) ∧ (h109 1 1) = (h94 1 1) ∧ (h109 90 2) = (h94 90 2) ∧ (h109 0 10) = (h94 0 10) ∧ (h109 0 11) = (h94 0 11) ∧ (h109 0 12) = (h94 0 12) ∧ (h109 0 13) = (h94 0 13) ∧ (h109 3 1) = (h94 3 1) ∧ (h109 36 8) = (h94 36 8) ∧ (h109 46 3) = (h94 46 3) ∧ (h109 46 4) = (h94 46 4) ∧ (h109 49 4) = (h94 49 4) ∧ (h109 49 5) = (h94 49 5) ∧ (h109 64 0) = (h94 64 0) ∧ (h109 76 0) = (h94 76 0) := f107
              clear f107
              have e112 : h109 3 1 = 58 := by omega
              refine ov_blk (ls2 := [(0, ov_r 3), (1, ov_i dep), (2, ov_i v2), (3, ov_i v5), (4, ov_i v8), (5, ov_i 1)]) (st2 := [ov_i 1]) (pc2 := 134) b_73_132_1 rfl rfl ?_
              exact ov_retz (st := []) d_73_134 rfl (by omega) ⟨_, rfl, I110, (by show (1 = 0 ∧ 1 ≤ (h109 3 2) ∨ 1 = 1) ∧ (h109 36 7) = (h 36 7) ∧ (h109 1 1) = (h 1 1) ∧ (h109 90 2) = (h 90 2) ∧ (h109 0 10) = (h 0 10) ∧ (h109 0 11) = (h 0 11) ∧ (h109 0 12) = (h 0 12) ∧ (h109 0 13) = (h 0 13) ∧ (h109 3 1) = (h 3 1) ∧ (h109 36 8) = (h 36 8) ∧ (h109 46 3) = (h 46 3) ∧ (h109 46 4) = (h 46 4) ∧ (h109 49 4) = (h 49 4) ∧ (h109 49 5) = (h 49 5) ∧ (h109 64 0) = (h 64 0) ∧ (h109 76 0) = (h 76 0); omega)⟩
          · skip
            refine ov_blk (ls2 := [(0, ov_r 3), (1, ov_i dep), (2, ov_i v2), (3, ov_i v5), (4, ov_i v8)]) (st2 := [ov_i (dep + 1), ov_r 3]) (pc2 := 103) b_73_99_4 rfl rfl ?_
            refine ov_cV (as := [ov_i (dep + 1)]) (st := []) (d2 := d - 1) d_73_103 lk_Reader_237 rfl (Nat.le_of_ble_eq_true rfl) (c := 6) (zb_3 I95) (zs_3 I95) ⟨by decide, rfl⟩ (by omega) (HP (k - 1) (by omega) (d - 1) (by omega) U I95 (ov_kws hw (by decide +kernel)) (dep + 1) e97 (by omega) (by omega)) ?_
            rintro _ z115 h116 ⟨v114, rfl, I117, f113⟩
            show ov_R u d ov_m73 106 [(0, ov_r 3), (1, ov_i dep), (2, ov_i v2), (3, ov_i v5), (4, ov_i v8)] [ov_i v114] z115 h116 (P_Reader_readPart_3_k3_1_58 F z h dep)
            have f118 : (v114 = 0 ∧ 1 ≤ (h116 3 2) ∨ v114 = 1) ∧ (h116 36 7) = (h94 36 7) ∧ (h116 1 1) = (h94 1 1) ∧ (h116 90 2) = (h94 90 2) ∧ (h116 0 10) = (h94 0 10) ∧ (h116 0 11) = (h94 0 11) ∧ (h116 0 12) = (h94 0 12) ∧ (h116 0 13) = (h94 0 13) ∧ (h116 3 1) = (h94 3 1) ∧ (h116 36 8) = (h94 36 8) ∧ (h116 46 3) = (h94 46 3) ∧ (h116 46 4) = (h94 46 4) ∧ (h116 49 4) = (h94 49 4) ∧ (h116 49 5) = (h94 49 5) ∧ (h116 64 0) = (h94 64 0) ∧ (h116 76 0) = (h94 76 0) := f113
            clear f113
            have e119 : h116 3 1 = 58 := by omega
            refine ov_ifeq (tgt := 113) d_73_106 (by decide) (by omega) (fun c120 => ?_) (fun c120 => ?_)
            · skip
              refine ov_blk (ls2 := [(0, ov_r 3), (1, ov_i dep), (2, ov_i v2), (3, ov_i v5), (4, ov_i v8), (5, ov_i 0)]) (st2 := [ov_r 3]) (pc2 := 117) b_73_113_3 rfl rfl ?_
              refine ov_getf (v := ov_r 58) d_73_117 fl_Reader_15 (zb_3 I117) (zs_3 I117) (congrArg ov_r e119) ?_
              refine ov_blk (ls2 := [(0, ov_r 3), (1, ov_i dep), (2, ov_i v2), (3, ov_i v5), (4, ov_i v8), (5, ov_i 0)]) (st2 := [ov_i v5, ov_r 58]) (pc2 := 121) b_73_120_1 rfl rfl ?_
              refine ov_ifeq (tgt := 128) d_73_121 (by decide) (by omega) (fun c121 => ?_) (fun c121 => ?_)
              · skip
                refine ov_blk (ls2 := [(0, ov_r 3), (1, ov_i dep), (2, ov_i v2), (3, ov_i v5), (4, ov_i v8), (5, ov_i 0)]) (st2 := [ov_i v2, ov_r 58]) (pc2 := 129) b_73_128_1 rfl rfl ?_
                refine ov_cV (as := [ov_i v2]) (st := []) (d2 := d - 1) d_73_129 lk_Reader_224 rfl (Nat.le_of_ble_eq_true rfl) (c := 9) (zb_58 I117) (zs_58 I117) ⟨by decide, rfl⟩ (by omega) (c_Town_addCode_58 (d - 1) (by omega) U I117 (ov_kws hw (by decide +kernel)) v2 (by omega)) ?_
                rintro _ z123 h124 ⟨rfl, I125, f122⟩
                show ov_R u d ov_m73 132 [(0, ov_r 3), (1, ov_i dep), (2, ov_i v2), (3, ov_i v5), (4, ov_i v8), (5, ov_i 0)] [] z123 h124 (P_Reader_readPart_3_k3_1_58 F z h dep)
                have f126 : (h124 3 2) = (h116 3 2) ∧ (h124 36 7) = (h116 36 7) ∧ (h124 1 1) = (h116 1 1) ∧ (h124 90 2) = (h116 90 2) ∧ (h124 0 10) = (h116 0 10) ∧ (h124 0 11) = (h116 0 11) ∧ (h124 0 12) = (h116 0 12) ∧ (h124 0 13) = (h116 0 13) ∧ (h124 3 1) = (h116 3 1) ∧ (h124 36 8) = (h116 36 8) ∧ (h124 46 3) = (h116 46 3) ∧ (h124 46 4) = (h116 46 4) ∧ (h124 49 4) = (h116 49 4) ∧ (h124 49 5) = (h116 49 5) ∧ (h124 64 0) = (h116 64 0) ∧ (h124 76 0) = (h116 76 0) := f122
                clear f122
                have e127 : h124 3 1 = 58 := by omega
                refine ov_blk (ls2 := [(0, ov_r 3), (1, ov_i dep), (2, ov_i v2), (3, ov_i v5), (4, ov_i v8), (5, ov_i 0)]) (st2 := [ov_i 0]) (pc2 := 134) b_73_132_1 rfl rfl ?_
                exact ov_retz (st := []) d_73_134 rfl (by omega) ⟨_, rfl, I125, (by show (0 = 0 ∧ 1 ≤ (h124 3 2) ∨ 0 = 1) ∧ (h124 36 7) = (h 36 7) ∧ (h124 1 1) = (h 1 1) ∧ (h124 90 2) = (h 90 2) ∧ (h124 0 10) = (h 0 10) ∧ (h124 0 11) = (h 0 11) ∧ (h124 0 12) = (h 0 12) ∧ (h124 0 13) = (h 0 13) ∧ (h124 3 1) = (h 3 1) ∧ (h124 36 8) = (h 36 8) ∧ (h124 46 3) = (h 46 3) ∧ (h124 46 4) = (h 46 4) ∧ (h124 49 4) = (h 49 4) ∧ (h124 49 5) = (h 49 5) ∧ (h124 64 0) = (h 64 0) ∧ (h124 76 0) = (h 76 0); omega)⟩
              · skip
                refine ov_blk (ls2 := [(0, ov_r 3), (1, ov_i dep), (2, ov_i v2), (3, ov_i v5), (4, ov_i v8), (5, ov_i 0)]) (st2 := [ov_i 0, ov_r 58]) (pc2 := 125) b_73_124_1 rfl rfl ?_
                refine ov_goto (tgt := 129) d_73_125 (by decide) ?_
                refine ov_cV (as := [ov_i 0]) (st := []) (d2 := d - 1) d_73_129 lk_Reader_224 rfl (Nat.le_of_ble_eq_true rfl) (c := 9) (zb_58 I117) (zs_58 I117) ⟨by decide, rfl⟩ (by omega) (c_Town_addCode_58 (d - 1) (by omega) U I117 (ov_kws hw (by decide +kernel)) 0 (by omega)) ?_
                rintro _ z129 h130 ⟨rfl, I131, f128⟩
                show ov_R u d ov_m73 132 [(0, ov_r 3), (1, ov_i dep), (2, ov_i v2), (3, ov_i v5), (4, ov_i v8), (5, ov_i 0)] [] z129 h130 (P_Reader_readPart_3_k3_1_58 F z h dep)
                have f132 : (h130 3 2) = (h116 3 2) ∧ (h130 36 7) = (h116 36 7) ∧ (h130 1 1) = (h116 1 1) ∧ (h130 90 2) = (h116 90 2) ∧ (h130 0 10) = (h116 0 10) ∧ (h130 0 11) = (h116 0 11) ∧ (h130 0 12) = (h116 0 12) ∧ (h130 0 13) = (h116 0 13) ∧ (h130 3 1) = (h116 3 1) ∧ (h130 36 8) = (h116 36 8) ∧ (h130 46 3) = (h116 46 3) ∧ (h130 46 4) = (h116 46 4) ∧ (h130 49 4) = (h116 49 4) ∧ (h130 49 5) = (h116 49 5) ∧ (h130 64 0) = (h116 64 0) ∧ (h130 76 0) = (h116 76 0) := f128
                clear f128
                have e133 : h130 3 1 = 58 := by omega
                refine ov_blk (ls2 := [(0, ov_r 3), (1, ov_i dep), (2, ov_i v2), (3, ov_i v5), (4, ov_i v8), (5, ov_i 0)]) (st2 := [ov_i 0]) (pc2 := 134) b_73_132_1 rfl rfl ?_
                exact ov_retz (st := []) d_73_134 rfl (by omega) ⟨_, rfl, I131, (by show (0 = 0 ∧ 1 ≤ (h130 3 2) ∨ 0 = 1) ∧ (h130 36 7) = (h 36 7) ∧ (h130 1 1) = (h 1 1) ∧ (h130 90 2) = (h 90 2) ∧ (h130 0 10) = (h 0 10) ∧ (h130 0 11) = (h 0 11) ∧ (h130 0 12) = (h 0 12) ∧ (h130 0 13) = (h 0 13) ∧ (h130 3 1) = (h 3 1) ∧ (h130 36 8) = (h 36 8) ∧ (h130 46 3) = (h 46 3) ∧ (h130 46 4) = (h 46 4) ∧ (h130 49 4) = (h 49 4) ∧ (h130 49 5) = (h 49 5) ∧ (h130 64 0) = (h 64 0) ∧ (h130 76 0) = (h 76 0); omega)⟩
            · skip
              refine ov_blk (ls2 := [(0, ov_r 3), (1, ov_i dep), (2, ov_i v2), (3, ov_i v5), (4, ov_i v8)]) (st2 := [ov_i 1]) (pc2 := 110) b_73_109_1 rfl rfl ?_
              refine ov_goto (tgt := 114) d_73_110 (by decide) ?_
              refine ov_blk (ls2 := [(0, ov_r 3), (1, ov_i dep), (2, ov_i v2), (3, ov_i v5), (4, ov_i v8), (5, ov_i 1)]) (st2 := [ov_r 3]) (pc2 := 117) b_73_114_2 rfl rfl ?_
              refine ov_getf (v := ov_r 58) d_73_117 fl_Reader_15 (zb_3 I117) (zs_3 I117) (congrArg ov_r e119) ?_
              refine ov_blk (ls2 := [(0, ov_r 3), (1, ov_i dep), (2, ov_i v2), (3, ov_i v5), (4, ov_i v8), (5, ov_i 1)]) (st2 := [ov_i v5, ov_r 58]) (pc2 := 121) b_73_120_1 rfl rfl ?_
              refine ov_ifeq (tgt := 128) d_73_121 (by decide) (by omega) (fun c134 => ?_) (fun c134 => ?_)
              · skip
                refine ov_blk (ls2 := [(0, ov_r 3), (1, ov_i dep), (2, ov_i v2), (3, ov_i v5), (4, ov_i v8), (5, ov_i 1)]) (st2 := [ov_i v2, ov_r 58]) (pc2 := 129) b_73_128_1 rfl rfl ?_
                refine ov_cV (as := [ov_i v2]) (st := []) (d2 := d - 1) d_73_129 lk_Reader_224 rfl (Nat.le_of_ble_eq_true rfl) (c := 9) (zb_58 I117) (zs_58 I117) ⟨by decide, rfl⟩ (by omega) (c_Town_addCode_58 (d - 1) (by omega) U I117 (ov_kws hw (by decide +kernel)) v2 (by omega)) ?_
                rintro _ z136 h137 ⟨rfl, I138, f135⟩
                show ov_R u d ov_m73 132 [(0, ov_r 3), (1, ov_i dep), (2, ov_i v2), (3, ov_i v5), (4, ov_i v8), (5, ov_i 1)] [] z136 h137 (P_Reader_readPart_3_k3_1_58 F z h dep)
                have f139 : (h137 3 2) = (h116 3 2) ∧ (h137 36 7) = (h116 36 7) ∧ (h137 1 1) = (h116 1 1) ∧ (h137 90 2) = (h116 90 2) ∧ (h137 0 10) = (h116 0 10) ∧ (h137 0 11) = (h116 0 11) ∧ (h137 0 12) = (h116 0 12) ∧ (h137 0 13) = (h116 0 13) ∧ (h137 3 1) = (h116 3 1) ∧ (h137 36 8) = (h116 36 8) ∧ (h137 46 3) = (h116 46 3) ∧ (h137 46 4) = (h116 46 4) ∧ (h137 49 4) = (h116 49 4) ∧ (h137 49 5) = (h116 49 5) ∧ (h137 64 0) = (h116 64 0) ∧ (h137 76 0) = (h116 76 0) := f135
                clear f135
                have e140 : h137 3 1 = 58 := by omega
                refine ov_blk (ls2 := [(0, ov_r 3), (1, ov_i dep), (2, ov_i v2), (3, ov_i v5), (4, ov_i v8), (5, ov_i 1)]) (st2 := [ov_i 1]) (pc2 := 134) b_73_132_1 rfl rfl ?_
                exact ov_retz (st := []) d_73_134 rfl (by omega) ⟨_, rfl, I138, (by show (1 = 0 ∧ 1 ≤ (h137 3 2) ∨ 1 = 1) ∧ (h137 36 7) = (h 36 7) ∧ (h137 1 1) = (h 1 1) ∧ (h137 90 2) = (h 90 2) ∧ (h137 0 10) = (h 0 10) ∧ (h137 0 11) = (h 0 11) ∧ (h137 0 12) = (h 0 12) ∧ (h137 0 13) = (h 0 13) ∧ (h137 3 1) = (h 3 1) ∧ (h137 36 8) = (h 36 8) ∧ (h137 46 3) = (h 46 3) ∧ (h137 46 4) = (h 46 4) ∧ (h137 49 4) = (h 49 4) ∧ (h137 49 5) = (h 49 5) ∧ (h137 64 0) = (h 64 0) ∧ (h137 76 0) = (h 76 0); omega)⟩
              · skip
                refine ov_blk (ls2 := [(0, ov_r 3), (1, ov_i dep), (2, ov_i v2), (3, ov_i v5), (4, ov_i v8), (5, ov_i 1)]) (st2 := [ov_i 0, ov_r 58]) (pc2 := 125) b_73_124_1 rfl rfl ?_
                refine ov_goto (tgt := 129) d_73_125 (by decide) ?_
                refine ov_cV (as := [ov_i 0]) (st := []) (d2 := d - 1) d_73_129 lk_Reader_224 rfl (Nat.le_of_ble_eq_true rfl) (c := 9) (zb_58 I117) (zs_58 I117) ⟨by decide, rfl⟩ (by omega) (c_Town_addCode_58 (d - 1) (by omega) U I117 (ov_kws hw (by decide +kernel)) 0 (by omega)) ?_
                rintro _ z142 h143 ⟨rfl, I144, f141⟩
                show ov_R u d ov_m73 132 [(0, ov_r 3), (1, ov_i dep), (2, ov_i v2), (3, ov_i v5), (4, ov_i v8), (5, ov_i 1)] [] z142 h143 (P_Reader_readPart_3_k3_1_58 F z h dep)
                have f145 : (h143 3 2) = (h116 3 2) ∧ (h143 36 7) = (h116 36 7) ∧ (h143 1 1) = (h116 1 1) ∧ (h143 90 2) = (h116 90 2) ∧ (h143 0 10) = (h116 0 10) ∧ (h143 0 11) = (h116 0 11) ∧ (h143 0 12) = (h116 0 12) ∧ (h143 0 13) = (h116 0 13) ∧ (h143 3 1) = (h116 3 1) ∧ (h143 36 8) = (h116 36 8) ∧ (h143 46 3) = (h116 46 3) ∧ (h143 46 4) = (h116 46 4) ∧ (h143 49 4) = (h116 49 4) ∧ (h143 49 5) = (h116 49 5) ∧ (h143 64 0) = (h116 64 0) ∧ (h143 76 0) = (h116 76 0) := f141
                clear f141
                have e146 : h143 3 1 = 58 := by omega
                refine ov_blk (ls2 := [(0, ov_r 3), (1, ov_i dep), (2, ov_i v2), (3, ov_i v5), (4, ov_i v8), (5, ov_i 1)]) (st2 := [ov_i 1]) (pc2 := 134) b_73_132_1 rfl rfl ?_
                exact ov_retz (st := []) d_73_134 rfl (by omega) ⟨_, rfl, I144, (by show (1 = 0 ∧ 1 ≤ (h143 3 2) ∨ 1 = 1) ∧ (h143 36 7) = (h 36 7) ∧ (h143 1 1) = (h 1 1) ∧ (h143 90 2) = (h 90 2) ∧ (h143 0 10) = (h 0 10) ∧ (h143 0 11) = (h 0 11) ∧ (h143 0 12) = (h 0 12) ∧ (h143 0 13) = (h 0 13) ∧ (h143 3 1) = (h 3 1) ∧ (h143 36 8) = (h 36 8) ∧ (h143 46 3) = (h 46 3) ∧ (h143 46 4) = (h 46 4) ∧ (h143 49 4) = (h 49 4) ∧ (h143 49 5) = (h 49 5) ∧ (h143 64 0) = (h 64 0) ∧ (h143 76 0) = (h 76 0); omega)⟩
        · skip
          refine ov_blk (ls2 := [(0, ov_r 3), (1, ov_i dep), (2, ov_i v2), (3, ov_i v5), (4, ov_i v8)]) (st2 := [ov_i (dep + 1), ov_r 3]) (pc2 := 74) b_73_70_4 rfl rfl ?_
          refine ov_cV (as := [ov_i (dep + 1)]) (st := []) (d2 := d - 1) d_73_74 lk_Reader_210 rfl (Nat.le_of_ble_eq_true rfl) (c := 6) (zb_3 I95) (zs_3 I95) ⟨by decide, rfl⟩ (by omega) (HE (k - 1) (by omega) (d - 1) (by omega) U I95 (ov_kws hw (by decide +kernel)) (dep + 1) e97 (by omega) (by omega)) ?_
          rintro _ z149 h150 ⟨v148, rfl, I151, f147⟩
          show ov_R u d ov_m73 77 [(0, ov_r 3), (1, ov_i dep), (2, ov_i v2), (3, ov_i v5), (4, ov_i v8)] [ov_i v148] z149 h150 (P_Reader_readPart_3_k3_1_58 F z h dep)
          have f152 : (v148 = 0 ∧ 1 ≤ (h150 3 2) ∨ v148 = 1) ∧ (h150 36 7) = (h94 36 7) ∧ (h150 1 1) = (h94 1 1) ∧ (h150 90 2) = (h94 90 2) ∧ (h150 0 10) = (h94 0 10) ∧ (h150 0 11) = (h94 0 11) ∧ (h150 0 12) = (h94 0 12) ∧ (h150 0 13) = (h94 0 13) ∧ (h150 3 1) = (h94 3 1) ∧ (h150 36 8) = (h94 36 8) ∧ (h150 46 3) = (h94 46 3) ∧ (h150 46 4) = (h94 46 4) ∧ (h150 49 4) = (h94 49 4) ∧ (h150 49 5) = (h94 49 5) ∧ (h150 64 0) = (h94 64 0) ∧ (h150 76 0) = (h94 76 0) := f147
          clear f147
          have e153 : h150 3 1 = 58 := by omega
          refine ov_ifeq (tgt := 93) d_73_77 (by decide) (by omega) (fun c154 => ?_) (fun c154 => ?_)
          · skip
            refine ov_blk (ls2 := [(0, ov_r 3), (1, ov_i dep), (2, ov_i v2), (3, ov_i v5), (4, ov_i v8)]) (st2 := [ov_i 0]) (pc2 := 94) b_73_93_1 rfl rfl ?_
            exact ov_retz (st := []) d_73_94 rfl (by omega) ⟨_, rfl, I151, (by show (0 = 0 ∧ 1 ≤ (h150 3 2) ∨ 0 = 1) ∧ (h150 36 7) = (h 36 7) ∧ (h150 1 1) = (h 1 1) ∧ (h150 90 2) = (h 90 2) ∧ (h150 0 10) = (h 0 10) ∧ (h150 0 11) = (h 0 11) ∧ (h150 0 12) = (h 0 12) ∧ (h150 0 13) = (h 0 13) ∧ (h150 3 1) = (h 3 1) ∧ (h150 36 8) = (h 36 8) ∧ (h150 46 3) = (h 46 3) ∧ (h150 46 4) = (h 46 4) ∧ (h150 49 4) = (h 49 4) ∧ (h150 49 5) = (h 49 5) ∧ (h150 64 0) = (h 64 0) ∧ (h150 76 0) = (h 76 0); omega)⟩
          · skip
            refine ov_blk (ls2 := [(0, ov_r 3), (1, ov_i dep), (2, ov_i v2), (3, ov_i v5), (4, ov_i v8)]) (st2 := [ov_i 41, ov_r 3]) (pc2 := 83) b_73_80_2 rfl rfl ?_
            refine ov_cV (as := [ov_i 41]) (st := []) (d2 := d - 1) d_73_83 lk_Reader_92 rfl (Nat.le_of_ble_eq_true rfl) (c := 6) (zb_3 I151) (zs_3 I151) ⟨by decide, rfl⟩ (by omega) (c_Reader_takeSign_3_k3_1_58 (d - 1) (by omega) U I151 (ov_kws hw (by decide +kernel)) 41 e153 (by omega)) ?_
            rintro _ z157 h158 ⟨v156, rfl, I159, f155⟩
            show ov_R u d ov_m73 86 [(0, ov_r 3), (1, ov_i dep), (2, ov_i v2), (3, ov_i v5), (4, ov_i v8)] [ov_i v156] z157 h158 (P_Reader_readPart_3_k3_1_58 F z h dep)
            have f160 : (v156 = 0 ∧ 1 ≤ (h158 3 2) ∨ v156 = 1) ∧ (h158 36 7) = (h150 36 7) ∧ (h158 1 1) = (h150 1 1) ∧ (h158 90 2) = (h150 90 2) ∧ (h158 0 10) = (h150 0 10) ∧ (h158 0 11) = (h150 0 11) ∧ (h158 0 12) = (h150 0 12) ∧ (h158 0 13) = (h150 0 13) ∧ (h158 3 1) = (h150 3 1) ∧ (h158 36 8) = (h150 36 8) ∧ (h158 46 3) = (h150 46 3) ∧ (h158 46 4) = (h150 46 4) ∧ (h158 49 4) = (h150 49 4) ∧ (h158 49 5) = (h150 49 5) ∧ (h158 64 0) = (h150 64 0) ∧ (h158 76 0) = (h150 76 0) := f155
            clear f155
            have e161 : h158 3 1 = 58 := by omega
            refine ov_ifeq (tgt := 93) d_73_86 (by decide) (by omega) (fun c162 => ?_) (fun c162 => ?_)
            · skip
              refine ov_blk (ls2 := [(0, ov_r 3), (1, ov_i dep), (2, ov_i v2), (3, ov_i v5), (4, ov_i v8)]) (st2 := [ov_i 0]) (pc2 := 94) b_73_93_1 rfl rfl ?_
              exact ov_retz (st := []) d_73_94 rfl (by omega) ⟨_, rfl, I159, (by show (0 = 0 ∧ 1 ≤ (h158 3 2) ∨ 0 = 1) ∧ (h158 36 7) = (h 36 7) ∧ (h158 1 1) = (h 1 1) ∧ (h158 90 2) = (h 90 2) ∧ (h158 0 10) = (h 0 10) ∧ (h158 0 11) = (h 0 11) ∧ (h158 0 12) = (h 0 12) ∧ (h158 0 13) = (h 0 13) ∧ (h158 3 1) = (h 3 1) ∧ (h158 36 8) = (h 36 8) ∧ (h158 46 3) = (h 46 3) ∧ (h158 46 4) = (h 46 4) ∧ (h158 49 4) = (h 49 4) ∧ (h158 49 5) = (h 49 5) ∧ (h158 64 0) = (h 64 0) ∧ (h158 76 0) = (h 76 0); omega)⟩
            · skip
              refine ov_blk (ls2 := [(0, ov_r 3), (1, ov_i dep), (2, ov_i v2), (3, ov_i v5), (4, ov_i v8)]) (st2 := [ov_i 1]) (pc2 := 90) b_73_89_1 rfl rfl ?_
              refine ov_goto (tgt := 94) d_73_90 (by decide) ?_
              exact ov_retz (st := []) d_73_94 rfl (by omega) ⟨_, rfl, I159, (by show (1 = 0 ∧ 1 ≤ (h158 3 2) ∨ 1 = 1) ∧ (h158 36 7) = (h 36 7) ∧ (h158 1 1) = (h 1 1) ∧ (h158 90 2) = (h 90 2) ∧ (h158 0 10) = (h 0 10) ∧ (h158 0 11) = (h 0 11) ∧ (h158 0 12) = (h 0 12) ∧ (h158 0 13) = (h 0 13) ∧ (h158 3 1) = (h 3 1) ∧ (h158 36 8) = (h 36 8) ∧ (h158 46 3) = (h 46 3) ∧ (h158 46 4) = (h 46 4) ∧ (h158 49 4) = (h 49 4) ∧ (h158 49 5) = (h 49 5) ∧ (h158 64 0) = (h 64 0) ∧ (h158 76 0) = (h 76 0); omega)⟩
      · skip
        refine ov_blk (ls2 := [(0, ov_r 3), (1, ov_i dep), (2, ov_i v2), (3, ov_i v5), (4, ov_i v8)]) (st2 := [ov_i 5, ov_r 3]) (pc2 := 54) b_73_52_2 rfl rfl ?_
        refine ov_cV (as := [ov_i 5]) (st := []) (d2 := d - 1) d_73_54 lk_Reader_58 rfl (Nat.le_of_ble_eq_true rfl) (c := 6) (zb_3 I) (zs_3 I) ⟨by decide, rfl⟩ (by omega) (c_Reader_fail_3_k3_1_58 (d - 1) (by omega) U I (ov_kws hw (by decide +kernel)) 5 k0 (by omega) (by omega)) ?_
        rintro _ z165 h166 ⟨v164, rfl, I167, f163⟩
        show ov_R u d ov_m73 57 [(0, ov_r 3), (1, ov_i dep), (2, ov_i v2), (3, ov_i v5), (4, ov_i v8)] [ov_i v164] z165 h166 (P_Reader_readPart_3_k3_1_58 F z h dep)
        have f168 : v164 = 0 ∧ 1 ≤ (h166 3 2) ∧ (h166 36 7) = (h 36 7) ∧ (h166 1 1) = (h 1 1) ∧ (h166 90 2) = (h 90 2) ∧ (h166 0 10) = (h 0 10) ∧ (h166 0 11) = (h 0 11) ∧ (h166 0 12) = (h 0 12) ∧ (h166 0 13) = (h 0 13) ∧ (h166 3 1) = (h 3 1) ∧ (h166 36 8) = (h 36 8) ∧ (h166 46 3) = (h 46 3) ∧ (h166 46 4) = (h 46 4) ∧ (h166 49 4) = (h 49 4) ∧ (h166 49 5) = (h 49 5) ∧ (h166 64 0) = (h 64 0) ∧ (h166 76 0) = (h 76 0) := f163
        clear f163
        have e169 : h166 3 1 = 58 := by omega
        exact ov_retz (st := []) d_73_57 rfl (by omega) ⟨_, rfl, I167, (by show (v164 = 0 ∧ 1 ≤ (h166 3 2) ∨ v164 = 1) ∧ (h166 36 7) = (h 36 7) ∧ (h166 1 1) = (h 1 1) ∧ (h166 90 2) = (h 90 2) ∧ (h166 0 10) = (h 0 10) ∧ (h166 0 11) = (h 0 11) ∧ (h166 0 12) = (h 0 12) ∧ (h166 0 13) = (h 0 13) ∧ (h166 3 1) = (h 3 1) ∧ (h166 36 8) = (h 36 8) ∧ (h166 46 3) = (h 46 3) ∧ (h166 46 4) = (h 46 4) ∧ (h166 49 4) = (h 49 4) ∧ (h166 49 5) = (h 49 5) ∧ (h166 64 0) = (h 64 0) ∧ (h166 76 0) = (h 76 0); omega)⟩
    · skip
      refine ov_blk (ls2 := [(0, ov_r 3), (1, ov_i dep), (2, ov_i v2), (3, ov_i v5), (4, ov_i v8)]) (st2 := [ov_i v8]) (pc2 := 38) b_73_36_1 rfl rfl ?_
      refine ov_ifne (tgt := 47) d_73_38 (by decide) (by omega) (fun c170 => ?_) (fun c170 => ?_)
      · skip
        refine ov_blk (ls2 := [(0, ov_r 3), (1, ov_i dep), (2, ov_i v2), (3, ov_i v5), (4, ov_i v8)]) (st2 := [ov_i 4, ov_i dep]) (pc2 := 49) b_73_47_2 rfl rfl ?_
        refine ov_icle (tgt := 58) d_73_49 (by decide) (by omega) (by omega) (fun c171 => ?_) (fun c171 => ?_)
        · skip
          refine ov_blk (ls2 := [(0, ov_r 3), (1, ov_i dep), (2, ov_i v2), (3, ov_i v5), (4, ov_i v8)]) (st2 := [ov_r 3]) (pc2 := 59) b_73_58_1 rfl rfl ?_
          refine ov_getf (v := ov_r 1) d_73_59 fl_Reader_9 (zb_3 I) (zs_3 I) (congrArg ov_r (rg_3_0 I)) ?_
          refine ov_cV (as := []) (st := []) (d2 := d - 1) d_73_62 lk_Reader_75 rfl (Nat.le_of_ble_eq_true rfl) (c := 8) (zb_1 I) (zs_1 I) ⟨by decide, rfl⟩ (by omega) (c_Tape_advance_1 (d - 1) (by omega) U I (ov_kws hw (by decide +kernel))) ?_
          rintro _ z173 h174 ⟨rfl, I175, f172⟩
          show ov_R u d ov_m73 65 [(0, ov_r 3), (1, ov_i dep), (2, ov_i v2), (3, ov_i v5), (4, ov_i v8)] [] z173 h174 (P_Reader_readPart_3_k3_1_58 F z h dep)
          have f176 : (h174 3 3) = (h 3 3) ∧ (h174 36 7) = (h 36 7) ∧ (h174 1 1) = (h 1 1) ∧ (h174 90 2) = (h 90 2) ∧ (h174 0 10) = (h 0 10) ∧ (h174 0 11) = (h 0 11) ∧ (h174 0 12) = (h 0 12) ∧ (h174 0 13) = (h 0 13) ∧ (h174 3 1) = (h 3 1) ∧ (h174 36 8) = (h 36 8) ∧ (h174 46 3) = (h 46 3) ∧ (h174 46 4) = (h 46 4) ∧ (h174 49 4) = (h 49 4) ∧ (h174 49 5) = (h 49 5) ∧ (h174 64 0) = (h 64 0) ∧ (h174 76 0) = (h 76 0) := f172
          clear f172
          have e177 : h174 3 1 = 58 := by omega
          refine ov_blk (ls2 := [(0, ov_r 3), (1, ov_i dep), (2, ov_i v2), (3, ov_i v5), (4, ov_i v8)]) (st2 := [ov_i v8]) (pc2 := 67) b_73_65_1 rfl rfl ?_
          refine ov_ifeq (tgt := 95) d_73_67 (by decide) (by omega) (fun c178 => ?_) (fun c178 => ?_)
          · skip
            refine ov_blk (ls2 := [(0, ov_r 3), (1, ov_i dep), (2, ov_i v2), (3, ov_i v5), (4, ov_i v8)]) (st2 := [ov_i v5]) (pc2 := 96) b_73_95_1 rfl rfl ?_
            refine ov_ifeq (tgt := 109) d_73_96 (by decide) (by omega) (fun c179 => ?_) (fun c179 => ?_)
            · skip
              refine ov_blk (ls2 := [(0, ov_r 3), (1, ov_i dep), (2, ov_i v2), (3, ov_i v5), (4, ov_i v8)]) (st2 := [ov_i 1]) (pc2 := 110) b_73_109_1 rfl rfl ?_
              refine ov_goto (tgt := 114) d_73_110 (by decide) ?_
              refine ov_blk (ls2 := [(0, ov_r 3), (1, ov_i dep), (2, ov_i v2), (3, ov_i v5), (4, ov_i v8), (5, ov_i 1)]) (st2 := [ov_r 3]) (pc2 := 117) b_73_114_2 rfl rfl ?_
              refine ov_getf (v := ov_r 58) d_73_117 fl_Reader_15 (zb_3 I175) (zs_3 I175) (congrArg ov_r e177) ?_
              refine ov_blk (ls2 := [(0, ov_r 3), (1, ov_i dep), (2, ov_i v2), (3, ov_i v5), (4, ov_i v8), (5, ov_i 1)]) (st2 := [ov_i v5, ov_r 58]) (pc2 := 121) b_73_120_1 rfl rfl ?_
              refine ov_ifeq (tgt := 128) d_73_121 (by decide) (by omega) (fun c180 => ?_) (fun c180 => ?_)
              · skip
                refine ov_blk (ls2 := [(0, ov_r 3), (1, ov_i dep), (2, ov_i v2), (3, ov_i v5), (4, ov_i v8), (5, ov_i 1)]) (st2 := [ov_i v2, ov_r 58]) (pc2 := 129) b_73_128_1 rfl rfl ?_
                refine ov_cV (as := [ov_i v2]) (st := []) (d2 := d - 1) d_73_129 lk_Reader_224 rfl (Nat.le_of_ble_eq_true rfl) (c := 9) (zb_58 I175) (zs_58 I175) ⟨by decide, rfl⟩ (by omega) (c_Town_addCode_58 (d - 1) (by omega) U I175 (ov_kws hw (by decide +kernel)) v2 (by omega)) ?_
                rintro _ z182 h183 ⟨rfl, I184, f181⟩
                show ov_R u d ov_m73 132 [(0, ov_r 3), (1, ov_i dep), (2, ov_i v2), (3, ov_i v5), (4, ov_i v8), (5, ov_i 1)] [] z182 h183 (P_Reader_readPart_3_k3_1_58 F z h dep)
                have f185 : (h183 3 2) = (h174 3 2) ∧ (h183 36 7) = (h174 36 7) ∧ (h183 1 1) = (h174 1 1) ∧ (h183 90 2) = (h174 90 2) ∧ (h183 0 10) = (h174 0 10) ∧ (h183 0 11) = (h174 0 11) ∧ (h183 0 12) = (h174 0 12) ∧ (h183 0 13) = (h174 0 13) ∧ (h183 3 1) = (h174 3 1) ∧ (h183 36 8) = (h174 36 8) ∧ (h183 46 3) = (h174 46 3) ∧ (h183 46 4) = (h174 46 4) ∧ (h183 49 4) = (h174 49 4) ∧ (h183 49 5) = (h174 49 5) ∧ (h183 64 0) = (h174 64 0) ∧ (h183 76 0) = (h174 76 0) := f181
                clear f181
                have e186 : h183 3 1 = 58 := by omega
                refine ov_blk (ls2 := [(0, ov_r 3), (1, ov_i dep), (2, ov_i v2), (3, ov_i v5), (4, ov_i v8), (5, ov_i 1)]) (st2 := [ov_i 1]) (pc2 := 134) b_73_132_1 rfl rfl ?_
                exact ov_retz (st := []) d_73_134 rfl (by omega) ⟨_, rfl, I184, (by show (1 = 0 ∧ 1 ≤ (h183 3 2) ∨ 1 = 1) ∧ (h183 36 7) = (h 36 7) ∧ (h183 1 1) = (h 1 1) ∧ (h183 90 2) = (h 90 2) ∧ (h183 0 10) = (h 0 10) ∧ (h183 0 11) = (h 0 11) ∧ (h183 0 12) = (h 0 12) ∧ (h183 0 13) = (h 0 13) ∧ (h183 3 1) = (h 3 1) ∧ (h183 36 8) = (h 36 8) ∧ (h183 46 3) = (h 46 3) ∧ (h183 46 4) = (h 46 4) ∧ (h183 49 4) = (h 49 4) ∧ (h183 49 5) = (h 49 5) ∧ (h183 64 0) = (h 64 0) ∧ (h183 76 0) = (h 76 0); omega)⟩
              · skip
                refine ov_blk (ls2 := [(0, ov_r 3), (1, ov_i dep), (2, ov_i v2), (3, ov_i v5), (4, ov_i v8), (5, ov_i 1)]) (st2 := [ov_i 0, ov_r 58]) (pc2 := 125) b_73_124_1 rfl rfl ?_
                refine ov_goto (tgt := 129) d_73_125 (by decide) ?_
                refine ov_cV (as := [ov_i 0]) (st := []) (d2 := d - 1) d_73_129 lk_Reader_224 rfl (Nat.le_of_ble_eq_true rfl) (c := 9) (zb_58 I175) (zs_58 I175) ⟨by decide, rfl⟩ (by omega) (c_Town_addCode_58 (d - 1) (by omega) U I175 (ov_kws hw (by decide +kernel)) 0 (by omega)) ?_
                rintro _ z188 h189 ⟨rfl, I190, f187⟩
                show ov_R u d ov_m73 132 [(0, ov_r 3), (1, ov_i dep), (2, ov_i v2), (3, ov_i v5), (4, ov_i v8), (5, ov_i 1)] [] z188 h189 (P_Reader_readPart_3_k3_1_58 F z h dep)
                have f191 : (h189 3 2) = (h174 3 2) ∧ (h189 36 7) = (h174 36 7) ∧ (h189 1 1) = (h174 1 1) ∧ (h189 90 2) = (h174 90 2) ∧ (h189 0 10) = (h174 0 10) ∧ (h189 0 11) = (h174 0 11) ∧ (h189 0 12) = (h174 0 12) ∧ (h189 0 13) = (h174 0 13) ∧ (h189 3 1) = (h174 3 1) ∧ (h189 36 8) = (h174 36 8) ∧ (h189 46 3) = (h174 46 3) ∧ (h189 46 4) = (h174 46 4) ∧ (h189 49 4) = (h174 49 4) ∧ (h189 49 5) = (h174 49 5) ∧ (h189 64 0) = (h174 64 0) ∧ (h189 76 0) = (h174 76 0) := f187
                clear f187
                have e192 : h189 3 1 = 58 := by omega
                refine ov_blk (ls2 := [(0, ov_r 3), (1, ov_i dep), (2, ov_i v2), (3, ov_i v5), (4, ov_i v8), (5, ov_i 1)]) (st2 := [ov_i 1]) (pc2 := 134) b_73_132_1 rfl rfl ?_
                exact ov_retz (st := []) d_73_134 rfl (by omega) ⟨_, rfl, I190, (by show (1 = 0 ∧ 1 ≤ (h189 3 2) ∨ 1 = 1) ∧ (h189 36 7) = (h 36 7) ∧ (h189 1 1) = (h 1 1) ∧ (h189 90 2) = (h 90 2) ∧ (h189 0 10) = (h 0 10) ∧ (h189 0 11) = (h 0 11) ∧ (h189 0 12) = (h 0 12) ∧ (h189 0 13) = (h 0 13) ∧ (h189 3 1) = (h 3 1) ∧ (h189 36 8) = (h 36 8) ∧ (h189 46 3) = (h 46 3) ∧ (h189 46 4) = (h 46 4) ∧ (h189 49 4) = (h 49 4) ∧ (h189 49 5) = (h 49 5) ∧ (h189 64 0) = (h 64 0) ∧ (h189 76 0) = (h 76 0); omega)⟩
            · skip
              refine ov_blk (ls2 := [(0, ov_r 3), (1, ov_i dep), (2, ov_i v2), (3, ov_i v5), (4, ov_i v8)]) (st2 := [ov_i (dep + 1), ov_r 3]) (pc2 := 103) b_73_99_4 rfl rfl ?_
              refine ov_cV (as := [ov_i (dep + 1)]) (st := []) (d2 := d - 1) d_73_103 lk_Reader_237 rfl (Nat.le_of_ble_eq_true rfl) (c := 6) (zb_3 I175) (zs_3 I175) ⟨by decide, rfl⟩ (by omega) (HP (k - 1) (by omega) (d - 1) (by omega) U I175 (ov_kws hw (by decide +kernel)) (dep + 1) e177 (by omega) (by omega)) ?_
              rintro _ z195 h196 ⟨v194, rfl, I197, f193⟩
              show ov_R u d ov_m73 106 [(0, ov_r 3), (1, ov_i dep), (2, ov_i v2), (3, ov_i v5), (4, ov_i v8)] [ov_i v194] z195 h196 (P_Reader_readPart_3_k3_1_58 F z h dep)
              have f198 : (v194 = 0 ∧ 1 ≤ (h196 3 2) ∨ v194 = 1) ∧ (h196 36 7) = (h174 36 7) ∧ (h196 1 1) = (h174 1 1) ∧ (h196 90 2) = (h174 90 2) ∧ (h196 0 10) = (h174 0 10) ∧ (h196 0 11) = (h174 0 11) ∧ (h196 0 12) = (h174 0 12) ∧ (h196 0 13) = (h174 0 13) ∧ (h196 3 1) = (h174 3 1) ∧ (h196 36 8) = (h174 36 8) ∧ (h196 46 3) = (h174 46 3) ∧ (h196 46 4) = (h174 46 4) ∧ (h196 49 4) = (h174 49 4) ∧ (h196 49 5) = (h174 49 5) ∧ (h196 64 0) = (h174 64 0) ∧ (h196 76 0) = (h174 76 0) := f193
              clear f193
              have e199 : h196 3 1 = 58 := by omega
              refine ov_ifeq (tgt := 113) d_73_106 (by decide) (by omega) (fun c200 => ?_) (fun c200 => ?_)
              · skip
                refine ov_blk (ls2 := [(0, ov_r 3), (1, ov_i dep), (2, ov_i v2), (3, ov_i v5), (4, ov_i v8), (5, ov_i 0)]) (st2 := [ov_r 3]) (pc2 := 117) b_73_113_3 rfl rfl ?_
                refine ov_getf (v := ov_r 58) d_73_117 fl_Reader_15 (zb_3 I197) (zs_3 I197) (congrArg ov_r e199) ?_
                refine ov_blk (ls2 := [(0, ov_r 3), (1, ov_i dep), (2, ov_i v2), (3, ov_i v5), (4, ov_i v8), (5, ov_i 0)]) (st2 := [ov_i v5, ov_r 58]) (pc2 := 121) b_73_120_1 rfl rfl ?_
                refine ov_ifeq (tgt := 128) d_73_121 (by decide) (by omega) (fun c201 => ?_) (fun c201 => ?_)
                · skip
                  refine ov_blk (ls2 := [(0, ov_r 3), (1, ov_i dep), (2, ov_i v2), (3, ov_i v5), (4, ov_i v8), (5, ov_i 0)]) (st2 := [ov_i v2, ov_r 58]) (pc2 := 129) b_73_128_1 rfl rfl ?_
                  refine ov_cV (as := [ov_i v2]) (st := []) (d2 := d - 1) d_73_129 lk_Reader_224 rfl (Nat.le_of_ble_eq_true rfl) (c := 9) (zb_58 I197) (zs_58 I197) ⟨by decide, rfl⟩ (by omega) (c_Town_addCode_58 (d - 1) (by omega) U I197 (ov_kws hw (by decide +kernel)) v2 (by omega)) ?_
                  rintro _ z203 h204 ⟨rfl, I205, f202⟩
                  show ov_R u d ov_m73 132 [(0, ov_r 3), (1, ov_i dep), (2, ov_i v2), (3, ov_i v5), (4, ov_i v8), (5, ov_i 0)] [] z203 h204 (P_Reader_readPart_3_k3_1_58 F z h dep)
                  have f206 : (h204 3 2) = (h196 3 2) ∧ (h204 36 7) = (h196 36 7) ∧ (h204 1 1) = (h196 1 1) ∧ (h204 90 2) = (h196 90 2) ∧ (h204 0 10) = (h196 0 10) ∧ (h204 0 11) = (h196 0 11) ∧ (h204 0 12) = (h196 0 12) ∧ (h204 0 13) = (h196 0 13) ∧ (h204 3 1) = (h196 3 1) ∧ (h204 36 8) = (h196 36 8) ∧ (h204 46 3) = (h196 46 3) ∧ (h204 46 4) = (h196 46 4) ∧ (h204 49 4) = (h196 49 4) ∧ (h204 49 5) = (h196 49 5) ∧ (h204 64 0) = (h196 64 0) ∧ (h204 76 0) = (h196 76 0) := f202
                  clear f202
                  have e207 : h204 3 1 = 58 := by omega
                  refine ov_blk (ls2 := [(0, ov_r 3), (1, ov_i dep), (2, ov_i v2), (3, ov_i v5), (4, ov_i v8), (5, ov_i 0)]) (st2 := [ov_i 0]) (pc2 := 134) b_73_132_1 rfl rfl ?_
                  exact ov_retz (st := []) d_73_134 rfl (by omega) ⟨_, rfl, I205, (by show (0 = 0 ∧ 1 ≤ (h204 3 2) ∨ 0 = 1) ∧ (h204 36 7) = (h 36 7) ∧ (h204 1 1) = (h 1 1) ∧ (h204 90 2) = (h 90 2) ∧ (h204 0 10) = (h 0 10) ∧ (h204 0 11) = (h 0 11) ∧ (h204 0 12) = (h 0 12) ∧ (h204 0 13) = (h 0 13) ∧ (h204 3 1) = (h 3 1) ∧ (h204 36 8) = (h 36 8) ∧ (h204 46 3) = (h 46 3) ∧ (h204 46 4) = (h 46 4) ∧ (h204 49 4) = (h 49 4) ∧ (h204 49 5) = (h 49 5) ∧ (h204 64 0) = (h 64 0) ∧ (h204 76 0) = (h 76 0); omega)⟩
                · skip
                  refine ov_blk (ls2 := [(0, ov_r 3), (1, ov_i dep), (2, ov_i v2), (3, ov_i v5), (4, ov_i v8), (5, ov_i 0)]) (st2 := [ov_i 0, ov_r 58]) (pc2 := 125) b_73_124_1 rfl rfl ?_
                  refine ov_goto (tgt := 129) d_73_125 (by decide) ?_
                  refine ov_cV (as := [ov_i 0]) (st := []) (d2 := d - 1) d_73_129 lk_Reader_224 rfl (Nat.le_of_ble_eq_true rfl) (c := 9) (zb_58 I197) (zs_58 I197) ⟨by decide, rfl⟩ (by omega) (c_Town_addCode_58 (d - 1) (by omega) U I197 (ov_kws hw (by decide +kernel)) 0 (by omega)) ?_
                  rintro _ z209 h210 ⟨rfl, I211, f208⟩
                  show ov_R u d ov_m73 132 [(0, ov_r 3), (1, ov_i dep), (2, ov_i v2), (3, ov_i v5), (4, ov_i v8), (5, ov_i 0)] [] z209 h210 (P_Reader_readPart_3_k3_1_58 F z h dep)
                  have f212 : (h210 3 2) = (h196 3 2) ∧ (h210 36 7) = (h196 36 7) ∧ (h210 1 1) = (h196 1 1) ∧ (h210 90 2) = (h196 90 2) ∧ (h210 0 10) = (h196 0 10) ∧ (h210 0 11) = (h196 0 11) ∧ (h210 0 12) = (h196 0 12) ∧ (h210 0 13) = (h196 0 13) ∧ (h210 3 1) = (h196 3 1) ∧ (h210 36 8) = (h196 36 8) ∧ (h210 46 3) = (h196 46 3) ∧ (h210 46 4) = (h196 46 4) ∧ (h210 49 4) = (h196 49 4) ∧ (h210 49 5) = (h196 49 5) ∧ (h210 64 0) = (h196 64 0) ∧ (h210 76 0) = (h196 76 0) := f208
                  clear f208
                  have e213 : h210 3 1 = 58 := by omega
                  refine ov_blk (ls2 := [(0, ov_r 3), (1, ov_i dep), (2, ov_i v2), (3, ov_i v5), (4, ov_i v8), (5, ov_i 0)]) (st2 := [ov_i 0]) (pc2 := 134) b_73_132_1 rfl rfl ?_
                  exact ov_retz (st := []) d_73_134 rfl (by omega) ⟨_, rfl, I211, (by show (0 = 0 ∧ 1 ≤ (h210 3 2) ∨ 0 = 1) ∧ (h210 36 7) = (h 36 7) ∧ (h210 1 1) = (h 1 1) ∧ (h210 90 2) = (h 90 2) ∧ (h210 0 10) = (h 0 10) ∧ (h210 0 11) = (h 0 11) ∧ (h210 0 12) = (h 0 12) ∧ (h210 0 13) = (h 0 13) ∧ (h210 3 1) = (h 3 1) ∧ (h210 36 8) = (h 36 8) ∧ (h210 46 3) = (h 46 3) ∧ (h210 46 4) = (h 46 4) ∧ (h210 49 4) = (h 49 4) ∧ (h210 49 5) = (h 49 5) ∧ (h210 64 0) = (h 64 0) ∧ (h210 76 0) = (h 76 0); omega)⟩
              · skip
                refine ov_blk (ls2 := [(0, ov_r 3), (1, ov_i dep), (2, ov_i v2), (3, ov_i v5), (4, ov_i v8)]) (st2 := [ov_i 1]) (pc2 := 110) b_73_109_1 rfl rfl ?_
                refine ov_goto (tgt := 114) d_73_110 (by decide) ?_
                refine ov_blk (ls2 := [(0, ov_r 3), (1, ov_i dep), (2, ov_i v2), (3, ov_i v5), (4, ov_i v8), (5, ov_i 1)]) (st2 := [ov_r 3]) (pc2 := 117) b_73_114_2 rfl rfl ?_
                refine ov_getf (v := ov_r 58) d_73_117 fl_Reader_15 (zb_3 I197) (zs_3 I197) (congrArg ov_r e199) ?_
                refine ov_blk (ls2 := [(0, ov_r 3), (1, ov_i dep), (2, ov_i v2), (3, ov_i v5), (4, ov_i v8), (5, ov_i 1)]) (st2 := [ov_i v5, ov_r 58]) (pc2 := 121) b_73_120_1 rfl rfl ?_
                refine ov_ifeq (tgt := 128) d_73_121 (by decide) (by omega) (fun c214 => ?_) (fun c214 => ?_)
                · skip
                  refine ov_blk (ls2 := [(0, ov_r 3), (1, ov_i dep), (2, ov_i v2), (3, ov_i v5), (4, ov_i v8), (5, ov_i 1)]) (st2 := [ov_i v2, ov_r 58]) (pc2 := 129) b_73_128_1 rfl rfl ?_
                  refine ov_cV (as := [ov_i v2]) (st := []) (d2 := d - 1) d_73_129 lk_Reader_224 rfl (Nat.le_of_ble_eq_true rfl) (c := 9) (zb_58 I197) (zs_58 I197) ⟨by decide, rfl⟩ (by omega) (c_Town_addCode_58 (d - 1) (by omega) U I197 (ov_kws hw (by decide +kernel)) v2 (by omega)) ?_
                  rintro _ z216 h217 ⟨rfl, I218, f215⟩
                  show ov_R u d ov_m73 132 [(0, ov_r 3), (1, ov_i dep), (2, ov_i v2), (3, ov_i v5), (4, ov_i v8), (5, ov_i 1)] [] z216 h217 (P_Reader_readPart_3_k3_1_58 F z h dep)
                  have f219 : (h217 3 2) = (h196 3 2) ∧ (h217 36 7) = (h196 36 7) ∧ (h217 1 1) = (h196 1 1) ∧ (h217 90 2) = (h196 90 2) ∧ (h217 0 10) = (h196 0 10) ∧ (h217 0 11) = (h196 0 11) ∧ (h217 0 12) = (h196 0 12) ∧ (h217 0 13) = (h196 0 13) ∧ (h217 3 1) = (h196 3 1) ∧ (h217 36 8) = (h196 36 8) ∧ (h217 46 3) = (h196 46 3) ∧ (h217 46 4) = (h196 46 4) ∧ (h217 49 4) = (h196 49 4) ∧ (h217 49 5) = (h196 49 5) ∧ (h217 64 0) = (h196 64 0) ∧ (h217 76 0) = (h196 76 0) := f215
                  clear f215
                  have e220 : h217 3 1 = 58 := by omega
                  refine ov_blk (ls2 := [(0, ov_r 3), (1, ov_i dep), (2, ov_i v2), (3, ov_i v5), (4, ov_i v8), (5, ov_i 1)]) (st2 := [ov_i 1]) (pc2 := 134) b_73_132_1 rfl rfl ?_
                  exact ov_retz (st := []) d_73_134 rfl (by omega) ⟨_, rfl, I218, (by show (1 = 0 ∧ 1 ≤ (h217 3 2) ∨ 1 = 1) ∧ (h217 36 7) = (h 36 7) ∧ (h217 1 1) = (h 1 1) ∧ (h217 90 2) = (h 90 2) ∧ (h217 0 10) = (h 0 10) ∧ (h217 0 11) = (h 0 11) ∧ (h217 0 12) = (h 0 12) ∧ (h217 0 13) = (h 0 13) ∧ (h217 3 1) = (h 3 1) ∧ (h217 36 8) = (h 36 8) ∧ (h217 46 3) = (h 46 3) ∧ (h217 46 4) = (h 46 4) ∧ (h217 49 4) = (h 49 4) ∧ (h217 49 5) = (h 49 5) ∧ (h217 64 0) = (h 64 0) ∧ (h217 76 0) = (h 76 0); omega)⟩
                · skip
                  refine ov_blk (ls2 := [(0, ov_r 3), (1, ov_i dep), (2, ov_i v2), (3, ov_i v5), (4, ov_i v8), (5, ov_i 1)]) (st2 := [ov_i 0, ov_r 58]) (pc2 := 125) b_73_124_1 rfl rfl ?_
                  refine ov_goto (tgt := 129) d_73_125 (by decide) ?_
                  refine ov_cV (as := [ov_i 0]) (st := []) (d2 := d - 1) d_73_129 lk_Reader_224 rfl (Nat.le_of_ble_eq_true rfl) (c := 9) (zb_58 I197) (zs_58 I197) ⟨by decide, rfl⟩ (by omega) (c_Town_addCode_58 (d - 1) (by omega) U I197 (ov_kws hw (by decide +kernel)) 0 (by omega)) ?_
                  rintro _ z222 h223 ⟨rfl, I224, f221⟩
                  show ov_R u d ov_m73 132 [(0, ov_r 3), (1, ov_i dep), (2, ov_i v2), (3, ov_i v5), (4, ov_i v8), (5, ov_i 1)] [] z222 h223 (P_Reader_readPart_3_k3_1_58 F z h dep)
                  have f225 : (h223 3 2) = (h196 3 2) ∧ (h223 36 7) = (h196 36 7) ∧ (h223 1 1) = (h196 1 1) ∧ (h223 90 2) = (h196 90 2) ∧ (h223 0 10) = (h196 0 10) ∧ (h223 0 11) = (h196 0 11) ∧ (h223 0 12) = (h196 0 12) ∧ (h223 0 13) = (h196 0 13) ∧ (h223 3 1) = (h196 3 1) ∧ (h223 36 8) = (h196 36 8) ∧ (h223 46 3) = (h196 46 3) ∧ (h223 46 4) = (h196 46 4) ∧ (h223 49 4) = (h196 49 4) ∧ (h223 49 5) = (h196 49 5) ∧ (h223 64 0) = (h196 64 0) ∧ (h223 76 0) = (h196 76 0) := f221
                  clear f221
                  have e226 : h223 3 1 = 58 := by omega
                  refine ov_blk (ls2 := [(0, ov_r 3), (1, ov_i dep), (2, ov_i v2), (3, ov_i v5), (4, ov_i v8), (5, ov_i 1)]) (st2 := [ov_i 1]) (pc2 := 134) b_73_132_1 rfl rfl ?_
                  exact ov_retz (st := []) d_73_134 rfl (by omega) ⟨_, rfl, I224, (by show (1 = 0 ∧ 1 ≤ (h223 3 2) ∨ 1 = 1) ∧ (h223 36 7) = (h 36 7) ∧ (h223 1 1) = (h 1 1) ∧ (h223 90 2) = (h 90 2) ∧ (h223 0 10) = (h 0 10) ∧ (h223 0 11) = (h 0 11) ∧ (h223 0 12) = (h 0 12) ∧ (h223 0 13) = (h 0 13) ∧ (h223 3 1) = (h 3 1) ∧ (h223 36 8) = (h 36 8) ∧ (h223 46 3) = (h 46 3) ∧ (h223 46 4) = (h 46 4) ∧ (h223 49 4) = (h 49 4) ∧ (h223 49 5) = (h 49 5) ∧ (h223 64 0) = (h 64 0) ∧ (h223 76 0) = (h 76 0); omega)⟩
          · skip
            refine ov_blk (ls2 := [(0, ov_r 3), (1, ov_i dep), (2, ov_i v2), (3, ov_i v5), (4, ov_i v8)]) (st2 := [ov_i (dep + 1), ov_r 3]) (pc2 := 74) b_73_70_4 rfl rfl ?_
            refine ov_cV (as := [ov_i (dep + 1)]) (st := []) (d2 := d - 1) d_73_74 lk_Reader_210 rfl (Nat.le_of_ble_eq_true rfl) (c := 6) (zb_3 I175) (zs_3 I175) ⟨by decide, rfl⟩ (by omega) (HE (k - 1) (by omega) (d - 1) (by omega) U I175 (ov_kws hw (by decide +kernel)) (dep + 1) e177 (by omega) (by omega)) ?_
            rintro _ z229 h230 ⟨v228, rfl, I231, f227⟩
            show ov_R u d ov_m73 77 [(0, ov_r 3), (1, ov_i dep), (2, ov_i v2), (3, ov_i v5), (4, ov_i v8)] [ov_i v228] z229 h230 (P_Reader_readPart_3_k3_1_58 F z h dep)
            have f232 : (v228 = 0 ∧ 1 ≤ (h230 3 2) ∨ v228 = 1) ∧ (h230 36 7) = (h174 36 7) ∧ (h230 1 1) = (h174 1 1) ∧ (h230 90 2) = (h174 90 2) ∧ (h230 0 10) = (h174 0 10) ∧ (h230 0 11) = (h174 0 11) ∧ (h230 0 12) = (h174 0 12) ∧ (h230 0 13) = (h174 0 13) ∧ (h230 3 1) = (h174 3 1) ∧ (h230 36 8) = (h174 36 8) ∧ (h230 46 3) = (h174 46 3) ∧ (h230 46 4) = (h174 46 4) ∧ (h230 49 4) = (h174 49 4) ∧ (h230 49 5) = (h174 49 5) ∧ (h230 64 0) = (h174 64 0) ∧ (h230 76 0) = (h174 76 0) := f227
            clear f227
            have e233 : h230 3 1 = 58 := by omega
            refine ov_ifeq (tgt := 93) d_73_77 (by decide) (by omega) (fun c234 => ?_) (fun c234 => ?_)
            · skip
              refine ov_blk (ls2 := [(0, ov_r 3), (1, ov_i dep), (2, ov_i v2), (3, ov_i v5), (4, ov_i v8)]) (st2 := [ov_i 0]) (pc2 := 94) b_73_93_1 rfl rfl ?_
              exact ov_retz (st := []) d_73_94 rfl (by omega) ⟨_, rfl, I231, (by show (0 = 0 ∧ 1 ≤ (h230 3 2) ∨ 0 = 1) ∧ (h230 36 7) = (h 36 7) ∧ (h230 1 1) = (h 1 1) ∧ (h230 90 2) = (h 90 2) ∧ (h230 0 10) = (h 0 10) ∧ (h230 0 11) = (h 0 11) ∧ (h230 0 12) = (h 0 12) ∧ (h230 0 13) = (h 0 13) ∧ (h230 3 1) = (h 3 1) ∧ (h230 36 8) = (h 36 8) ∧ (h230 46 3) = (h 46 3) ∧ (h230 46 4) = (h 46 4) ∧ (h230 49 4) = (h 49 4) ∧ (h230 49 5) = (h 49 5) ∧ (h230 64 0) = (h 64 0) ∧ (h230 76 0) = (h 76 0); omega)⟩
            · skip
              refine ov_blk (ls2 := [(0, ov_r 3), (1, ov_i dep), (2, ov_i v2), (3, ov_i v5), (4, ov_i v8)]) (st2 := [ov_i 41, ov_r 3]) (pc2 := 83) b_73_80_2 rfl rfl ?_
              refine ov_cV (as := [ov_i 41]) (st := []) (d2 := d - 1) d_73_83 lk_Reader_92 rfl (Nat.le_of_ble_eq_true rfl) (c := 6) (zb_3 I231) (zs_3 I231) ⟨by decide, rfl⟩ (by omega) (c_Reader_takeSign_3_k3_1_58 (d - 1) (by omega) U I231 (ov_kws hw (by decide +kernel)) 41 e233 (by omega)) ?_
              rintro _ z237 h238 ⟨v236, rfl, I239, f235⟩
              show ov_R u d ov_m73 86 [(0, ov_r 3), (1, ov_i dep), (2, ov_i v2), (3, ov_i v5), (4, ov_i v8)] [ov_i v236] z237 h238 (P_Reader_readPart_3_k3_1_58 F z h dep)
              have f240 : (v236 = 0 ∧ 1 ≤ (h238 3 2) ∨ v236 = 1) ∧ (h238 36 7) = (h230 36 7) ∧ (h238 1 1) = (h230 1 1) ∧ (h238 90 2) = (h230 90 2) ∧ (h238 0 10) = (h230 0 10) ∧ (h238 0 11) = (h230 0 11) ∧ (h238 0 12) = (h230 0 12) ∧ (h238 0 13) = (h230 0 13) ∧ (h238 3 1) = (h230 3 1) ∧ (h238 36 8) = (h230 36 8) ∧ (h238 46 3) = (h230 46 3) ∧ (h238 46 4) = (h230 46 4) ∧ (h238 49 4) = (h230 49 4) ∧ (h238 49 5) = (h230 49 5) ∧ (h238 64 0) = (h230 64 0) ∧ (h238 76 0) = (h230 76 0) := f235
              clear f235
              have e241 : h238 3 1 = 58 := by omega
              refine ov_ifeq (tgt := 93) d_73_86 (by decide) (by omega) (fun c242 => ?_) (fun c242 => ?_)
              · skip
                refine ov_blk (ls2 := [(0, ov_r 3), (1, ov_i dep), (2, ov_i v2), (3, ov_i v5), (4, ov_i v8)]) (st2 := [ov_i 0]) (pc2 := 94) b_73_93_1 rfl rfl ?_
                exact ov_retz (st := []) d_73_94 rfl (by omega) ⟨_, rfl, I239, (by show (0 = 0 ∧ 1 ≤ (h238 3 2) ∨ 0 = 1) ∧ (h238 36 7) = (h 36 7) ∧ (h238 1 1) = (h 1 1) ∧ (h238 90 2) = (h 90 2) ∧ (h238 0 10) = (h 0 10) ∧ (h238 0 11) = (h 0 11) ∧ (h238 0 12) = (h 0 12) ∧ (h238 0 13) = (h 0 13) ∧ (h238 3 1) = (h 3 1) ∧ (h238 36 8) = (h 36 8) ∧ (h238 46 3) = (h 46 3) ∧ (h238 46 4) = (h 46 4) ∧ (h238 49 4) = (h 49 4) ∧ (h238 49 5) = (h 49 5) ∧ (h238 64 0) = (h 64 0) ∧ (h238 76 0) = (h 76 0); omega)⟩
              · skip
                refine ov_blk (ls2 := [(0, ov_r 3), (1, ov_i dep), (2, ov_i v2), (3, ov_i v5), (4, ov_i v8)]) (st2 := [ov_i 1]) (pc2 := 90) b_73_89_1 rfl rfl ?_
                refine ov_goto (tgt := 94) d_73_90 (by decide) ?_
                exact ov_retz (st := []) d_73_94 rfl (by omega) ⟨_, rfl, I239, (by show (1 = 0 ∧ 1 ≤ (h238 3 2) ∨ 1 = 1) ∧ (h238 36 7) = (h 36 7) ∧ (h238 1 1) = (h 1 1) ∧ (h238 90 2) = (h 90 2) ∧ (h238 0 10) = (h 0 10) ∧ (h238 0 11) = (h 0 11) ∧ (h238 0 12) = (h 0 12) ∧ (h238 0 13) = (h 0 13) ∧ (h238 3 1) = (h 3 1) ∧ (h238 36 8) = (h 36 8) ∧ (h238 46 3) = (h 46 3) ∧ (h238 46 4) = (h 46 4) ∧ (h238 49 4) = (h 49 4) ∧ (h238 49 5) = (h 49 5) ∧ (h238 64 0) = (h 64 0) ∧ (h238 76 0) = (h 76 0); omega)⟩
        · skip
          refine ov_blk (ls2 := [(0, ov_r 3), (1, ov_i dep), (2, ov_i v2), (3, ov_i v5), (4, ov_i v8)]) (st2 := [ov_i 5, ov_r 3]) (pc2 := 54) b_73_52_2 rfl rfl ?_
          refine ov_cV (as := [ov_i 5]) (st := []) (d2 := d - 1) d_73_54 lk_Reader_58 rfl (Nat.le_of_ble_eq_true rfl) (c := 6) (zb_3 I) (zs_3 I) ⟨by decide, rfl⟩ (by omega) (c_Reader_fail_3_k3_1_58 (d - 1) (by omega) U I (ov_kws hw (by decide +kernel)) 5 k0 (by omega) (by omega)) ?_
          rintro _ z245 h246 ⟨v244, rfl, I247, f243⟩
          show ov_R u d ov_m73 57 [(0, ov_r 3), (1, ov_i dep), (2, ov_i v2), (3, ov_i v5), (4, ov_i v8)] [ov_i v244] z245 h246 (P_Reader_readPart_3_k3_1_58 F z h dep)
          have f248 : v244 = 0 ∧ 1 ≤ (h246 3 2) ∧ (h246 36 7) = (h 36 7) ∧ (h246 1 1) = (h 1 1) ∧ (h246 90 2) = (h 90 2) ∧ (h246 0 10) = (h 0 10) ∧ (h246 0 11) = (h 0 11) ∧ (h246 0 12) = (h 0 12) ∧ (h246 0 13) = (h 0 13) ∧ (h246 3 1) = (h 3 1) ∧ (h246 36 8) = (h 36 8) ∧ (h246 46 3) = (h 46 3) ∧ (h246 46 4) = (h 46 4) ∧ (h246 49 4) = (h 49 4) ∧ (h246 49 5) = (h 49 5) ∧ (h246 64 0) = (h 64 0) ∧ (h246 76 0) = (h 76 0) := f243
          clear f243
          have e249 : h246 3 1 = 58 := by omega
          exact ov_retz (st := []) d_73_57 rfl (by omega) ⟨_, rfl, I247, (by show (v244 = 0 ∧ 1 ≤ (h246 3 2) ∨ v244 = 1) ∧ (h246 36 7) = (h 36 7) ∧ (h246 1 1) = (h 1 1) ∧ (h246 90 2) = (h 90 2) ∧ (h246 0 10) = (h 0 10) ∧ (h246 0 11) = (h 0 11) ∧ (h246 0 12) = (h 0 12) ∧ (h246 0 13) = (h 0 13) ∧ (h246 3 1) = (h 3 1) ∧ (h246 36 8) = (h 36 8) ∧ (h246 46 3) = (h 46 3) ∧ (h246 46 4) = (h 46 4) ∧ (h246 49 4) = (h 49 4) ∧ (h246 49 5) = (h 49 5) ∧ (h246 64 0) = (h 64 0) ∧ (h246 76 0) = (h 76 0); omega)⟩
      · skip
        refine ov_blk (ls2 := [(0, ov_r 3), (1, ov_i dep), (2, ov_i v2), (3, ov_i v5), (4, ov_i v8)]) (st2 := [ov_i 1, ov_r 3]) (pc2 := 43) b_73_41_2 rfl rfl ?_
        refine ov_cV (as := [ov_i 1]) (st := []) (d2 := d - 1) d_73_43 lk_Reader_58 rfl (Nat.le_of_ble_eq_true rfl) (c := 6) (zb_3 I) (zs_3 I) ⟨by decide, rfl⟩ (by omega) (c_Reader_fail_3_k3_1_58 (d - 1) (by omega) U I (ov_kws hw (by decide +kernel)) 1 k0 (by omega) (by omega)) ?_
        rintro _ z252 h253 ⟨v251, rfl, I254, f250⟩
        show ov_R u d ov_m73 46 [(0, ov_r 3), (1, ov_i dep), (2, ov_i v2), (3, ov_i v5), (4, ov_i v8)] [ov_i v251] z252 h253 (P_Reader_readPart_3_k3_1_58 F z h dep)
        have f255 : v251 = 0 ∧ 1 ≤ (h253 3 2) ∧ (h253 36 7) = (h 36 7) ∧ (h253 1 1) = (h 1 1) ∧ (h253 90 2) = (h 90 2) ∧ (h253 0 10) = (h 0 10) ∧ (h253 0 11) = (h 0 11) ∧ (h253 0 12) = (h 0 12) ∧ (h253 0 13) = (h 0 13) ∧ (h253 3 1) = (h 3 1) ∧ (h253 36 8) = (h 36 8) ∧ (h253 46 3) = (h 46 3) ∧ (h253 46 4) = (h 46 4) ∧ (h253 49 4) = (h 49 4) ∧ (h253 49 5) = (h 49 5) ∧ (h253 64 0) = (h 64 0) ∧ (h253 76 0) = (h 76 0) := f250
        clear f250
        have e256 : h253 3 1 = 58 := by omega
        exact ov_retz (st := []) d_73_46 rfl (by omega) ⟨_, rfl, I254, (by show (v251 = 0 ∧ 1 ≤ (h253 3 2) ∨ v251 = 1) ∧ (h253 36 7) = (h 36 7) ∧ (h253 1 1) = (h 1 1) ∧ (h253 90 2) = (h 90 2) ∧ (h253 0 10) = (h 0 10) ∧ (h253 0 11) = (h 0 11) ∧ (h253 0 12) = (h 0 12) ∧ (h253 0 13) = (h 0 13) ∧ (h253 3 1) = (h 3 1) ∧ (h253 36 8) = (h 36 8) ∧ (h253 46 3) = (h 46 3) ∧ (h253 46 4) = (h 46 4) ∧ (h253 49 4) = (h 49 4) ∧ (h253 49 5) = (h 49 5) ∧ (h253 64 0) = (h 64 0) ∧ (h253 76 0) = (h 76 0); omega)⟩
set_option maxHeartbeats 4000000 in
theorem c_Reader_readProduct_3_k3_1_58 {u : ov_U} {F : ov_H} (k : Nat) (HE : ∀ k' : Nat, k' + 1 = k → ∀ {z : ov_Z} {h : ov_H} (d : Nat) (hd : (10 + 5 * k' + 4) ≤ d) (U : ov_cap u) (I : ov_I F z h) (hw : ov_kw 295436135555504537610 F) (dep : Int) (k0 : h 3 1 = 58) (g_dep : ov_g dep) (p0 : 0 ≤ dep ∧ dep + (k' : Int) = 5), ov_T u d ov_m69 [ov_r 3, ov_i dep] z h (P_Reader_readExpression_3_k3_1_58 F z h dep)) (HP : ∀ k' : Nat, k' + 1 = k → ∀ {z : ov_Z} {h : ov_H} (d : Nat) (hd : (10 + 5 * k' + 0) ≤ d) (U : ov_cap u) (I : ov_I F z h) (hw : ov_kw 295436135555504537610 F) (dep : Int) (k0 : h 3 1 = 58) (g_dep : ov_g dep) (p0 : 0 ≤ dep ∧ dep + (k' : Int) = 5), ov_T u d ov_m73 [ov_r 3, ov_i dep] z h (P_Reader_readPart_3_k3_1_58 F z h dep)) {z : ov_Z} {h : ov_H} (d : Nat) (hd : (10 + 5 * k + 1) ≤ d) (U : ov_cap u) (I : ov_I F z h) (hw : ov_kw 295436135555504537610 F) (dep : Int) (k0 : h 3 1 = 58) (g_dep : ov_g dep) (p0 : 0 ≤ dep ∧ dep + (k : Int) = 5) : ov_T u d ov_m72 [ov_r 3, ov_i dep] z h (P_Reader_readProduct_3_k3_1_58 F z h dep) := by
  refine ov_en rfl (Nat.le_of_ble_eq_true rfl) ?_
  show ov_R u d ov_m72 0 [(0, ov_r 3), (1, ov_i dep)] [] z h (P_Reader_readProduct_3_k3_1_58 F z h dep)
  refine ov_blk (ls2 := [(0, ov_r 3), (1, ov_i dep)]) (st2 := [ov_i dep, ov_r 3]) (pc2 := 2) b_72_0_2 rfl rfl ?_
  refine ov_cV (as := [ov_i dep]) (st := []) (d2 := d - 1) d_72_2 lk_Reader_237 rfl (Nat.le_of_ble_eq_true rfl) (c := 6) (zb_3 I) (zs_3 I) ⟨by decide, rfl⟩ (by omega) (c_Reader_readPart_3_k3_1_58 k HE HP (d - 1) (by omega) U I (ov_kws hw (by decide +kernel)) dep k0 (by omega) (by omega)) ?_
  rintro _ z3 h4 ⟨v2, rfl, I5, f1⟩
  show ov_R u d ov_m72 5 [(0, ov_r 3), (1, ov_i dep)] [ov_i v2] z3 h4 (P_Reader_readProduct_3_k3_1_58 F z h dep)
  have f6 : (v2 = 0 ∧ 1 ≤ (h4 3 2) ∨ v2 = 1) ∧ (h4 36 7) = (h 36 7) ∧ (h4 1 1) = (h 1 1) ∧ (h4 90 2) = (h 90 2) ∧ (h4 0 10) = (h 0 10) ∧ (h4 0 11) = (h 0 11) ∧ (h4 0 12) = (h 0 12) ∧ (h4 0 13) = (h 0 13) ∧ (h4 3 1) = (h 3 1) ∧ (h4 36 8) = (h 36 8) ∧ (h4 46 3) = (h 46 3) ∧ (h4 46 4) = (h 46 4) ∧ (h4 49 4) = (h 49 4) ∧ (h4 49 5) = (h 49 5) ∧ (h4 64 0) = (h 64 0) ∧ (h4 76 0) = (h 76 0) := f1
  clear f1
  have e7 : h4 3 1 = 58 := by omega
  refine ov_blk (ls2 := [(0, ov_r 3), (1, ov_i dep), (2, ov_i v2), (3, ov_i 0)]) (st2 := []) (pc2 := 8) b_72_5_3 rfl rfl ?_
  have L11 : ∀ (n8 : Nat) (x2 : Int) (x3 : Int) (z12 : ov_Z) (h13 : ov_H) (I14 : ov_I F z12 h13) (q10 : (x2 = 0 ∧ 1 ≤ (h13 3 2) ∨ x2 = 1) ∧ 0 ≤ x3 ∧ x3 ≤ 1000 ∧ (h13 36 7) = (h 36 7) ∧ (h13 1 1) = (h 1 1) ∧ (h13 90 2) = (h 90 2) ∧ (h13 0 10) = (h 0 10) ∧ (h13 0 11) = (h 0 11) ∧ (h13 0 12) = (h 0 12) ∧ (h13 0 13) = (h 0 13) ∧ (h13 3 1) = (h 3 1) ∧ (h13 36 8) = (h 36 8) ∧ (h13 46 3) = (h 46 3) ∧ (h13 46 4) = (h 46 4) ∧ (h13 49 4) = (h 49 4) ∧ (h13 49 5) = (h 49 5) ∧ (h13 64 0) = (h 64 0) ∧ (h13 76 0) = (h 76 0) ∧ h13 3 1 = 58), 1000 - x3 < (n8 : Int) → ov_R u d ov_m72 8 [(0, ov_r 3), (1, ov_i dep), (2, ov_i x2), (3, ov_i x3)] [] z12 h13 (P_Reader_readProduct_3_k3_1_58 F z h dep) := by
    intro n8
    induction n8 with
    | zero =>
      intro x2 x3 z12 h13 I14 q10 hn15
      exact absurd hn15 (by omega)
    | succ n8 ih9 =>
      intro x2 x3 z12 h13 I14 q10 hn15
      have e16 : h13 3 1 = 58 := by omega
      refine ov_blk (ls2 := [(0, ov_r 3), (1, ov_i dep), (2, ov_i x2), (3, ov_i x3)]) (st2 := [ov_i 1000, ov_i x3]) (pc2 := 12) b_72_8_2 rfl rfl ?_
      refine ov_icge (tgt := 59) d_72_12 (by decide) (by omega) (by omega) (fun c17 => ?_) (fun c17 => ?_)
      · skip
        refine ov_blk (ls2 := [(0, ov_r 3), (1, ov_i dep), (2, ov_i x2), (3, ov_i x3)]) (st2 := [ov_i x2]) (pc2 := 60) b_72_59_1 rfl rfl ?_
        exact ov_retz (st := []) d_72_60 rfl (by omega) ⟨_, rfl, I14, (by show (x2 = 0 ∧ 1 ≤ (h13 3 2) ∨ x2 = 1) ∧ (h13 36 7) = (h 36 7) ∧ (h13 1 1) = (h 1 1) ∧ (h13 90 2) = (h 90 2) ∧ (h13 0 10) = (h 0 10) ∧ (h13 0 11) = (h 0 11) ∧ (h13 0 12) = (h 0 12) ∧ (h13 0 13) = (h 0 13) ∧ (h13 3 1) = (h 3 1) ∧ (h13 36 8) = (h 36 8) ∧ (h13 46 3) = (h 46 3) ∧ (h13 46 4) = (h 46 4) ∧ (h13 49 4) = (h 49 4) ∧ (h13 49 5) = (h 49 5) ∧ (h13 64 0) = (h 64 0) ∧ (h13 76 0) = (h 76 0); omega)⟩
      · skip
        refine ov_blk (ls2 := [(0, ov_r 3), (1, ov_i dep), (2, ov_i x2), (3, ov_i x3)]) (st2 := [ov_i x2]) (pc2 := 16) b_72_15_1 rfl rfl ?_
        refine ov_ifeq (tgt := 59) d_72_16 (by decide) (by omega) (fun c18 => ?_) (fun c18 => ?_)
        · skip
          refine ov_blk (ls2 := [(0, ov_r 3), (1, ov_i dep), (2, ov_i x2), (3, ov_i x3)]) (st2 := [ov_i x2]) (pc2 := 60) b_72_59_1 rfl rfl ?_
          exact ov_retz (st := []) d_72_60 rfl (by omega) ⟨_, rfl, I14, (by show (x2 = 0 ∧ 1 ≤ (h13 3 2) ∨ x2 = 1) ∧ (h13 36 7) = (h 36 7) ∧ (h13 1 1) = (h 1 1) ∧ (h13 90 2) = (h 90 2) ∧ (h13 0 10) = (h 0 10) ∧ (h13 0 11) = (h 0 11) ∧ (h13 0 12) = (h 0 12) ∧ (h13 0 13) = (h 0 13) ∧ (h13 3 1) = (h 3 1) ∧ (h13 36 8) = (h 36 8) ∧ (h13 46 3) = (h 46 3) ∧ (h13 46 4) = (h 46 4) ∧ (h13 49 4) = (h 49 4) ∧ (h13 49 5) = (h 49 5) ∧ (h13 64 0) = (h 64 0) ∧ (h13 76 0) = (h 76 0); omega)⟩
        · skip
          refine ov_blk (ls2 := [(0, ov_r 3), (1, ov_i dep), (2, ov_i x2), (3, ov_i x3)]) (st2 := [ov_r 3]) (pc2 := 20) b_72_19_1 rfl rfl ?_
          refine ov_getf (v := ov_r 1) d_72_20 fl_Reader_9 (zb_3 I14) (zs_3 I14) (congrArg ov_r (rg_3_0 I14)) ?_
          refine ov_blk (ls2 := [(0, ov_r 3), (1, ov_i dep), (2, ov_i x2), (3, ov_i x3)]) (st2 := [ov_i 42, ov_r 1]) (pc2 := 25) b_72_23_1 rfl rfl ?_
          refine ov_cV (as := [ov_i 42]) (st := []) (d2 := d - 1) d_72_25 lk_Reader_231 rfl (Nat.le_of_ble_eq_true rfl) (c := 8) (zb_1 I14) (zs_1 I14) ⟨by decide, rfl⟩ (by omega) (c_Tape_isSign_1 (d - 1) (by omega) U I14 42 (by omega)) ?_
          rintro _ _ _ ⟨v20, rfl, rfl, rfl, f19⟩
          show ov_R u d ov_m72 28 [(0, ov_r 3), (1, ov_i dep), (2, ov_i x2), (3, ov_i x3)] [ov_i v20] z12 h13 (P_Reader_readProduct_3_k3_1_58 F z h dep)
          have f21 : (v20 = 0 ∨ v20 = 1) := f19
          clear f19
          refine ov_ifeq (tgt := 59) d_72_28 (by decide) (by omega) (fun c22 => ?_) (fun c22 => ?_)
          · skip
            refine ov_blk (ls2 := [(0, ov_r 3), (1, ov_i dep), (2, ov_i x2), (3, ov_i x3)]) (st2 := [ov_i x2]) (pc2 := 60) b_72_59_1 rfl rfl ?_
            exact ov_retz (st := []) d_72_60 rfl (by omega) ⟨_, rfl, I14, (by show (x2 = 0 ∧ 1 ≤ (h13 3 2) ∨ x2 = 1) ∧ (h13 36 7) = (h 36 7) ∧ (h13 1 1) = (h 1 1) ∧ (h13 90 2) = (h 90 2) ∧ (h13 0 10) = (h 0 10) ∧ (h13 0 11) = (h 0 11) ∧ (h13 0 12) = (h 0 12) ∧ (h13 0 13) = (h 0 13) ∧ (h13 3 1) = (h 3 1) ∧ (h13 36 8) = (h 36 8) ∧ (h13 46 3) = (h 46 3) ∧ (h13 46 4) = (h 46 4) ∧ (h13 49 4) = (h 49 4) ∧ (h13 49 5) = (h 49 5) ∧ (h13 64 0) = (h 64 0) ∧ (h13 76 0) = (h 76 0); omega)⟩
          · skip
            refine ov_blk (ls2 := [(0, ov_r 3), (1, ov_i dep), (2, ov_i x2), (3, ov_i x3)]) (st2 := [ov_r 3]) (pc2 := 32) b_72_31_1 rfl rfl ?_
            refine ov_getf (v := ov_r 1) d_72_32 fl_Reader_9 (zb_3 I14) (zs_3 I14) (congrArg ov_r (rg_3_0 I14)) ?_
            refine ov_cV (as := []) (st := []) (d2 := d - 1) d_72_35 lk_Reader_75 rfl (Nat.le_of_ble_eq_true rfl) (c := 8) (zb_1 I14) (zs_1 I14) ⟨by decide, rfl⟩ (by omega) (c_Tape_advance_1 (d - 1) (by omega) U I14 (ov_kws hw (by decide +kernel))) ?_
            rintro _ z24 h25 ⟨rfl, I26, f23⟩
            show ov_R u d ov_m72 38 [(0, ov_r 3), (1, ov_i dep), (2, ov_i x2), (3, ov_i x3)] [] z24 h25 (P_Reader_readProduct_3_k3_1_58 F z h dep)
            have f27 : (h25 3 3) = (h13 3 3) ∧ (h25 36 7) = (h13 36 7) ∧ (h25 1 1) = (h13 1 1) ∧ (h25 90 2) = (h13 90 2) ∧ (h25 0 10) = (h13 0 10) ∧ (h25 0 11) = (h13 0 11) ∧ (h25 0 12) = (h13 0 12) ∧ (h25 0 13) = (h13 0 13) ∧ (h25 3 1) = (h13 3 1) ∧ (h25 36 8) = (h13 36 8) ∧ (h25 46 3) = (h13 46 3) ∧ (h25 46 4) = (h13 46 4) ∧ (h25 49 4) = (h13 49 4) ∧ (h25 49 5) = (h13 49 5) ∧ (h25 64 0) = (h13 64 0) ∧ (h25 76 0) = (h13 76 0) := f23
            clear f23
            have e28 : h25 3 1 = 58 := by omega
            refine ov_blk (ls2 := [(0, ov_r 3), (1, ov_i dep), (2, ov_i x2), (3, ov_i x3)]) (st2 := [ov_i dep, ov_r 3]) (pc2 := 40) b_72_38_2 rfl rfl ?_
            refine ov_cV (as := [ov_i dep]) (st := []) (d2 := d - 1) d_72_40 lk_Reader_237 rfl (Nat.le_of_ble_eq_true rfl) (c := 6) (zb_3 I26) (zs_3 I26) ⟨by decide, rfl⟩ (by omega) (c_Reader_readPart_3_k3_1_58 k HE HP (d - 1) (by omega) U I26 (ov_kws hw (by decide +kernel)) dep e28 (by omega) (by omega)) ?_
            rintro _ z31 h32 ⟨v30, rfl, I33, f29⟩
            show ov_R u d ov_m72 43 [(0, ov_r 3), (1, ov_i dep), (2, ov_i x2), (3, ov_i x3)] [ov_i v30] z31 h32 (P_Reader_readProduct_3_k3_1_58 F z h dep)
            have f34 : (v30 = 0 ∧ 1 ≤ (h32 3 2) ∨ v30 = 1) ∧ (h32 36 7) = (h25 36 7) ∧ (h32 1 1) = (h25 1 1) ∧ (h32 90 2) = (h25 90 2) ∧ (h32 0 10) = (h25 0 10) ∧ (h32 0 11) = (h25 0 11) ∧ (h32 0 12) = (h25 0 12) ∧ (h32 0 13) = (h25 0 13) ∧ (h32 3 1) = (h25 3 1) ∧ (h32 36 8) = (h25 36 8) ∧ (h32 46 3) = (h25 46 3) ∧ (h32 46 4) = (h25 46 4) ∧ (h32 49 4) = (h25 49 4) ∧ (h32 49 5) = (h25 49 5) ∧ (h32 64 0) = (h25 64 0) ∧ (h32 76 0) = (h25 76 0) := f29
            clear f29
            have e35 : h32 3 1 = 58 := by omega
            refine ov_blk (ls2 := [(0, ov_r 3), (1, ov_i dep), (2, ov_i v30), (3, ov_i x3)]) (st2 := [ov_r 3]) (pc2 := 45) b_72_43_2 rfl rfl ?_
            refine ov_getf (v := ov_r 58) d_72_45 fl_Reader_15 (zb_3 I33) (zs_3 I33) (congrArg ov_r e35) ?_
            refine ov_blk (ls2 := [(0, ov_r 3), (1, ov_i dep), (2, ov_i v30), (3, ov_i x3)]) (st2 := [ov_i 7, ov_r 58]) (pc2 := 50) b_72_48_1 rfl rfl ?_
            refine ov_cV (as := [ov_i 7]) (st := []) (d2 := d - 1) d_72_50 lk_Reader_224 rfl (Nat.le_of_ble_eq_true rfl) (c := 9) (zb_58 I33) (zs_58 I33) ⟨by decide, rfl⟩ (by omega) (c_Town_addCode_58 (d - 1) (by omega) U I33 (ov_kws hw (by decide +kernel)) 7 (by omega)) ?_
            rintro _ z37 h38 ⟨rfl, I39, f36⟩
            show ov_R u d ov_m72 53 [(0, ov_r 3), (1, ov_i dep), (2, ov_i v30), (3, ov_i x3)] [] z37 h38 (P_Reader_readProduct_3_k3_1_58 F z h dep)
            have f40 : (h38 3 2) = (h32 3 2) ∧ (h38 36 7) = (h32 36 7) ∧ (h38 1 1) = (h32 1 1) ∧ (h38 90 2) = (h32 90 2) ∧ (h38 0 10) = (h32 0 10) ∧ (h38 0 11) = (h32 0 11) ∧ (h38 0 12) = (h32 0 12) ∧ (h38 0 13) = (h32 0 13) ∧ (h38 3 1) = (h32 3 1) ∧ (h38 36 8) = (h32 36 8) ∧ (h38 46 3) = (h32 46 3) ∧ (h38 46 4) = (h32 46 4) ∧ (h38 49 4) = (h32 49 4) ∧ (h38 49 5) = (h32 49 5) ∧ (h38 64 0) = (h32 64 0) ∧ (h38 76 0) = (h32 76 0) := f36
            clear f36
            have e41 : h38 3 1 = 58 := by omega
            refine ov_blk (ls2 := [(0, ov_r 3), (1, ov_i dep), (2, ov_i v30), (3, ov_i (x3 + 1))]) (st2 := []) (pc2 := 56) b_72_53_1 rfl rfl ?_
            refine ov_goto (tgt := 8) d_72_56 (by decide) ?_
            exact ih9 v30 (x3 + 1) _ _ I39 (by show (v30 = 0 ∧ 1 ≤ (h38 3 2) ∨ v30 = 1) ∧ 0 ≤ (x3 + 1) ∧ (x3 + 1) ≤ 1000 ∧ (h38 36 7) = (h 36 7) ∧ (h38 1 1) = (h 1 1) ∧ (h38 90 2) = (h 90 2) ∧ (h38 0 10) = (h 0 10) ∧ (h38 0 11) = (h 0 11) ∧ (h38 0 12) = (h 0 12) ∧ (h38 0 13) = (h 0 13) ∧ (h38 3 1) = (h 3 1) ∧ (h38 36 8) = (h 36 8) ∧ (h38 46 3) = (h 46 3) ∧ (h38 46 4) = (h 46 4) ∧ (h38 49 4) = (h 49 4) ∧ (h38 49 5) = (h 49 5) ∧ (h38 64 0) = (h 64 0) ∧ (h38 76 0) = (h 76 0) ∧ (h38 3 1) = 58; omega) (by omega)
  exact L11 1001 v2 0 _ _ I5 (by show (v2 = 0 ∧ 1 ≤ (h4 3 2) ∨ v2 = 1) ∧ 0 ≤ 0 ∧ 0 ≤ 1000 ∧ (h4 36 7) = (h 36 7) ∧ (h4 1 1) = (h 1 1) ∧ (h4 90 2) = (h 90 2) ∧ (h4 0 10) = (h 0 10) ∧ (h4 0 11) = (h 0 11) ∧ (h4 0 12) = (h 0 12) ∧ (h4 0 13) = (h 0 13) ∧ (h4 3 1) = (h 3 1) ∧ (h4 36 8) = (h 36 8) ∧ (h4 46 3) = (h 46 3) ∧ (h4 46 4) = (h 46 4) ∧ (h4 49 4) = (h 49 4) ∧ (h4 49 5) = (h 49 5) ∧ (h4 64 0) = (h 64 0) ∧ (h4 76 0) = (h 76 0) ∧ (h4 3 1) = 58; omega) (by omega)
set_option maxHeartbeats 4000000 in
theorem c_Reader_readSum_3_k3_1_58 {u : ov_U} {F : ov_H} (k : Nat) (HE : ∀ k' : Nat, k' + 1 = k → ∀ {z : ov_Z} {h : ov_H} (d : Nat) (hd : (10 + 5 * k' + 4) ≤ d) (U : ov_cap u) (I : ov_I F z h) (hw : ov_kw 295436135555504537610 F) (dep : Int) (k0 : h 3 1 = 58) (g_dep : ov_g dep) (p0 : 0 ≤ dep ∧ dep + (k' : Int) = 5), ov_T u d ov_m69 [ov_r 3, ov_i dep] z h (P_Reader_readExpression_3_k3_1_58 F z h dep)) (HP : ∀ k' : Nat, k' + 1 = k → ∀ {z : ov_Z} {h : ov_H} (d : Nat) (hd : (10 + 5 * k' + 0) ≤ d) (U : ov_cap u) (I : ov_I F z h) (hw : ov_kw 295436135555504537610 F) (dep : Int) (k0 : h 3 1 = 58) (g_dep : ov_g dep) (p0 : 0 ≤ dep ∧ dep + (k' : Int) = 5), ov_T u d ov_m73 [ov_r 3, ov_i dep] z h (P_Reader_readPart_3_k3_1_58 F z h dep)) {z : ov_Z} {h : ov_H} (d : Nat) (hd : (10 + 5 * k + 2) ≤ d) (U : ov_cap u) (I : ov_I F z h) (hw : ov_kw 295436135555504537610 F) (dep : Int) (k0 : h 3 1 = 58) (g_dep : ov_g dep) (p0 : 0 ≤ dep ∧ dep + (k : Int) = 5) : ov_T u d ov_m71 [ov_r 3, ov_i dep] z h (P_Reader_readSum_3_k3_1_58 F z h dep) := by
  refine ov_en rfl (Nat.le_of_ble_eq_true rfl) ?_
  show ov_R u d ov_m71 0 [(0, ov_r 3), (1, ov_i dep)] [] z h (P_Reader_readSum_3_k3_1_58 F z h dep)
  refine ov_blk (ls2 := [(0, ov_r 3), (1, ov_i dep)]) (st2 := [ov_i dep, ov_r 3]) (pc2 := 2) b_71_0_2 rfl rfl ?_
  refine ov_cV (as := [ov_i dep]) (st := []) (d2 := d - 1) d_71_2 lk_Reader_234 rfl (Nat.le_of_ble_eq_true rfl) (c := 6) (zb_3 I) (zs_3 I) ⟨by decide, rfl⟩ (by omega) (c_Reader_readProduct_3_k3_1_58 k HE HP (d - 1) (by omega) U I (ov_kws hw (by decide +kernel)) dep k0 (by omega) (by omega)) ?_
  rintro _ z3 h4 ⟨v2, rfl, I5, f1⟩
  show ov_R u d ov_m71 5 [(0, ov_r 3), (1, ov_i dep)] [ov_i v2] z3 h4 (P_Reader_readSum_3_k3_1_58 F z h dep)
  have f6 : (v2 = 0 ∧ 1 ≤ (h4 3 2) ∨ v2 = 1) ∧ (h4 36 7) = (h 36 7) ∧ (h4 1 1) = (h 1 1) ∧ (h4 90 2) = (h 90 2) ∧ (h4 0 10) = (h 0 10) ∧ (h4 0 11) = (h 0 11) ∧ (h4 0 12) = (h 0 12) ∧ (h4 0 13) = (h 0 13) ∧ (h4 3 1) = (h 3 1) ∧ (h4 36 8) = (h 36 8) ∧ (h4 46 3) = (h 46 3) ∧ (h4 46 4) = (h 46 4) ∧ (h4 49 4) = (h 49 4) ∧ (h4 49 5) = (h 49 5) ∧ (h4 64 0) = (h 64 0) ∧ (h4 76 0) = (h 76 0) := f1
  clear f1
  have e7 : h4 3 1 = 58 := by omega
  refine ov_blk (ls2 := [(0, ov_r 3), (1, ov_i dep), (2, ov_i v2), (3, ov_i 0)]) (st2 := []) (pc2 := 8) b_71_5_3 rfl rfl ?_
  have L11 : ∀ (n8 : Nat) (x2 : Int) (x3 : Int) (z12 : ov_Z) (h13 : ov_H) (I14 : ov_I F z12 h13) (q10 : (x2 = 0 ∧ 1 ≤ (h13 3 2) ∨ x2 = 1) ∧ 0 ≤ x3 ∧ x3 ≤ 1000 ∧ (h13 36 7) = (h 36 7) ∧ (h13 1 1) = (h 1 1) ∧ (h13 90 2) = (h 90 2) ∧ (h13 0 10) = (h 0 10) ∧ (h13 0 11) = (h 0 11) ∧ (h13 0 12) = (h 0 12) ∧ (h13 0 13) = (h 0 13) ∧ (h13 3 1) = (h 3 1) ∧ (h13 36 8) = (h 36 8) ∧ (h13 46 3) = (h 46 3) ∧ (h13 46 4) = (h 46 4) ∧ (h13 49 4) = (h 49 4) ∧ (h13 49 5) = (h 49 5) ∧ (h13 64 0) = (h 64 0) ∧ (h13 76 0) = (h 76 0) ∧ h13 3 1 = 58), 1000 - x3 < (n8 : Int) → ov_R u d ov_m71 8 [(0, ov_r 3), (1, ov_i dep), (2, ov_i x2), (3, ov_i x3)] [] z12 h13 (P_Reader_readSum_3_k3_1_58 F z h dep) := by
    intro n8
    induction n8 with
    | zero =>
      intro x2 x3 z12 h13 I14 q10 hn15
      exact absurd hn15 (by omega)
    | succ n8 ih9 =>
      intro x2 x3 z12 h13 I14 q10 hn15
      have e16 : h13 3 1 = 58 := by omega
      refine ov_blk (ls2 := [(0, ov_r 3), (1, ov_i dep), (2, ov_i x2), (3, ov_i x3)]) (st2 := [ov_i 1000, ov_i x3]) (pc2 := 12) b_71_8_2 rfl rfl ?_
      refine ov_icge (tgt := 86) d_71_12 (by decide) (by omega) (by omega) (fun c17 => ?_) (fun c17 => ?_)
      · skip
        refine ov_blk (ls2 := [(0, ov_r 3), (1, ov_i dep), (2, ov_i x2), (3, ov_i x3)]) (st2 := [ov_i x2]) (pc2 := 87) b_71_86_1 rfl rfl ?_
        exact ov_retz (st := []) d_71_87 rfl (by omega) ⟨_, rfl, I14, (by show (x2 = 0 ∧ 1 ≤ (h13 3 2) ∨ x2 = 1) ∧ (h13 36 7) = (h 36 7) ∧ (h13 1 1) = (h 1 1) ∧ (h13 90 2) = (h 90 2) ∧ (h13 0 10) = (h 0 10) ∧ (h13 0 11) = (h 0 11) ∧ (h13 0 12) = (h 0 12) ∧ (h13 0 13) = (h 0 13) ∧ (h13 3 1) = (h 3 1) ∧ (h13 36 8) = (h 36 8) ∧ (h13 46 3) = (h 46 3) ∧ (h13 46 4) = (h 46 4) ∧ (h13 49 4) = (h 49 4) ∧ (h13 49 5) = (h 49 5) ∧ (h13 64 0) = (h 64 0) ∧ (h13 76 0) = (h 76 0); omega)⟩
      · skip
        refine ov_blk (ls2 := [(0, ov_r 3), (1, ov_i dep), (2, ov_i x2), (3, ov_i x3)]) (st2 := [ov_i x2]) (pc2 := 16) b_71_15_1 rfl rfl ?_
        refine ov_ifeq (tgt := 86) d_71_16 (by decide) (by omega) (fun c18 => ?_) (fun c18 => ?_)
        · skip
          refine ov_blk (ls2 := [(0, ov_r 3), (1, ov_i dep), (2, ov_i x2), (3, ov_i x3)]) (st2 := [ov_i x2]) (pc2 := 87) b_71_86_1 rfl rfl ?_
          exact ov_retz (st := []) d_71_87 rfl (by omega) ⟨_, rfl, I14, (by show (x2 = 0 ∧ 1 ≤ (h13 3 2) ∨ x2 = 1) ∧ (h13 36 7) = (h 36 7) ∧ (h13 1 1) = (h 1 1) ∧ (h13 90 2) = (h 90 2) ∧ (h13 0 10) = (h 0 10) ∧ (h13 0 11) = (h 0 11) ∧ (h13 0 12) = (h 0 12) ∧ (h13 0 13) = (h 0 13) ∧ (h13 3 1) = (h 3 1) ∧ (h13 36 8) = (h 36 8) ∧ (h13 46 3) = (h 46 3) ∧ (h13 46 4) = (h 46 4) ∧ (h13 49 4) = (h 49 4) ∧ (h13 49 5) = (h 49 5) ∧ (h13 64 0) = (h 64 0) ∧ (h13 76 0) = (h 76 0); omega)⟩
        · skip
          refine ov_blk (ls2 := [(0, ov_r 3), (1, ov_i dep), (2, ov_i x2), (3, ov_i x3)]) (st2 := [ov_r 3]) (pc2 := 20) b_71_19_1 rfl rfl ?_
          refine ov_getf (v := ov_r 1) d_71_20 fl_Reader_9 (zb_3 I14) (zs_3 I14) (congrArg ov_r (rg_3_0 I14)) ?_
          refine ov_blk (ls2 := [(0, ov_r 3), (1, ov_i dep), (2, ov_i x2), (3, ov_i x3)]) (st2 := [ov_i 43, ov_r 1]) (pc2 := 25) b_71_23_1 rfl rfl ?_
          refine ov_cV (as := [ov_i 43]) (st := []) (d2 := d - 1) d_71_25 lk_Reader_231 rfl (Nat.le_of_ble_eq_true rfl) (c := 8) (zb_1 I14) (zs_1 I14) ⟨by decide, rfl⟩ (by omega) (c_Tape_isSign_1 (d - 1) (by omega) U I14 43 (by omega)) ?_
          rintro _ _ _ ⟨v20, rfl, rfl, rfl, f19⟩
          show ov_R u d ov_m71 28 [(0, ov_r 3), (1, ov_i dep), (2, ov_i x2), (3, ov_i x3)] [ov_i v20] z12 h13 (P_Reader_readSum_3_k3_1_58 F z h dep)
          have f21 : (v20 = 0 ∨ v20 = 1) := f19
          clear f19
          refine ov_blk (ls2 := [(0, ov_r 3), (1, ov_i dep), (2, ov_i x2), (3, ov_i x3), (4, ov_i v20)]) (st2 := [ov_i v20]) (pc2 := 32) b_71_28_2 rfl rfl ?_
          refine ov_ifne (tgt := 49) d_71_32 (by decide) (by omega) (fun c22 => ?_) (fun c22 => ?_)
          · skip
            refine ov_blk (ls2 := [(0, ov_r 3), (1, ov_i dep), (2, ov_i x2), (3, ov_i x3), (4, ov_i v20)]) (st2 := [ov_r 3]) (pc2 := 50) b_71_49_1 rfl rfl ?_
            refine ov_getf (v := ov_r 1) d_71_50 fl_Reader_9 (zb_3 I14) (zs_3 I14) (congrArg ov_r (rg_3_0 I14)) ?_
            refine ov_cV (as := []) (st := []) (d2 := d - 1) d_71_53 lk_Reader_75 rfl (Nat.le_of_ble_eq_true rfl) (c := 8) (zb_1 I14) (zs_1 I14) ⟨by decide, rfl⟩ (by omega) (c_Tape_advance_1 (d - 1) (by omega) U I14 (ov_kws hw (by decide +kernel))) ?_
            rintro _ z24 h25 ⟨rfl, I26, f23⟩
            show ov_R u d ov_m71 56 [(0, ov_r 3), (1, ov_i dep), (2, ov_i x2), (3, ov_i x3), (4, ov_i v20)] [] z24 h25 (P_Reader_readSum_3_k3_1_58 F z h dep)
            have f27 : (h25 3 3) = (h13 3 3) ∧ (h25 36 7) = (h13 36 7) ∧ (h25 1 1) = (h13 1 1) ∧ (h25 90 2) = (h13 90 2) ∧ (h25 0 10) = (h13 0 10) ∧ (h25 0 11) = (h13 0 11) ∧ (h25 0 12) = (h13 0 12) ∧ (h25 0 13) = (h13 0 13) ∧ (h25 3 1) = (h13 3 1) ∧ (h25 36 8) = (h13 36 8) ∧ (h25 46 3) = (h13 46 3) ∧ (h25 46 4) = (h13 46 4) ∧ (h25 49 4) = (h13 49 4) ∧ (h25 49 5) = (h13 49 5) ∧ (h25 64 0) = (h13 64 0) ∧ (h25 76 0) = (h13 76 0) := f23
            clear f23
            have e28 : h25 3 1 = 58 := by omega
            refine ov_blk (ls2 := [(0, ov_r 3), (1, ov_i dep), (2, ov_i x2), (3, ov_i x3), (4, ov_i v20)]) (st2 := [ov_i dep, ov_r 3]) (pc2 := 58) b_71_56_2 rfl rfl ?_
            refine ov_cV (as := [ov_i dep]) (st := []) (d2 := d - 1) d_71_58 lk_Reader_234 rfl (Nat.le_of_ble_eq_true rfl) (c := 6) (zb_3 I26) (zs_3 I26) ⟨by decide, rfl⟩ (by omega) (c_Reader_readProduct_3_k3_1_58 k HE HP (d - 1) (by omega) U I26 (ov_kws hw (by decide +kernel)) dep e28 (by omega) (by omega)) ?_
            rintro _ z31 h32 ⟨v30, rfl, I33, f29⟩
            show ov_R u d ov_m71 61 [(0, ov_r 3), (1, ov_i dep), (2, ov_i x2), (3, ov_i x3), (4, ov_i v20)] [ov_i v30] z31 h32 (P_Reader_readSum_3_k3_1_58 F z h dep)
            have f34 : (v30 = 0 ∧ 1 ≤ (h32 3 2) ∨ v30 = 1) ∧ (h32 36 7) = (h25 36 7) ∧ (h32 1 1) = (h25 1 1) ∧ (h32 90 2) = (h25 90 2) ∧ (h32 0 10) = (h25 0 10) ∧ (h32 0 11) = (h25 0 11) ∧ (h32 0 12) = (h25 0 12) ∧ (h32 0 13) = (h25 0 13) ∧ (h32 3 1) = (h25 3 1) ∧ (h32 36 8) = (h25 36 8) ∧ (h32 46 3) = (h25 46 3) ∧ (h32 46 4) = (h25 46 4) ∧ (h32 49 4) = (h25 49 4) ∧ (h32 49 5) = (h25 49 5) ∧ (h32 64 0) = (h25 64 0) ∧ (h32 76 0) = (h25 76 0) := f29
            clear f29
            have e35 : h32 3 1 = 58 := by omega
            refine ov_blk (ls2 := [(0, ov_r 3), (1, ov_i dep), (2, ov_i v30), (3, ov_i x3), (4, ov_i v20)]) (st2 := [ov_r 3]) (pc2 := 63) b_71_61_2 rfl rfl ?_
            refine ov_getf (v := ov_r 58) d_71_63 fl_Reader_15 (zb_3 I33) (zs_3 I33) (congrArg ov_r e35) ?_
            refine ov_blk (ls2 := [(0, ov_r 3), (1, ov_i dep), (2, ov_i v30), (3, ov_i x3), (4, ov_i v20)]) (st2 := [ov_i v20, ov_r 58]) (pc2 := 68) b_71_66_1 rfl rfl ?_
            refine ov_ifeq (tgt := 75) d_71_68 (by decide) (by omega) (fun c36 => ?_) (fun c36 => ?_)
            · skip
              refine ov_blk (ls2 := [(0, ov_r 3), (1, ov_i dep), (2, ov_i v30), (3, ov_i x3), (4, ov_i v20)]) (st2 := [ov_i 6, ov_r 58]) (pc2 := 77) b_71_75_1 rfl rfl ?_
              refine ov_cV (as := [ov_i 6]) (st := []) (d2 := d - 1) d_71_77 lk_Reader_224 rfl (Nat.le_of_ble_eq_true rfl) (c := 9) (zb_58 I33) (zs_58 I33) ⟨by decide, rfl⟩ (by omega) (c_Town_addCode_58 (d - 1) (by omega) U I33 (ov_kws hw (by decide +kernel)) 6 (by omega)) ?_
              rintro _ z38 h39 ⟨rfl, I40, f37⟩
              show ov_R u d ov_m71 80 [(0, ov_r 3), (1, ov_i dep), (2, ov_i v30), (3, ov_i x3), (4, ov_i v20)] [] z38 h39 (P_Reader_readSum_3_k3_1_58 F z h dep)
              have f41 : (h39 3 2) = (h32 3 2) ∧ (h39 36 7) = (h32 36 7) ∧ (h39 1 1) = (h32 1 1) ∧ (h39 90 2) = (h32 90 2) ∧ (h39 0 10) = (h32 0 10) ∧ (h39 0 11) = (h32 0 11) ∧ (h39 0 12) = (h32 0 12) ∧ (h39 0 13) = (h32 0 13) ∧ (h39 3 1) = (h32 3 1) ∧ (h39 36 8) = (h32 36 8) ∧ (h39 46 3) = (h32 46 3) ∧ (h39 46 4) = (h32 46 4) ∧ (h39 49 4) = (h32 49 4) ∧ (h39 49 5) = (h32 49 5) ∧ (h39 64 0) = (h32 64 0) ∧ (h39 76 0) = (h32 76 0) := f37
              clear f37
              have e42 : h39 3 1 = 58 := by omega
              refine ov_blk (ls2 := [(0, ov_r 3), (1, ov_i dep), (2, ov_i v30), (3, ov_i (x3 + 1)), (4, ov_i v20)]) (st2 := []) (pc2 := 83) b_71_80_1 rfl rfl ?_
              refine ov_goto (tgt := 8) d_71_83 (by decide) ?_
              refine ov_sub (ls2 := [(0, ov_r 3), (1, ov_i dep), (2, ov_i v30), (3, ov_i (x3 + 1))]) (List.Sublist.subset (by repeat (first | exact List.Sublist.refl _ | apply List.Sublist.cons_cons | apply List.Sublist.cons))) ?_
              exact ih9 v30 (x3 + 1) _ _ I40 (by show (v30 = 0 ∧ 1 ≤ (h39 3 2) ∨ v30 = 1) ∧ 0 ≤ (x3 + 1) ∧ (x3 + 1) ≤ 1000 ∧ (h39 36 7) = (h 36 7) ∧ (h39 1 1) = (h 1 1) ∧ (h39 90 2) = (h 90 2) ∧ (h39 0 10) = (h 0 10) ∧ (h39 0 11) = (h 0 11) ∧ (h39 0 12) = (h 0 12) ∧ (h39 0 13) = (h 0 13) ∧ (h39 3 1) = (h 3 1) ∧ (h39 36 8) = (h 36 8) ∧ (h39 46 3) = (h 46 3) ∧ (h39 46 4) = (h 46 4) ∧ (h39 49 4) = (h 49 4) ∧ (h39 49 5) = (h 49 5) ∧ (h39 64 0) = (h 64 0) ∧ (h39 76 0) = (h 76 0) ∧ (h39 3 1) = 58; omega) (by omega)
            · skip
              refine ov_blk (ls2 := [(0, ov_r 3), (1, ov_i dep), (2, ov_i v30), (3, ov_i x3), (4, ov_i v20)]) (st2 := [ov_i 5, ov_r 58]) (pc2 := 72) b_71_71_1 rfl rfl ?_
              refine ov_goto (tgt := 77) d_71_72 (by decide) ?_
              refine ov_cV (as := [ov_i 5]) (st := []) (d2 := d - 1) d_71_77 lk_Reader_224 rfl (Nat.le_of_ble_eq_true rfl) (c := 9) (zb_58 I33) (zs_58 I33) ⟨by decide, rfl⟩ (by omega) (c_Town_addCode_58 (d - 1) (by omega) U I33 (ov_kws hw (by decide +kernel)) 5 (by omega)) ?_
              rintro _ z44 h45 ⟨rfl, I46, f43⟩
              show ov_R u d ov_m71 80 [(0, ov_r 3), (1, ov_i dep), (2, ov_i v30), (3, ov_i x3), (4, ov_i v20)] [] z44 h45 (P_Reader_readSum_3_k3_1_58 F z h dep)
              have f47 : (h45 3 2) = (h32 3 2) ∧ (h45 36 7) = (h32 36 7) ∧ (h45 1 1) = (h32 1 1) ∧ (h45 90 2) = (h32 90 2) ∧ (h45 0 10) = (h32 0 10) ∧ (h45 0 11) = (h32 0 11) ∧ (h45 0 12) = (h32 0 12) ∧ (h45 0 13) = (h32 0 13) ∧ (h45 3 1) = (h32 3 1) ∧ (h45 36 8) = (h32 36 8) ∧ (h45 46 3) = (h32 46 3) ∧ (h45 46 4) = (h32 46 4) ∧ (h45 49 4) = (h32 49 4) ∧ (h45 49 5) = (h32 49 5) ∧ (h45 64 0) = (h32 64 0) ∧ (h45 76 0) = (h32 76 0) := f43
              clear f43
              have e48 : h45 3 1 = 58 := by omega
              refine ov_blk (ls2 := [(0, ov_r 3), (1, ov_i dep), (2, ov_i v30), (3, ov_i (x3 + 1)), (4, ov_i v20)]) (st2 := []) (pc2 := 83) b_71_80_1 rfl rfl ?_
              refine ov_goto (tgt := 8) d_71_83 (by decide) ?_
              refine ov_sub (ls2 := [(0, ov_r 3), (1, ov_i dep), (2, ov_i v30), (3, ov_i (x3 + 1))]) (List.Sublist.subset (by repeat (first | exact List.Sublist.refl _ | apply List.Sublist.cons_cons | apply List.Sublist.cons))) ?_
              exact ih9 v30 (x3 + 1) _ _ I46 (by show (v30 = 0 ∧ 1 ≤ (h45 3 2) ∨ v30 = 1) ∧ 0 ≤ (x3 + 1) ∧ (x3 + 1) ≤ 1000 ∧ (h45 36 7) = (h 36 7) ∧ (h45 1 1) = (h 1 1) ∧ (h45 90 2) = (h 90 2) ∧ (h45 0 10) = (h 0 10) ∧ (h45 0 11) = (h 0 11) ∧ (h45 0 12) = (h 0 12) ∧ (h45 0 13) = (h 0 13) ∧ (h45 3 1) = (h 3 1) ∧ (h45 36 8) = (h 36 8) ∧ (h45 46 3) = (h 46 3) ∧ (h45 46 4) = (h 46 4) ∧ (h45 49 4) = (h 49 4) ∧ (h45 49 5) = (h 49 5) ∧ (h45 64 0) = (h 64 0) ∧ (h45 76 0) = (h 76 0) ∧ (h45 3 1) = 58; omega) (by omega)
          · skip
            refine ov_blk (ls2 := [(0, ov_r 3), (1, ov_i dep), (2, ov_i x2), (3, ov_i x3), (4, ov_i v20)]) (st2 := [ov_r 3]) (pc2 := 36) b_71_35_1 rfl rfl ?_
            refine ov_getf (v := ov_r 1) d_71_36 fl_Reader_9 (zb_3 I14) (zs_3 I14) (congrArg ov_r (rg_3_0 I14)) ?_
            refine ov_blk (ls2 := [(0, ov_r 3), (1, ov_i dep), (2, ov_i x2), (3, ov_i x3), (4, ov_i v20)]) (st2 := [ov_i 45, ov_r 1]) (pc2 := 41) b_71_39_1 rfl rfl ?_
            refine ov_cV (as := [ov_i 45]) (st := []) (d2 := d - 1) d_71_41 lk_Reader_231 rfl (Nat.le_of_ble_eq_true rfl) (c := 8) (zb_1 I14) (zs_1 I14) ⟨by decide, rfl⟩ (by omega) (c_Tape_isSign_1 (d - 1) (by omega) U I14 45 (by omega)) ?_
            rintro _ _ _ ⟨v50, rfl, rfl, rfl, f49⟩
            show ov_R u d ov_m71 44 [(0, ov_r 3), (1, ov_i dep), (2, ov_i x2), (3, ov_i x3), (4, ov_i v20)] [ov_i v50] z12 h13 (P_Reader_readSum_3_k3_1_58 F z h dep)
            have f51 : (v50 = 0 ∨ v50 = 1) := f49
            clear f49
            refine ov_ifne (tgt := 49) d_71_44 (by decide) (by omega) (fun c52 => ?_) (fun c52 => ?_)
            · skip
              refine ov_blk (ls2 := [(0, ov_r 3), (1, ov_i dep), (2, ov_i x2), (3, ov_i x3), (4, ov_i v20)]) (st2 := [ov_r 3]) (pc2 := 50) b_71_49_1 rfl rfl ?_
              refine ov_getf (v := ov_r 1) d_71_50 fl_Reader_9 (zb_3 I14) (zs_3 I14) (congrArg ov_r (rg_3_0 I14)) ?_
              refine ov_cV (as := []) (st := []) (d2 := d - 1) d_71_53 lk_Reader_75 rfl (Nat.le_of_ble_eq_true rfl) (c := 8) (zb_1 I14) (zs_1 I14) ⟨by decide, rfl⟩ (by omega) (c_Tape_advance_1 (d - 1) (by omega) U I14 (ov_kws hw (by decide +kernel))) ?_
              rintro _ z54 h55 ⟨rfl, I56, f53⟩
              show ov_R u d ov_m71 56 [(0, ov_r 3), (1, ov_i dep), (2, ov_i x2), (3, ov_i x3), (4, ov_i v20)] [] z54 h55 (P_Reader_readSum_3_k3_1_58 F z h dep)
              have f57 : (h55 3 3) = (h13 3 3) ∧ (h55 36 7) = (h13 36 7) ∧ (h55 1 1) = (h13 1 1) ∧ (h55 90 2) = (h13 90 2) ∧ (h55 0 10) = (h13 0 10) ∧ (h55 0 11) = (h13 0 11) ∧ (h55 0 12) = (h13 0 12) ∧ (h55 0 13) = (h13 0 13) ∧ (h55 3 1) = (h13 3 1) ∧ (h55 36 8) = (h13 36 8) ∧ (h55 46 3) = (h13 46 3) ∧ (h55 46 4) = (h13 46 4) ∧ (h55 49 4) = (h13 49 4) ∧ (h55 49 5) = (h13 49 5) ∧ (h55 64 0) = (h13 64 0) ∧ (h55 76 0) = (h13 76 0) := f53
              clear f53
              have e58 : h55 3 1 = 58 := by omega
              refine ov_blk (ls2 := [(0, ov_r 3), (1, ov_i dep), (2, ov_i x2), (3, ov_i x3), (4, ov_i v20)]) (st2 := [ov_i dep, ov_r 3]) (pc2 := 58) b_71_56_2 rfl rfl ?_
              refine ov_cV (as := [ov_i dep]) (st := []) (d2 := d - 1) d_71_58 lk_Reader_234 rfl (Nat.le_of_ble_eq_true rfl) (c := 6) (zb_3 I56) (zs_3 I56) ⟨by decide, rfl⟩ (by omega) (c_Reader_readProduct_3_k3_1_58 k HE HP (d - 1) (by omega) U I56 (ov_kws hw (by decide +kernel)) dep e58 (by omega) (by omega)) ?_
              rintro _ z61 h62 ⟨v60, rfl, I63, f59⟩
              show ov_R u d ov_m71 61 [(0, ov_r 3), (1, ov_i dep), (2, ov_i x2), (3, ov_i x3), (4, ov_i v20)] [ov_i v60] z61 h62 (P_Reader_readSum_3_k3_1_58 F z h dep)
              have f64 : (v60 = 0 ∧ 1 ≤ (h62 3 2) ∨ v60 = 1) ∧ (h62 36 7) = (h55 36 7) ∧ (h62 1 1) = (h55 1 1) ∧ (h62 90 2) = (h55 90 2) ∧ (h62 0 10) = (h55 0 10) ∧ (h62 0 11) = (h55 0 11) ∧ (h62 0 12) = (h55 0 12) ∧ (h62 0 13) = (h55 0 13) ∧ (h62 3 1) = (h55 3 1) ∧ (h62 36 8) = (h55 36 8) ∧ (h62 46 3) = (h55 46 3) ∧ (h62 46 4) = (h55 46 4) ∧ (h62 49 4) = (h55 49 4) ∧ (h62 49 5) = (h55 49 5) ∧ (h62 64 0) = (h55 64 0) ∧ (h62 76 0) = (h55 76 0) := f59
              clear f59
              have e65 : h62 3 1 = 58 := by omega
              refine ov_blk (ls2 := [(0, ov_r 3), (1, ov_i dep), (2, ov_i v60), (3, ov_i x3), (4, ov_i v20)]) (st2 := [ov_r 3]) (pc2 := 63) b_71_61_2 rfl rfl ?_
              refine ov_getf (v := ov_r 58) d_71_63 fl_Reader_15 (zb_3 I63) (zs_3 I63) (congrArg ov_r e65) ?_
              refine ov_blk (ls2 := [(0, ov_r 3), (1, ov_i dep), (2, ov_i v60), (3, ov_i x3), (4, ov_i v20)]) (st2 := [ov_i v20, ov_r 58]) (pc2 := 68) b_71_66_1 rfl rfl ?_
              refine ov_ifeq (tgt := 75) d_71_68 (by decide) (by omega) (fun c66 => ?_) (fun c66 => ?_)
              · skip
                refine ov_blk (ls2 := [(0, ov_r 3), (1, ov_i dep), (2, ov_i v60), (3, ov_i x3), (4, ov_i v20)]) (st2 := [ov_i 6, ov_r 58]) (pc2 := 77) b_71_75_1 rfl rfl ?_
                refine ov_cV (as := [ov_i 6]) (st := []) (d2 := d - 1) d_71_77 lk_Reader_224 rfl (Nat.le_of_ble_eq_true rfl) (c := 9) (zb_58 I63) (zs_58 I63) ⟨by decide, rfl⟩ (by omega) (c_Town_addCode_58 (d - 1) (by omega) U I63 (ov_kws hw (by decide +kernel)) 6 (by omega)) ?_
                rintro _ z68 h69 ⟨rfl, I70, f67⟩
                show ov_R u d ov_m71 80 [(0, ov_r 3), (1, ov_i dep), (2, ov_i v60), (3, ov_i x3), (4, ov_i v20)] [] z68 h69 (P_Reader_readSum_3_k3_1_58 F z h dep)
                have f71 : (h69 3 2) = (h62 3 2) ∧ (h69 36 7) = (h62 36 7) ∧ (h69 1 1) = (h62 1 1) ∧ (h69 90 2) = (h62 90 2) ∧ (h69 0 10) = (h62 0 10) ∧ (h69 0 11) = (h62 0 11) ∧ (h69 0 12) = (h62 0 12) ∧ (h69 0 13) = (h62 0 13) ∧ (h69 3 1) = (h62 3 1) ∧ (h69 36 8) = (h62 36 8) ∧ (h69 46 3) = (h62 46 3) ∧ (h69 46 4) = (h62 46 4) ∧ (h69 49 4) = (h62 49 4) ∧ (h69 49 5) = (h62 49 5) ∧ (h69 64 0) = (h62 64 0) ∧ (h69 76 0) = (h62 76 0) := f67
                clear f67
                have e72 : h69 3 1 = 58 := by omega
                refine ov_blk (ls2 := [(0, ov_r 3), (1, ov_i dep), (2, ov_i v60), (3, ov_i (x3 + 1)), (4, ov_i v20)]) (st2 := []) (pc2 := 83) b_71_80_1 rfl rfl ?_
                refine ov_goto (tgt := 8) d_71_83 (by decide) ?_
                refine ov_sub (ls2 := [(0, ov_r 3), (1, ov_i dep), (2, ov_i v60), (3, ov_i (x3 + 1))]) (List.Sublist.subset (by repeat (first | exact List.Sublist.refl _ | apply List.Sublist.cons_cons | apply List.Sublist.cons))) ?_
                exact ih9 v60 (x3 + 1) _ _ I70 (by show (v60 = 0 ∧ 1 ≤ (h69 3 2) ∨ v60 = 1) ∧ 0 ≤ (x3 + 1) ∧ (x3 + 1) ≤ 1000 ∧ (h69 36 7) = (h 36 7) ∧ (h69 1 1) = (h 1 1) ∧ (h69 90 2) = (h 90 2) ∧ (h69 0 10) = (h 0 10) ∧ (h69 0 11) = (h 0 11) ∧ (h69 0 12) = (h 0 12) ∧ (h69 0 13) = (h 0 13) ∧ (h69 3 1) = (h 3 1) ∧ (h69 36 8) = (h 36 8) ∧ (h69 46 3) = (h 46 3) ∧ (h69 46 4) = (h 46 4) ∧ (h69 49 4) = (h 49 4) ∧ (h69 49 5) = (h 49 5) ∧ (h69 64 0) = (h 64 0) ∧ (h69 76 0) = (h 76 0) ∧ (h69 3 1) = 58; omega) (by omega)
              · skip
                refine ov_blk (ls2 := [(0, ov_r 3), (1, ov_i dep), (2, ov_i v60), (3, ov_i x3), (4, ov_i v20)]) (st2 := [ov_i 5, ov_r 58]) (pc2 := 72) b_71_71_1 rfl rfl ?_
                refine ov_goto (tgt := 77) d_71_72 (by decide) ?_
                refine ov_cV (as := [ov_i 5]) (st := []) (d2 := d - 1) d_71_77 lk_Reader_224 rfl (Nat.le_of_ble_eq_true rfl) (c := 9) (zb_58 I63) (zs_58 I63) ⟨by decide, rfl⟩ (by omega) (c_Town_addCode_58 (d - 1) (by omega) U I63 (ov_kws hw (by decide +kernel)) 5 (by omega)) ?_
                rintro _ z74 h75 ⟨rfl, I76, f73⟩
                show ov_R u d ov_m71 80 [(0, ov_r 3), (1, ov_i dep), (2, ov_i v60), (3, ov_i x3), (4, ov_i v20)] [] z74 h75 (P_Reader_readSum_3_k3_1_58 F z h dep)
                have f77 : (h75 3 2) = (h62 3 2) ∧ (h75 36 7) = (h62 36 7) ∧ (h75 1 1) = (h62 1 1) ∧ (h75 90 2) = (h62 90 2) ∧ (h75 0 10) = (h62 0 10) ∧ (h75 0 11) = (h62 0 11) ∧ (h75 0 12) = (h62 0 12) ∧ (h75 0 13) = (h62 0 13) ∧ (h75 3 1) = (h62 3 1) ∧ (h75 36 8) = (h62 36 8) ∧ (h75 46 3) = (h62 46 3) ∧ (h75 46 4) = (h62 46 4) ∧ (h75 49 4) = (h62 49 4) ∧ (h75 49 5) = (h62 49 5) ∧ (h75 64 0) = (h62 64 0) ∧ (h75 76 0) = (h62 76 0) := f73
                clear f73
                have e78 : h75 3 1 = 58 := by omega
                refine ov_blk (ls2 := [(0, ov_r 3), (1, ov_i dep), (2, ov_i v60), (3, ov_i (x3 + 1)), (4, ov_i v20)]) (st2 := []) (pc2 := 83) b_71_80_1 rfl rfl ?_
                refine ov_goto (tgt := 8) d_71_83 (by decide) ?_
                refine ov_sub (ls2 := [(0, ov_r 3), (1, ov_i dep), (2, ov_i v60), (3, ov_i (x3 + 1))]) (List.Sublist.subset (by repeat (first | exact List.Sublist.refl _ | apply List.Sublist.cons_cons | apply List.Sublist.cons))) ?_
                exact ih9 v60 (x3 + 1) _ _ I76 (by show (v60 = 0 ∧ 1 ≤ (h75 3 2) ∨ v60 = 1) ∧ 0 ≤ (x3 + 1) ∧ (x3 + 1) ≤ 1000 ∧ (h75 36 7) = (h 36 7) ∧ (h75 1 1) = (h 1 1) ∧ (h75 90 2) = (h 90 2) ∧ (h75 0 10) = (h 0 10) ∧ (h75 0 11) = (h 0 11) ∧ (h75 0 12) = (h 0 12) ∧ (h75 0 13) = (h 0 13) ∧ (h75 3 1) = (h 3 1) ∧ (h75 36 8) = (h 36 8) ∧ (h75 46 3) = (h 46 3) ∧ (h75 46 4) = (h 46 4) ∧ (h75 49 4) = (h 49 4) ∧ (h75 49 5) = (h 49 5) ∧ (h75 64 0) = (h 64 0) ∧ (h75 76 0) = (h 76 0) ∧ (h75 3 1) = 58; omega) (by omega)
            · skip
              refine ov_blk (ls2 := [(0, ov_r 3), (1, ov_i dep), (2, ov_i x2), (3, ov_i x3), (4, ov_i v20)]) (st2 := [ov_i 1]) (pc2 := 48) b_71_47_1 rfl rfl ?_
              exact ov_retz (st := []) d_71_48 rfl (by omega) ⟨_, rfl, I14, (by show (1 = 0 ∧ 1 ≤ (h13 3 2) ∨ 1 = 1) ∧ (h13 36 7) = (h 36 7) ∧ (h13 1 1) = (h 1 1) ∧ (h13 90 2) = (h 90 2) ∧ (h13 0 10) = (h 0 10) ∧ (h13 0 11) = (h 0 11) ∧ (h13 0 12) = (h 0 12) ∧ (h13 0 13) = (h 0 13) ∧ (h13 3 1) = (h 3 1) ∧ (h13 36 8) = (h 36 8) ∧ (h13 46 3) = (h 46 3) ∧ (h13 46 4) = (h 46 4) ∧ (h13 49 4) = (h 49 4) ∧ (h13 49 5) = (h 49 5) ∧ (h13 64 0) = (h 64 0) ∧ (h13 76 0) = (h 76 0); omega)⟩
  exact L11 1001 v2 0 _ _ I5 (by show (v2 = 0 ∧ 1 ≤ (h4 3 2) ∨ v2 = 1) ∧ 0 ≤ 0 ∧ 0 ≤ 1000 ∧ (h4 36 7) = (h 36 7) ∧ (h4 1 1) = (h 1 1) ∧ (h4 90 2) = (h 90 2) ∧ (h4 0 10) = (h 0 10) ∧ (h4 0 11) = (h 0 11) ∧ (h4 0 12) = (h 0 12) ∧ (h4 0 13) = (h 0 13) ∧ (h4 3 1) = (h 3 1) ∧ (h4 36 8) = (h 36 8) ∧ (h4 46 3) = (h 46 3) ∧ (h4 46 4) = (h 46 4) ∧ (h4 49 4) = (h 49 4) ∧ (h4 49 5) = (h 49 5) ∧ (h4 64 0) = (h 64 0) ∧ (h4 76 0) = (h 76 0) ∧ (h4 3 1) = 58; omega) (by omega)
set_option maxHeartbeats 4000000 in
theorem c_Reader_readTest_3_k3_1_58 {u : ov_U} {F : ov_H} (k : Nat) (HE : ∀ k' : Nat, k' + 1 = k → ∀ {z : ov_Z} {h : ov_H} (d : Nat) (hd : (10 + 5 * k' + 4) ≤ d) (U : ov_cap u) (I : ov_I F z h) (hw : ov_kw 295436135555504537610 F) (dep : Int) (k0 : h 3 1 = 58) (g_dep : ov_g dep) (p0 : 0 ≤ dep ∧ dep + (k' : Int) = 5), ov_T u d ov_m69 [ov_r 3, ov_i dep] z h (P_Reader_readExpression_3_k3_1_58 F z h dep)) (HP : ∀ k' : Nat, k' + 1 = k → ∀ {z : ov_Z} {h : ov_H} (d : Nat) (hd : (10 + 5 * k' + 0) ≤ d) (U : ov_cap u) (I : ov_I F z h) (hw : ov_kw 295436135555504537610 F) (dep : Int) (k0 : h 3 1 = 58) (g_dep : ov_g dep) (p0 : 0 ≤ dep ∧ dep + (k' : Int) = 5), ov_T u d ov_m73 [ov_r 3, ov_i dep] z h (P_Reader_readPart_3_k3_1_58 F z h dep)) {z : ov_Z} {h : ov_H} (d : Nat) (hd : (10 + 5 * k + 3) ≤ d) (U : ov_cap u) (I : ov_I F z h) (hw : ov_kw 295436135555504537610 F) (dep : Int) (k0 : h 3 1 = 58) (g_dep : ov_g dep) (p0 : 0 ≤ dep ∧ dep + (k : Int) = 5) : ov_T u d ov_m70 [ov_r 3, ov_i dep] z h (P_Reader_readTest_3_k3_1_58 F z h dep) := by
  refine ov_en rfl (Nat.le_of_ble_eq_true rfl) ?_
  show ov_R u d ov_m70 0 [(0, ov_r 3), (1, ov_i dep)] [] z h (P_Reader_readTest_3_k3_1_58 F z h dep)
  refine ov_blk (ls2 := [(0, ov_r 3), (1, ov_i dep)]) (st2 := [ov_i dep, ov_r 3]) (pc2 := 2) b_70_0_2 rfl rfl ?_
  refine ov_cV (as := [ov_i dep]) (st := []) (d2 := d - 1) d_70_2 lk_Reader_228 rfl (Nat.le_of_ble_eq_true rfl) (c := 6) (zb_3 I) (zs_3 I) ⟨by decide, rfl⟩ (by omega) (c_Reader_readSum_3_k3_1_58 k HE HP (d - 1) (by omega) U I (ov_kws hw (by decide +kernel)) dep k0 (by omega) (by omega)) ?_
  rintro _ z3 h4 ⟨v2, rfl, I5, f1⟩
  show ov_R u d ov_m70 5 [(0, ov_r 3), (1, ov_i dep)] [ov_i v2] z3 h4 (P_Reader_readTest_3_k3_1_58 F z h dep)
  have f6 : (v2 = 0 ∧ 1 ≤ (h4 3 2) ∨ v2 = 1) ∧ (h4 36 7) = (h 36 7) ∧ (h4 1 1) = (h 1 1) ∧ (h4 90 2) = (h 90 2) ∧ (h4 0 10) = (h 0 10) ∧ (h4 0 11) = (h 0 11) ∧ (h4 0 12) = (h 0 12) ∧ (h4 0 13) = (h 0 13) ∧ (h4 3 1) = (h 3 1) ∧ (h4 36 8) = (h 36 8) ∧ (h4 46 3) = (h 46 3) ∧ (h4 46 4) = (h 46 4) ∧ (h4 49 4) = (h 49 4) ∧ (h4 49 5) = (h 49 5) ∧ (h4 64 0) = (h 64 0) ∧ (h4 76 0) = (h 76 0) := f1
  clear f1
  have e7 : h4 3 1 = 58 := by omega
  refine ov_ifne (tgt := 10) d_70_5 (by decide) (by omega) (fun c8 => ?_) (fun c8 => ?_)
  · skip
    refine ov_blk (ls2 := [(0, ov_r 3), (1, ov_i dep)]) (st2 := [ov_r 3]) (pc2 := 11) b_70_10_1 rfl rfl ?_
    refine ov_getf (v := ov_r 1) d_70_11 fl_Reader_9 (zb_3 I5) (zs_3 I5) (congrArg ov_r (rg_3_0 I5)) ?_
    refine ov_blk (ls2 := [(0, ov_r 3), (1, ov_i dep)]) (st2 := [ov_i 60, ov_r 1]) (pc2 := 16) b_70_14_1 rfl rfl ?_
    refine ov_cV (as := [ov_i 60]) (st := []) (d2 := d - 1) d_70_16 lk_Reader_231 rfl (Nat.le_of_ble_eq_true rfl) (c := 8) (zb_1 I5) (zs_1 I5) ⟨by decide, rfl⟩ (by omega) (c_Tape_isSign_1 (d - 1) (by omega) U I5 60 (by omega)) ?_
    rintro _ _ _ ⟨v10, rfl, rfl, rfl, f9⟩
    show ov_R u d ov_m70 19 [(0, ov_r 3), (1, ov_i dep)] [ov_i v10] z3 h4 (P_Reader_readTest_3_k3_1_58 F z h dep)
    have f11 : (v10 = 0 ∨ v10 = 1) := f9
    clear f9
    refine ov_blk (ls2 := [(0, ov_r 3), (1, ov_i dep), (2, ov_i v10)]) (st2 := [ov_i v10]) (pc2 := 21) b_70_19_2 rfl rfl ?_
    refine ov_ifne (tgt := 38) d_70_21 (by decide) (by omega) (fun c12 => ?_) (fun c12 => ?_)
    · skip
      refine ov_blk (ls2 := [(0, ov_r 3), (1, ov_i dep), (2, ov_i v10)]) (st2 := [ov_r 3]) (pc2 := 39) b_70_38_1 rfl rfl ?_
      refine ov_getf (v := ov_r 1) d_70_39 fl_Reader_9 (zb_3 I5) (zs_3 I5) (congrArg ov_r (rg_3_0 I5)) ?_
      refine ov_cV (as := []) (st := []) (d2 := d - 1) d_70_42 lk_Reader_75 rfl (Nat.le_of_ble_eq_true rfl) (c := 8) (zb_1 I5) (zs_1 I5) ⟨by decide, rfl⟩ (by omega) (c_Tape_advance_1 (d - 1) (by omega) U I5 (ov_kws hw (by decide +kernel))) ?_
      rintro _ z14 h15 ⟨rfl, I16, f13⟩
      show ov_R u d ov_m70 45 [(0, ov_r 3), (1, ov_i dep), (2, ov_i v10)] [] z14 h15 (P_Reader_readTest_3_k3_1_58 F z h dep)
      have f17 : (h15 3 3) = (h4 3 3) ∧ (h15 36 7) = (h4 36 7) ∧ (h15 1 1) = (h4 1 1) ∧ (h15 90 2) = (h4 90 2) ∧ (h15 0 10) = (h4 0 10) ∧ (h15 0 11) = (h4 0 11) ∧ (h15 0 12) = (h4 0 12) ∧ (h15 0 13) = (h4 0 13) ∧ (h15 3 1) = (h4 3 1) ∧ (h15 36 8) = (h4 36 8) ∧ (h15 46 3) = (h4 46 3) ∧ (h15 46 4) = (h4 46 4) ∧ (h15 49 4) = (h4 49 4) ∧ (h15 49 5) = (h4 49 5) ∧ (h15 64 0) = (h4 64 0) ∧ (h15 76 0) = (h4 76 0) := f13
      clear f13
      have e18 : h15 3 1 = 58 := by omega
      refine ov_blk (ls2 := [(0, ov_r 3), (1, ov_i dep), (2, ov_i v10)]) (st2 := [ov_i dep, ov_r 3]) (pc2 := 47) b_70_45_2 rfl rfl ?_
      refine ov_cV (as := [ov_i dep]) (st := []) (d2 := d - 1) d_70_47 lk_Reader_228 rfl (Nat.le_of_ble_eq_true rfl) (c := 6) (zb_3 I16) (zs_3 I16) ⟨by decide, rfl⟩ (by omega) (c_Reader_readSum_3_k3_1_58 k HE HP (d - 1) (by omega) U I16 (ov_kws hw (by decide +kernel)) dep e18 (by omega) (by omega)) ?_
      rintro _ z21 h22 ⟨v20, rfl, I23, f19⟩
      show ov_R u d ov_m70 50 [(0, ov_r 3), (1, ov_i dep), (2, ov_i v10)] [ov_i v20] z21 h22 (P_Reader_readTest_3_k3_1_58 F z h dep)
      have f24 : (v20 = 0 ∧ 1 ≤ (h22 3 2) ∨ v20 = 1) ∧ (h22 36 7) = (h15 36 7) ∧ (h22 1 1) = (h15 1 1) ∧ (h22 90 2) = (h15 90 2) ∧ (h22 0 10) = (h15 0 10) ∧ (h22 0 11) = (h15 0 11) ∧ (h22 0 12) = (h15 0 12) ∧ (h22 0 13) = (h15 0 13) ∧ (h22 3 1) = (h15 3 1) ∧ (h22 36 8) = (h15 36 8) ∧ (h22 46 3) = (h15 46 3) ∧ (h22 46 4) = (h15 46 4) ∧ (h22 49 4) = (h15 49 4) ∧ (h22 49 5) = (h15 49 5) ∧ (h22 64 0) = (h15 64 0) ∧ (h22 76 0) = (h15 76 0) := f19
      clear f19
      have e25 : h22 3 1 = 58 := by omega
      refine ov_blk (ls2 := [(0, ov_r 3), (1, ov_i dep), (2, ov_i v10), (3, ov_i v20)]) (st2 := [ov_r 3]) (pc2 := 52) b_70_50_2 rfl rfl ?_
      refine ov_getf (v := ov_r 58) d_70_52 fl_Reader_15 (zb_3 I23) (zs_3 I23) (congrArg ov_r e25) ?_
      refine ov_blk (ls2 := [(0, ov_r 3), (1, ov_i dep), (2, ov_i v10), (3, ov_i v20)]) (st2 := [ov_i v10, ov_r 58]) (pc2 := 56) b_70_55_1 rfl rfl ?_
      refine ov_ifeq (tgt := 63) d_70_56 (by decide) (by omega) (fun c26 => ?_) (fun c26 => ?_)
      · skip
        refine ov_blk (ls2 := [(0, ov_r 3), (1, ov_i dep), (2, ov_i v10), (3, ov_i v20)]) (st2 := [ov_i 4, ov_r 58]) (pc2 := 64) b_70_63_1 rfl rfl ?_
        refine ov_cV (as := [ov_i 4]) (st := []) (d2 := d - 1) d_70_64 lk_Reader_224 rfl (Nat.le_of_ble_eq_true rfl) (c := 9) (zb_58 I23) (zs_58 I23) ⟨by decide, rfl⟩ (by omega) (c_Town_addCode_58 (d - 1) (by omega) U I23 (ov_kws hw (by decide +kernel)) 4 (by omega)) ?_
        rintro _ z28 h29 ⟨rfl, I30, f27⟩
        show ov_R u d ov_m70 67 [(0, ov_r 3), (1, ov_i dep), (2, ov_i v10), (3, ov_i v20)] [] z28 h29 (P_Reader_readTest_3_k3_1_58 F z h dep)
        have f31 : (h29 3 2) = (h22 3 2) ∧ (h29 36 7) = (h22 36 7) ∧ (h29 1 1) = (h22 1 1) ∧ (h29 90 2) = (h22 90 2) ∧ (h29 0 10) = (h22 0 10) ∧ (h29 0 11) = (h22 0 11) ∧ (h29 0 12) = (h22 0 12) ∧ (h29 0 13) = (h22 0 13) ∧ (h29 3 1) = (h22 3 1) ∧ (h29 36 8) = (h22 36 8) ∧ (h29 46 3) = (h22 46 3) ∧ (h29 46 4) = (h22 46 4) ∧ (h29 49 4) = (h22 49 4) ∧ (h29 49 5) = (h22 49 5) ∧ (h29 64 0) = (h22 64 0) ∧ (h29 76 0) = (h22 76 0) := f27
        clear f27
        have e32 : h29 3 1 = 58 := by omega
        refine ov_blk (ls2 := [(0, ov_r 3), (1, ov_i dep), (2, ov_i v10), (3, ov_i v20)]) (st2 := [ov_i v20]) (pc2 := 68) b_70_67_1 rfl rfl ?_
        exact ov_retz (st := []) d_70_68 rfl (by omega) ⟨_, rfl, I30, (by show (v20 = 0 ∧ 1 ≤ (h29 3 2) ∨ v20 = 1) ∧ (h29 36 7) = (h 36 7) ∧ (h29 1 1) = (h 1 1) ∧ (h29 90 2) = (h 90 2) ∧ (h29 0 10) = (h 0 10) ∧ (h29 0 11) = (h 0 11) ∧ (h29 0 12) = (h 0 12) ∧ (h29 0 13) = (h 0 13) ∧ (h29 3 1) = (h 3 1) ∧ (h29 36 8) = (h 36 8) ∧ (h29 46 3) = (h 46 3) ∧ (h29 46 4) = (h 46 4) ∧ (h29 49 4) = (h 49 4) ∧ (h29 49 5) = (h 49 5) ∧ (h29 64 0) = (h 64 0) ∧ (h29 76 0) = (h 76 0); omega)⟩
      · skip
        refine ov_blk (ls2 := [(0, ov_r 3), (1, ov_i dep), (2, ov_i v10), (3, ov_i v20)]) (st2 := [ov_i 3, ov_r 58]) (pc2 := 60) b_70_59_1 rfl rfl ?_
        refine ov_goto (tgt := 64) d_70_60 (by decide) ?_
        refine ov_cV (as := [ov_i 3]) (st := []) (d2 := d - 1) d_70_64 lk_Reader_224 rfl (Nat.le_of_ble_eq_true rfl) (c := 9) (zb_58 I23) (zs_58 I23) ⟨by decide, rfl⟩ (by omega) (c_Town_addCode_58 (d - 1) (by omega) U I23 (ov_kws hw (by decide +kernel)) 3 (by omega)) ?_
        rintro _ z34 h35 ⟨rfl, I36, f33⟩
        show ov_R u d ov_m70 67 [(0, ov_r 3), (1, ov_i dep), (2, ov_i v10), (3, ov_i v20)] [] z34 h35 (P_Reader_readTest_3_k3_1_58 F z h dep)
        have f37 : (h35 3 2) = (h22 3 2) ∧ (h35 36 7) = (h22 36 7) ∧ (h35 1 1) = (h22 1 1) ∧ (h35 90 2) = (h22 90 2) ∧ (h35 0 10) = (h22 0 10) ∧ (h35 0 11) = (h22 0 11) ∧ (h35 0 12) = (h22 0 12) ∧ (h35 0 13) = (h22 0 13) ∧ (h35 3 1) = (h22 3 1) ∧ (h35 36 8) = (h22 36 8) ∧ (h35 46 3) = (h22 46 3) ∧ (h35 46 4) = (h22 46 4) ∧ (h35 49 4) = (h22 49 4) ∧ (h35 49 5) = (h22 49 5) ∧ (h35 64 0) = (h22 64 0) ∧ (h35 76 0) = (h22 76 0) := f33
        clear f33
        have e38 : h35 3 1 = 58 := by omega
        refine ov_blk (ls2 := [(0, ov_r 3), (1, ov_i dep), (2, ov_i v10), (3, ov_i v20)]) (st2 := [ov_i v20]) (pc2 := 68) b_70_67_1 rfl rfl ?_
        exact ov_retz (st := []) d_70_68 rfl (by omega) ⟨_, rfl, I36, (by show (v20 = 0 ∧ 1 ≤ (h35 3 2) ∨ v20 = 1) ∧ (h35 36 7) = (h 36 7) ∧ (h35 1 1) = (h 1 1) ∧ (h35 90 2) = (h 90 2) ∧ (h35 0 10) = (h 0 10) ∧ (h35 0 11) = (h 0 11) ∧ (h35 0 12) = (h 0 12) ∧ (h35 0 13) = (h 0 13) ∧ (h35 3 1) = (h 3 1) ∧ (h35 36 8) = (h 36 8) ∧ (h35 46 3) = (h 46 3) ∧ (h35 46 4) = (h 46 4) ∧ (h35 49 4) = (h 49 4) ∧ (h35 49 5) = (h 49 5) ∧ (h35 64 0) = (h 64 0) ∧ (h35 76 0) = (h 76 0); omega)⟩
    · skip
      refine ov_blk (ls2 := [(0, ov_r 3), (1, ov_i dep), (2, ov_i v10)]) (st2 := [ov_r 3]) (pc2 := 25) b_70_24_1 rfl rfl ?_
      refine ov_getf (v := ov_r 1) d_70_25 fl_Reader_9 (zb_3 I5) (zs_3 I5) (congrArg ov_r (rg_3_0 I5)) ?_
      refine ov_blk (ls2 := [(0, ov_r 3), (1, ov_i dep), (2, ov_i v10)]) (st2 := [ov_i 61, ov_r 1]) (pc2 := 30) b_70_28_1 rfl rfl ?_
      refine ov_cV (as := [ov_i 61]) (st := []) (d2 := d - 1) d_70_30 lk_Reader_231 rfl (Nat.le_of_ble_eq_true rfl) (c := 8) (zb_1 I5) (zs_1 I5) ⟨by decide, rfl⟩ (by omega) (c_Tape_isSign_1 (d - 1) (by omega) U I5 61 (by omega)) ?_
      rintro _ _ _ ⟨v40, rfl, rfl, rfl, f39⟩
      show ov_R u d ov_m70 33 [(0, ov_r 3), (1, ov_i dep), (2, ov_i v10)] [ov_i v40] z3 h4 (P_Reader_readTest_3_k3_1_58 F z h dep)
      have f41 : (v40 = 0 ∨ v40 = 1) := f39
      clear f39
      refine ov_ifne (tgt := 38) d_70_33 (by decide) (by omega) (fun c42 => ?_) (fun c42 => ?_)
      · skip
        refine ov_blk (ls2 := [(0, ov_r 3), (1, ov_i dep), (2, ov_i v10)]) (st2 := [ov_r 3]) (pc2 := 39) b_70_38_1 rfl rfl ?_
        refine ov_getf (v := ov_r 1) d_70_39 fl_Reader_9 (zb_3 I5) (zs_3 I5) (congrArg ov_r (rg_3_0 I5)) ?_
        refine ov_cV (as := []) (st := []) (d2 := d - 1) d_70_42 lk_Reader_75 rfl (Nat.le_of_ble_eq_true rfl) (c := 8) (zb_1 I5) (zs_1 I5) ⟨by decide, rfl⟩ (by omega) (c_Tape_advance_1 (d - 1) (by omega) U I5 (ov_kws hw (by decide +kernel))) ?_
        rintro _ z44 h45 ⟨rfl, I46, f43⟩
        show ov_R u d ov_m70 45 [(0, ov_r 3), (1, ov_i dep), (2, ov_i v10)] [] z44 h45 (P_Reader_readTest_3_k3_1_58 F z h dep)
        have f47 : (h45 3 3) = (h4 3 3) ∧ (h45 36 7) = (h4 36 7) ∧ (h45 1 1) = (h4 1 1) ∧ (h45 90 2) = (h4 90 2) ∧ (h45 0 10) = (h4 0 10) ∧ (h45 0 11) = (h4 0 11) ∧ (h45 0 12) = (h4 0 12) ∧ (h45 0 13) = (h4 0 13) ∧ (h45 3 1) = (h4 3 1) ∧ (h45 36 8) = (h4 36 8) ∧ (h45 46 3) = (h4 46 3) ∧ (h45 46 4) = (h4 46 4) ∧ (h45 49 4) = (h4 49 4) ∧ (h45 49 5) = (h4 49 5) ∧ (h45 64 0) = (h4 64 0) ∧ (h45 76 0) = (h4 76 0) := f43
        clear f43
        have e48 : h45 3 1 = 58 := by omega
        refine ov_blk (ls2 := [(0, ov_r 3), (1, ov_i dep), (2, ov_i v10)]) (st2 := [ov_i dep, ov_r 3]) (pc2 := 47) b_70_45_2 rfl rfl ?_
        refine ov_cV (as := [ov_i dep]) (st := []) (d2 := d - 1) d_70_47 lk_Reader_228 rfl (Nat.le_of_ble_eq_true rfl) (c := 6) (zb_3 I46) (zs_3 I46) ⟨by decide, rfl⟩ (by omega) (c_Reader_readSum_3_k3_1_58 k HE HP (d - 1) (by omega) U I46 (ov_kws hw (by decide +kernel)) dep e48 (by omega) (by omega)) ?_
        rintro _ z51 h52 ⟨v50, rfl, I53, f49⟩
        show ov_R u d ov_m70 50 [(0, ov_r 3), (1, ov_i dep), (2, ov_i v10)] [ov_i v50] z51 h52 (P_Reader_readTest_3_k3_1_58 F z h dep)
        have f54 : (v50 = 0 ∧ 1 ≤ (h52 3 2) ∨ v50 = 1) ∧ (h52 36 7) = (h45 36 7) ∧ (h52 1 1) = (h45 1 1) ∧ (h52 90 2) = (h45 90 2) ∧ (h52 0 10) = (h45 0 10) ∧ (h52 0 11) = (h45 0 11) ∧ (h52 0 12) = (h45 0 12) ∧ (h52 0 13) = (h45 0 13) ∧ (h52 3 1) = (h45 3 1) ∧ (h52 36 8) = (h45 36 8) ∧ (h52 46 3) = (h45 46 3) ∧ (h52 46 4) = (h45 46 4) ∧ (h52 49 4) = (h45 49 4) ∧ (h52 49 5) = (h45 49 5) ∧ (h52 64 0) = (h45 64 0) ∧ (h52 76 0) = (h45 76 0) := f49
        clear f49
        have e55 : h52 3 1 = 58 := by omega
        refine ov_blk (ls2 := [(0, ov_r 3), (1, ov_i dep), (2, ov_i v10), (3, ov_i v50)]) (st2 := [ov_r 3]) (pc2 := 52) b_70_50_2 rfl rfl ?_
        refine ov_getf (v := ov_r 58) d_70_52 fl_Reader_15 (zb_3 I53) (zs_3 I53) (congrArg ov_r e55) ?_
        refine ov_blk (ls2 := [(0, ov_r 3), (1, ov_i dep), (2, ov_i v10), (3, ov_i v50)]) (st2 := [ov_i v10, ov_r 58]) (pc2 := 56) b_70_55_1 rfl rfl ?_
        refine ov_ifeq (tgt := 63) d_70_56 (by decide) (by omega) (fun c56 => ?_) (fun c56 => ?_)
        · skip
          refine ov_blk (ls2 := [(0, ov_r 3), (1, ov_i dep), (2, ov_i v10), (3, ov_i v50)]) (st2 := [ov_i 4, ov_r 58]) (pc2 := 64) b_70_63_1 rfl rfl ?_
          refine ov_cV (as := [ov_i 4]) (st := []) (d2 := d - 1) d_70_64 lk_Reader_224 rfl (Nat.le_of_ble_eq_true rfl) (c := 9) (zb_58 I53) (zs_58 I53) ⟨by decide, rfl⟩ (by omega) (c_Town_addCode_58 (d - 1) (by omega) U I53 (ov_kws hw (by decide +kernel)) 4 (by omega)) ?_
          rintro _ z58 h59 ⟨rfl, I60, f57⟩
          show ov_R u d ov_m70 67 [(0, ov_r 3), (1, ov_i dep), (2, ov_i v10), (3, ov_i v50)] [] z58 h59 (P_Reader_readTest_3_k3_1_58 F z h dep)
          have f61 : (h59 3 2) = (h52 3 2) ∧ (h59 36 7) = (h52 36 7) ∧ (h59 1 1) = (h52 1 1) ∧ (h59 90 2) = (h52 90 2) ∧ (h59 0 10) = (h52 0 10) ∧ (h59 0 11) = (h52 0 11) ∧ (h59 0 12) = (h52 0 12) ∧ (h59 0 13) = (h52 0 13) ∧ (h59 3 1) = (h52 3 1) ∧ (h59 36 8) = (h52 36 8) ∧ (h59 46 3) = (h52 46 3) ∧ (h59 46 4) = (h52 46 4) ∧ (h59 49 4) = (h52 49 4) ∧ (h59 49 5) = (h52 49 5) ∧ (h59 64 0) = (h52 64 0) ∧ (h59 76 0) = (h52 76 0) := f57
          clear f57
          have e62 : h59 3 1 = 58 := by omega
          refine ov_blk (ls2 := [(0, ov_r 3), (1, ov_i dep), (2, ov_i v10), (3, ov_i v50)]) (st2 := [ov_i v50]) (pc2 := 68) b_70_67_1 rfl rfl ?_
          exact ov_retz (st := []) d_70_68 rfl (by omega) ⟨_, rfl, I60, (by show (v50 = 0 ∧ 1 ≤ (h59 3 2) ∨ v50 = 1) ∧ (h59 36 7) = (h 36 7) ∧ (h59 1 1) = (h 1 1) ∧ (h59 90 2) = (h 90 2) ∧ (h59 0 10) = (h 0 10) ∧ (h59 0 11) = (h 0 11) ∧ (h59 0 12) = (h 0 12) ∧ (h59 0 13) = (h 0 13) ∧ (h59 3 1) = (h 3 1) ∧ (h59 36 8) = (h 36 8) ∧ (h59 46 3) = (h 46 3) ∧ (h59 46 4) = (h 46 4) ∧ (h59 49 4) = (h 49 4) ∧ (h59 49 5) = (h 49 5) ∧ (h59 64 0) = (h 64 0) ∧ (h59 76 0) = (h 76 0); omega)⟩
        · skip
          refine ov_blk (ls2 := [(0, ov_r 3), (1, ov_i dep), (2, ov_i v10), (3, ov_i v50)]) (st2 := [ov_i 3, ov_r 58]) (pc2 := 60) b_70_59_1 rfl rfl ?_
          refine ov_goto (tgt := 64) d_70_60 (by decide) ?_
          refine ov_cV (as := [ov_i 3]) (st := []) (d2 := d - 1) d_70_64 lk_Reader_224 rfl (Nat.le_of_ble_eq_true rfl) (c := 9) (zb_58 I53) (zs_58 I53) ⟨by decide, rfl⟩ (by omega) (c_Town_addCode_58 (d - 1) (by omega) U I53 (ov_kws hw (by decide +kernel)) 3 (by omega)) ?_
          rintro _ z64 h65 ⟨rfl, I66, f63⟩
          show ov_R u d ov_m70 67 [(0, ov_r 3), (1, ov_i dep), (2, ov_i v10), (3, ov_i v50)] [] z64 h65 (P_Reader_readTest_3_k3_1_58 F z h dep)
          have f67 : (h65 3 2) = (h52 3 2) ∧ (h65 36 7) = (h52 36 7) ∧ (h65 1 1) = (h52 1 1) ∧ (h65 90 2) = (h52 90 2) ∧ (h65 0 10) = (h52 0 10) ∧ (h65 0 11) = (h52 0 11) ∧ (h65 0 12) = (h52 0 12) ∧ (h65 0 13) = (h52 0 13) ∧ (h65 3 1) = (h52 3 1) ∧ (h65 36 8) = (h52 36 8) ∧ (h65 46 3) = (h52 46 3) ∧ (h65 46 4) = (h52 46 4) ∧ (h65 49 4) = (h52 49 4) ∧ (h65 49 5) = (h52 49 5) ∧ (h65 64 0) = (h52 64 0) ∧ (h65 76 0) = (h52 76 0) := f63
          clear f63
          have e68 : h65 3 1 = 58 := by omega
          refine ov_blk (ls2 := [(0, ov_r 3), (1, ov_i dep), (2, ov_i v10), (3, ov_i v50)]) (st2 := [ov_i v50]) (pc2 := 68) b_70_67_1 rfl rfl ?_
          exact ov_retz (st := []) d_70_68 rfl (by omega) ⟨_, rfl, I66, (by show (v50 = 0 ∧ 1 ≤ (h65 3 2) ∨ v50 = 1) ∧ (h65 36 7) = (h 36 7) ∧ (h65 1 1) = (h 1 1) ∧ (h65 90 2) = (h 90 2) ∧ (h65 0 10) = (h 0 10) ∧ (h65 0 11) = (h 0 11) ∧ (h65 0 12) = (h 0 12) ∧ (h65 0 13) = (h 0 13) ∧ (h65 3 1) = (h 3 1) ∧ (h65 36 8) = (h 36 8) ∧ (h65 46 3) = (h 46 3) ∧ (h65 46 4) = (h 46 4) ∧ (h65 49 4) = (h 49 4) ∧ (h65 49 5) = (h 49 5) ∧ (h65 64 0) = (h 64 0) ∧ (h65 76 0) = (h 76 0); omega)⟩
      · skip
        refine ov_blk (ls2 := [(0, ov_r 3), (1, ov_i dep), (2, ov_i v10)]) (st2 := [ov_i 1]) (pc2 := 37) b_70_36_1 rfl rfl ?_
        exact ov_retz (st := []) d_70_37 rfl (by omega) ⟨_, rfl, I5, (by show (1 = 0 ∧ 1 ≤ (h4 3 2) ∨ 1 = 1) ∧ (h4 36 7) = (h 36 7) ∧ (h4 1 1) = (h 1 1) ∧ (h4 90 2) = (h 90 2) ∧ (h4 0 10) = (h 0 10) ∧ (h4 0 11) = (h 0 11) ∧ (h4 0 12) = (h 0 12) ∧ (h4 0 13) = (h 0 13) ∧ (h4 3 1) = (h 3 1) ∧ (h4 36 8) = (h 36 8) ∧ (h4 46 3) = (h 46 3) ∧ (h4 46 4) = (h 46 4) ∧ (h4 49 4) = (h 49 4) ∧ (h4 49 5) = (h 49 5) ∧ (h4 64 0) = (h 64 0) ∧ (h4 76 0) = (h 76 0); omega)⟩
  · skip
    refine ov_blk (ls2 := [(0, ov_r 3), (1, ov_i dep)]) (st2 := [ov_i 0]) (pc2 := 9) b_70_8_1 rfl rfl ?_
    exact ov_retz (st := []) d_70_9 rfl (by omega) ⟨_, rfl, I5, (by show (0 = 0 ∧ 1 ≤ (h4 3 2) ∨ 0 = 1) ∧ (h4 36 7) = (h 36 7) ∧ (h4 1 1) = (h 1 1) ∧ (h4 90 2) = (h 90 2) ∧ (h4 0 10) = (h 0 10) ∧ (h4 0 11) = (h 0 11) ∧ (h4 0 12) = (h 0 12) ∧ (h4 0 13) = (h 0 13) ∧ (h4 3 1) = (h 3 1) ∧ (h4 36 8) = (h 36 8) ∧ (h4 46 3) = (h 46 3) ∧ (h4 46 4) = (h 46 4) ∧ (h4 49 4) = (h 49 4) ∧ (h4 49 5) = (h 49 5) ∧ (h4 64 0) = (h 64 0) ∧ (h4 76 0) = (h 76 0); omega)⟩
set_option maxHeartbeats 4000000 in
theorem c_Reader_readExpression_3_k3_1_58 {u : ov_U} {F : ov_H} (k : Nat) (HE : ∀ k' : Nat, k' + 1 = k → ∀ {z : ov_Z} {h : ov_H} (d : Nat) (hd : (10 + 5 * k' + 4) ≤ d) (U : ov_cap u) (I : ov_I F z h) (hw : ov_kw 295436135555504537610 F) (dep : Int) (k0 : h 3 1 = 58) (g_dep : ov_g dep) (p0 : 0 ≤ dep ∧ dep + (k' : Int) = 5), ov_T u d ov_m69 [ov_r 3, ov_i dep] z h (P_Reader_readExpression_3_k3_1_58 F z h dep)) (HP : ∀ k' : Nat, k' + 1 = k → ∀ {z : ov_Z} {h : ov_H} (d : Nat) (hd : (10 + 5 * k' + 0) ≤ d) (U : ov_cap u) (I : ov_I F z h) (hw : ov_kw 295436135555504537610 F) (dep : Int) (k0 : h 3 1 = 58) (g_dep : ov_g dep) (p0 : 0 ≤ dep ∧ dep + (k' : Int) = 5), ov_T u d ov_m73 [ov_r 3, ov_i dep] z h (P_Reader_readPart_3_k3_1_58 F z h dep)) {z : ov_Z} {h : ov_H} (d : Nat) (hd : (10 + 5 * k + 4) ≤ d) (U : ov_cap u) (I : ov_I F z h) (hw : ov_kw 295436135555504537610 F) (dep : Int) (k0 : h 3 1 = 58) (g_dep : ov_g dep) (p0 : 0 ≤ dep ∧ dep + (k : Int) = 5) : ov_T u d ov_m69 [ov_r 3, ov_i dep] z h (P_Reader_readExpression_3_k3_1_58 F z h dep) := by
  refine ov_en rfl (Nat.le_of_ble_eq_true rfl) ?_
  show ov_R u d ov_m69 0 [(0, ov_r 3), (1, ov_i dep)] [] z h (P_Reader_readExpression_3_k3_1_58 F z h dep)
  refine ov_blk (ls2 := [(0, ov_r 3), (1, ov_i dep)]) (st2 := [ov_i dep, ov_r 3]) (pc2 := 2) b_69_0_2 rfl rfl ?_
  refine ov_cV (as := [ov_i dep]) (st := []) (d2 := d - 1) d_69_2 lk_Reader_217 rfl (Nat.le_of_ble_eq_true rfl) (c := 6) (zb_3 I) (zs_3 I) ⟨by decide, rfl⟩ (by omega) (c_Reader_readTest_3_k3_1_58 k HE HP (d - 1) (by omega) U I (ov_kws hw (by decide +kernel)) dep k0 (by omega) (by omega)) ?_
  rintro _ z3 h4 ⟨v2, rfl, I5, f1⟩
  show ov_R u d ov_m69 5 [(0, ov_r 3), (1, ov_i dep)] [ov_i v2] z3 h4 (P_Reader_readExpression_3_k3_1_58 F z h dep)
  have f6 : (v2 = 0 ∧ 1 ≤ (h4 3 2) ∨ v2 = 1) ∧ (h4 36 7) = (h 36 7) ∧ (h4 1 1) = (h 1 1) ∧ (h4 90 2) = (h 90 2) ∧ (h4 0 10) = (h 0 10) ∧ (h4 0 11) = (h 0 11) ∧ (h4 0 12) = (h 0 12) ∧ (h4 0 13) = (h 0 13) ∧ (h4 3 1) = (h 3 1) ∧ (h4 36 8) = (h 36 8) ∧ (h4 46 3) = (h 46 3) ∧ (h4 46 4) = (h 46 4) ∧ (h4 49 4) = (h 49 4) ∧ (h4 49 5) = (h 49 5) ∧ (h4 64 0) = (h 64 0) ∧ (h4 76 0) = (h 76 0) := f1
  clear f1
  have e7 : h4 3 1 = 58 := by omega
  refine ov_blk (ls2 := [(0, ov_r 3), (1, ov_i dep), (2, ov_i v2), (3, ov_i 0)]) (st2 := []) (pc2 := 8) b_69_5_3 rfl rfl ?_
  have L11 : ∀ (n8 : Nat) (x2 : Int) (x3 : Int) (z12 : ov_Z) (h13 : ov_H) (I14 : ov_I F z12 h13) (q10 : (x2 = 0 ∧ 1 ≤ (h13 3 2) ∨ x2 = 1) ∧ 0 ≤ x3 ∧ x3 ≤ 1000 ∧ (h13 36 7) = (h 36 7) ∧ (h13 1 1) = (h 1 1) ∧ (h13 90 2) = (h 90 2) ∧ (h13 0 10) = (h 0 10) ∧ (h13 0 11) = (h 0 11) ∧ (h13 0 12) = (h 0 12) ∧ (h13 0 13) = (h 0 13) ∧ (h13 3 1) = (h 3 1) ∧ (h13 36 8) = (h 36 8) ∧ (h13 46 3) = (h 46 3) ∧ (h13 46 4) = (h 46 4) ∧ (h13 49 4) = (h 49 4) ∧ (h13 49 5) = (h 49 5) ∧ (h13 64 0) = (h 64 0) ∧ (h13 76 0) = (h 76 0) ∧ h13 3 1 = 58), 1000 - x3 < (n8 : Int) → ov_R u d ov_m69 8 [(0, ov_r 3), (1, ov_i dep), (2, ov_i x2), (3, ov_i x3)] [] z12 h13 (P_Reader_readExpression_3_k3_1_58 F z h dep) := by
    intro n8
    induction n8 with
    | zero =>
      intro x2 x3 z12 h13 I14 q10 hn15
      exact absurd hn15 (by omega)
    | succ n8 ih9 =>
      intro x2 x3 z12 h13 I14 q10 hn15
      have e16 : h13 3 1 = 58 := by omega
      refine ov_blk (ls2 := [(0, ov_r 3), (1, ov_i dep), (2, ov_i x2), (3, ov_i x3)]) (st2 := [ov_i 1000, ov_i x3]) (pc2 := 12) b_69_8_2 rfl rfl ?_
      refine ov_icge (tgt := 87) d_69_12 (by decide) (by omega) (by omega) (fun c17 => ?_) (fun c17 => ?_)
      · skip
        refine ov_blk (ls2 := [(0, ov_r 3), (1, ov_i dep), (2, ov_i x2), (3, ov_i x3)]) (st2 := [ov_i x2]) (pc2 := 88) b_69_87_1 rfl rfl ?_
        exact ov_retz (st := []) d_69_88 rfl (by omega) ⟨_, rfl, I14, (by show (x2 = 0 ∧ 1 ≤ (h13 3 2) ∨ x2 = 1) ∧ (h13 36 7) = (h 36 7) ∧ (h13 1 1) = (h 1 1) ∧ (h13 90 2) = (h 90 2) ∧ (h13 0 10) = (h 0 10) ∧ (h13 0 11) = (h 0 11) ∧ (h13 0 12) = (h 0 12) ∧ (h13 0 13) = (h 0 13) ∧ (h13 3 1) = (h 3 1) ∧ (h13 36 8) = (h 36 8) ∧ (h13 46 3) = (h 46 3) ∧ (h13 46 4) = (h 46 4) ∧ (h13 49 4) = (h 49 4) ∧ (h13 49 5) = (h 49 5) ∧ (h13 64 0) = (h 64 0) ∧ (h13 76 0) = (h 76 0); omega)⟩
      · skip
        refine ov_blk (ls2 := [(0, ov_r 3), (1, ov_i dep), (2, ov_i x2), (3, ov_i x3)]) (st2 := [ov_i x2]) (pc2 := 16) b_69_15_1 rfl rfl ?_
        refine ov_ifeq (tgt := 87) d_69_16 (by decide) (by omega) (fun c18 => ?_) (fun c18 => ?_)
        · skip
          refine ov_blk (ls2 := [(0, ov_r 3), (1, ov_i dep), (2, ov_i x2), (3, ov_i x3)]) (st2 := [ov_i x2]) (pc2 := 88) b_69_87_1 rfl rfl ?_
          exact ov_retz (st := []) d_69_88 rfl (by omega) ⟨_, rfl, I14, (by show (x2 = 0 ∧ 1 ≤ (h13 3 2) ∨ x2 = 1) ∧ (h13 36 7) = (h 36 7) ∧ (h13 1 1) = (h 1 1) ∧ (h13 90 2) = (h 90 2) ∧ (h13 0 10) = (h 0 10) ∧ (h13 0 11) = (h 0 11) ∧ (h13 0 12) = (h 0 12) ∧ (h13 0 13) = (h 0 13) ∧ (h13 3 1) = (h 3 1) ∧ (h13 36 8) = (h 36 8) ∧ (h13 46 3) = (h 46 3) ∧ (h13 46 4) = (h 46 4) ∧ (h13 49 4) = (h 49 4) ∧ (h13 49 5) = (h 49 5) ∧ (h13 64 0) = (h 64 0) ∧ (h13 76 0) = (h 76 0); omega)⟩
        · skip
          refine ov_blk (ls2 := [(0, ov_r 3), (1, ov_i dep), (2, ov_i x2), (3, ov_i x3)]) (st2 := [ov_r 3]) (pc2 := 20) b_69_19_1 rfl rfl ?_
          refine ov_getf (v := ov_r 1) d_69_20 fl_Reader_9 (zb_3 I14) (zs_3 I14) (congrArg ov_r (rg_3_0 I14)) ?_
          refine ov_ldc2 (n := 6385252) d_69_23 kc_Reader_220 ?_
          refine ov_cV (as := [ov_l 6385252]) (st := []) (d2 := d - 1) d_69_26 lk_Reader_110 rfl (Nat.le_of_ble_eq_true rfl) (c := 8) (zb_1 I14) (zs_1 I14) ⟨by decide, rfl⟩ (by omega) (c_Tape_isWord_1 (d - 1) (by omega) U I14 6385252) ?_
          rintro _ _ _ ⟨v20, rfl, rfl, rfl, f19⟩
          show ov_R u d ov_m69 29 [(0, ov_r 3), (1, ov_i dep), (2, ov_i x2), (3, ov_i x3)] [ov_i v20] z12 h13 (P_Reader_readExpression_3_k3_1_58 F z h dep)
          have f21 : (v20 = 0 ∨ v20 = 1) ∧ (v20 = 1 → (h13 1 2) = 2) := f19
          clear f19
          refine ov_blk (ls2 := [(0, ov_r 3), (1, ov_i dep), (2, ov_i x2), (3, ov_i x3), (4, ov_i v20)]) (st2 := [ov_i v20]) (pc2 := 33) b_69_29_2 rfl rfl ?_
          refine ov_ifne (tgt := 51) d_69_33 (by decide) (by omega) (fun c22 => ?_) (fun c22 => ?_)
          · skip
            refine ov_blk (ls2 := [(0, ov_r 3), (1, ov_i dep), (2, ov_i x2), (3, ov_i x3), (4, ov_i v20)]) (st2 := [ov_r 3]) (pc2 := 52) b_69_51_1 rfl rfl ?_
            refine ov_getf (v := ov_r 1) d_69_52 fl_Reader_9 (zb_3 I14) (zs_3 I14) (congrArg ov_r (rg_3_0 I14)) ?_
            refine ov_cV (as := []) (st := []) (d2 := d - 1) d_69_55 lk_Reader_75 rfl (Nat.le_of_ble_eq_true rfl) (c := 8) (zb_1 I14) (zs_1 I14) ⟨by decide, rfl⟩ (by omega) (c_Tape_advance_1 (d - 1) (by omega) U I14 (ov_kws hw (by decide +kernel))) ?_
            rintro _ z24 h25 ⟨rfl, I26, f23⟩
            show ov_R u d ov_m69 58 [(0, ov_r 3), (1, ov_i dep), (2, ov_i x2), (3, ov_i x3), (4, ov_i v20)] [] z24 h25 (P_Reader_readExpression_3_k3_1_58 F z h dep)
            have f27 : (h25 3 3) = (h13 3 3) ∧ (h25 36 7) = (h13 36 7) ∧ (h25 1 1) = (h13 1 1) ∧ (h25 90 2) = (h13 90 2) ∧ (h25 0 10) = (h13 0 10) ∧ (h25 0 11) = (h13 0 11) ∧ (h25 0 12) = (h13 0 12) ∧ (h25 0 13) = (h13 0 13) ∧ (h25 3 1) = (h13 3 1) ∧ (h25 36 8) = (h13 36 8) ∧ (h25 46 3) = (h13 46 3) ∧ (h25 46 4) = (h13 46 4) ∧ (h25 49 4) = (h13 49 4) ∧ (h25 49 5) = (h13 49 5) ∧ (h25 64 0) = (h13 64 0) ∧ (h25 76 0) = (h13 76 0) := f23
            clear f23
            have e28 : h25 3 1 = 58 := by omega
            refine ov_blk (ls2 := [(0, ov_r 3), (1, ov_i dep), (2, ov_i x2), (3, ov_i x3), (4, ov_i v20)]) (st2 := [ov_i dep, ov_r 3]) (pc2 := 60) b_69_58_2 rfl rfl ?_
            refine ov_cV (as := [ov_i dep]) (st := []) (d2 := d - 1) d_69_60 lk_Reader_217 rfl (Nat.le_of_ble_eq_true rfl) (c := 6) (zb_3 I26) (zs_3 I26) ⟨by decide, rfl⟩ (by omega) (c_Reader_readTest_3_k3_1_58 k HE HP (d - 1) (by omega) U I26 (ov_kws hw (by decide +kernel)) dep e28 (by omega) (by omega)) ?_
            rintro _ z31 h32 ⟨v30, rfl, I33, f29⟩
            show ov_R u d ov_m69 63 [(0, ov_r 3), (1, ov_i dep), (2, ov_i x2), (3, ov_i x3), (4, ov_i v20)] [ov_i v30] z31 h32 (P_Reader_readExpression_3_k3_1_58 F z h dep)
            have f34 : (v30 = 0 ∧ 1 ≤ (h32 3 2) ∨ v30 = 1) ∧ (h32 36 7) = (h25 36 7) ∧ (h32 1 1) = (h25 1 1) ∧ (h32 90 2) = (h25 90 2) ∧ (h32 0 10) = (h25 0 10) ∧ (h32 0 11) = (h25 0 11) ∧ (h32 0 12) = (h25 0 12) ∧ (h32 0 13) = (h25 0 13) ∧ (h32 3 1) = (h25 3 1) ∧ (h32 36 8) = (h25 36 8) ∧ (h32 46 3) = (h25 46 3) ∧ (h32 46 4) = (h25 46 4) ∧ (h32 49 4) = (h25 49 4) ∧ (h32 49 5) = (h25 49 5) ∧ (h32 64 0) = (h25 64 0) ∧ (h32 76 0) = (h25 76 0) := f29
            clear f29
            have e35 : h32 3 1 = 58 := by omega
            refine ov_blk (ls2 := [(0, ov_r 3), (1, ov_i dep), (2, ov_i v30), (3, ov_i x3), (4, ov_i v20)]) (st2 := [ov_r 3]) (pc2 := 65) b_69_63_2 rfl rfl ?_
            refine ov_getf (v := ov_r 58) d_69_65 fl_Reader_15 (zb_3 I33) (zs_3 I33) (congrArg ov_r e35) ?_
            refine ov_blk (ls2 := [(0, ov_r 3), (1, ov_i dep), (2, ov_i v30), (3, ov_i x3), (4, ov_i v20)]) (st2 := [ov_i v20, ov_r 58]) (pc2 := 70) b_69_68_1 rfl rfl ?_
            refine ov_ifeq (tgt := 77) d_69_70 (by decide) (by omega) (fun c36 => ?_) (fun c36 => ?_)
            · skip
              refine ov_blk (ls2 := [(0, ov_r 3), (1, ov_i dep), (2, ov_i v30), (3, ov_i x3), (4, ov_i v20)]) (st2 := [ov_i 2, ov_r 58]) (pc2 := 78) b_69_77_1 rfl rfl ?_
              refine ov_cV (as := [ov_i 2]) (st := []) (d2 := d - 1) d_69_78 lk_Reader_224 rfl (Nat.le_of_ble_eq_true rfl) (c := 9) (zb_58 I33) (zs_58 I33) ⟨by decide, rfl⟩ (by omega) (c_Town_addCode_58 (d - 1) (by omega) U I33 (ov_kws hw (by decide +kernel)) 2 (by omega)) ?_
              rintro _ z38 h39 ⟨rfl, I40, f37⟩
              show ov_R u d ov_m69 81 [(0, ov_r 3), (1, ov_i dep), (2, ov_i v30), (3, ov_i x3), (4, ov_i v20)] [] z38 h39 (P_Reader_readExpression_3_k3_1_58 F z h dep)
              have f41 : (h39 3 2) = (h32 3 2) ∧ (h39 36 7) = (h32 36 7) ∧ (h39 1 1) = (h32 1 1) ∧ (h39 90 2) = (h32 90 2) ∧ (h39 0 10) = (h32 0 10) ∧ (h39 0 11) = (h32 0 11) ∧ (h39 0 12) = (h32 0 12) ∧ (h39 0 13) = (h32 0 13) ∧ (h39 3 1) = (h32 3 1) ∧ (h39 36 8) = (h32 36 8) ∧ (h39 46 3) = (h32 46 3) ∧ (h39 46 4) = (h32 46 4) ∧ (h39 49 4) = (h32 49 4) ∧ (h39 49 5) = (h32 49 5) ∧ (h39 64 0) = (h32 64 0) ∧ (h39 76 0) = (h32 76 0) := f37
              clear f37
              have e42 : h39 3 1 = 58 := by omega
              refine ov_blk (ls2 := [(0, ov_r 3), (1, ov_i dep), (2, ov_i v30), (3, ov_i (x3 + 1)), (4, ov_i v20)]) (st2 := []) (pc2 := 84) b_69_81_1 rfl rfl ?_
              refine ov_goto (tgt := 8) d_69_84 (by decide) ?_
              refine ov_sub (ls2 := [(0, ov_r 3), (1, ov_i dep), (2, ov_i v30), (3, ov_i (x3 + 1))]) (List.Sublist.subset (by repeat (first | exact List.Sublist.refl _ | apply List.Sublist.cons_cons | apply List.Sublist.cons))) ?_
              exact ih9 v30 (x3 + 1) _ _ I40 (by show (v30 = 0 ∧ 1 ≤ (h39 3 2) ∨ v30 = 1) ∧ 0 ≤ (x3 + 1) ∧ (x3 + 1) ≤ 1000 ∧ (h39 36 7) = (h 36 7) ∧ (h39 1 1) = (h 1 1) ∧ (h39 90 2) = (h 90 2) ∧ (h39 0 10) = (h 0 10) ∧ (h39 0 11) = (h 0 11) ∧ (h39 0 12) = (h 0 12) ∧ (h39 0 13) = (h 0 13) ∧ (h39 3 1) = (h 3 1) ∧ (h39 36 8) = (h 36 8) ∧ (h39 46 3) = (h 46 3) ∧ (h39 46 4) = (h 46 4) ∧ (h39 49 4) = (h 49 4) ∧ (h39 49 5) = (h 49 5) ∧ (h39 64 0) = (h 64 0) ∧ (h39 76 0) = (h 76 0) ∧ (h39 3 1) = 58; omega) (by omega)
            · skip
              refine ov_blk (ls2 := [(0, ov_r 3), (1, ov_i dep), (2, ov_i v30), (3, ov_i x3), (4, ov_i v20)]) (st2 := [ov_i 1, ov_r 58]) (pc2 := 74) b_69_73_1 rfl rfl ?_
              refine ov_goto (tgt := 78) d_69_74 (by decide) ?_
              refine ov_cV (as := [ov_i 1]) (st := []) (d2 := d - 1) d_69_78 lk_Reader_224 rfl (Nat.le_of_ble_eq_true rfl) (c := 9) (zb_58 I33) (zs_58 I33) ⟨by decide, rfl⟩ (by omega) (c_Town_addCode_58 (d - 1) (by omega) U I33 (ov_kws hw (by decide +kernel)) 1 (by omega)) ?_
              rintro _ z44 h45 ⟨rfl, I46, f43⟩
              show ov_R u d ov_m69 81 [(0, ov_r 3), (1, ov_i dep), (2, ov_i v30), (3, ov_i x3), (4, ov_i v20)] [] z44 h45 (P_Reader_readExpression_3_k3_1_58 F z h dep)
              have f47 : (h45 3 2) = (h32 3 2) ∧ (h45 36 7) = (h32 36 7) ∧ (h45 1 1) = (h32 1 1) ∧ (h45 90 2) = (h32 90 2) ∧ (h45 0 10) = (h32 0 10) ∧ (h45 0 11) = (h32 0 11) ∧ (h45 0 12) = (h32 0 12) ∧ (h45 0 13) = (h32 0 13) ∧ (h45 3 1) = (h32 3 1) ∧ (h45 36 8) = (h32 36 8) ∧ (h45 46 3) = (h32 46 3) ∧ (h45 46 4) = (h32 46 4) ∧ (h45 49 4) = (h32 49 4) ∧ (h45 49 5) = (h32 49 5) ∧ (h45 64 0) = (h32 64 0) ∧ (h45 76 0) = (h32 76 0) := f43
              clear f43
              have e48 : h45 3 1 = 58 := by omega
              refine ov_blk (ls2 := [(0, ov_r 3), (1, ov_i dep), (2, ov_i v30), (3, ov_i (x3 + 1)), (4, ov_i v20)]) (st2 := []) (pc2 := 84) b_69_81_1 rfl rfl ?_
              refine ov_goto (tgt := 8) d_69_84 (by decide) ?_
              refine ov_sub (ls2 := [(0, ov_r 3), (1, ov_i dep), (2, ov_i v30), (3, ov_i (x3 + 1))]) (List.Sublist.subset (by repeat (first | exact List.Sublist.refl _ | apply List.Sublist.cons_cons | apply List.Sublist.cons))) ?_
              exact ih9 v30 (x3 + 1) _ _ I46 (by show (v30 = 0 ∧ 1 ≤ (h45 3 2) ∨ v30 = 1) ∧ 0 ≤ (x3 + 1) ∧ (x3 + 1) ≤ 1000 ∧ (h45 36 7) = (h 36 7) ∧ (h45 1 1) = (h 1 1) ∧ (h45 90 2) = (h 90 2) ∧ (h45 0 10) = (h 0 10) ∧ (h45 0 11) = (h 0 11) ∧ (h45 0 12) = (h 0 12) ∧ (h45 0 13) = (h 0 13) ∧ (h45 3 1) = (h 3 1) ∧ (h45 36 8) = (h 36 8) ∧ (h45 46 3) = (h 46 3) ∧ (h45 46 4) = (h 46 4) ∧ (h45 49 4) = (h 49 4) ∧ (h45 49 5) = (h 49 5) ∧ (h45 64 0) = (h 64 0) ∧ (h45 76 0) = (h 76 0) ∧ (h45 3 1) = 58; omega) (by omega)
          · skip
            refine ov_blk (ls2 := [(0, ov_r 3), (1, ov_i dep), (2, ov_i x2), (3, ov_i x3), (4, ov_i v20)]) (st2 := [ov_r 3]) (pc2 := 37) b_69_36_1 rfl rfl ?_
            refine ov_getf (v := ov_r 1) d_69_37 fl_Reader_9 (zb_3 I14) (zs_3 I14) (congrArg ov_r (rg_3_0 I14)) ?_
            refine ov_ldc2 (n := 28530) d_69_40 kc_Reader_222 ?_
            refine ov_cV (as := [ov_l 28530]) (st := []) (d2 := d - 1) d_69_43 lk_Reader_110 rfl (Nat.le_of_ble_eq_true rfl) (c := 8) (zb_1 I14) (zs_1 I14) ⟨by decide, rfl⟩ (by omega) (c_Tape_isWord_1 (d - 1) (by omega) U I14 28530) ?_
            rintro _ _ _ ⟨v50, rfl, rfl, rfl, f49⟩
            show ov_R u d ov_m69 46 [(0, ov_r 3), (1, ov_i dep), (2, ov_i x2), (3, ov_i x3), (4, ov_i v20)] [ov_i v50] z12 h13 (P_Reader_readExpression_3_k3_1_58 F z h dep)
            have f51 : (v50 = 0 ∨ v50 = 1) ∧ (v50 = 1 → (h13 1 2) = 2) := f49
            clear f49
            refine ov_ifne (tgt := 51) d_69_46 (by decide) (by omega) (fun c52 => ?_) (fun c52 => ?_)
            · skip
              refine ov_blk (ls2 := [(0, ov_r 3), (1, ov_i dep), (2, ov_i x2), (3, ov_i x3), (4, ov_i v20)]) (st2 := [ov_r 3]) (pc2 := 52) b_69_51_1 rfl rfl ?_
              refine ov_getf (v := ov_r 1) d_69_52 fl_Reader_9 (zb_3 I14) (zs_3 I14) (congrArg ov_r (rg_3_0 I14)) ?_
              refine ov_cV (as := []) (st := []) (d2 := d - 1) d_69_55 lk_Reader_75 rfl (Nat.le_of_ble_eq_true rfl) (c := 8) (zb_1 I14) (zs_1 I14) ⟨by decide, rfl⟩ (by omega) (c_Tape_advance_1 (d - 1) (by omega) U I14 (ov_kws hw (by decide +kernel))) ?_
              rintro _ z54 h55 ⟨rfl, I56, f53⟩
              show ov_R u d ov_m69 58 [(0, ov_r 3), (1, ov_i dep), (2, ov_i x2), (3, ov_i x3), (4, ov_i v20)] [] z54 h55 (P_Reader_readExpression_3_k3_1_58 F z h dep)
              have f57 : (h55 3 3) = (h13 3 3) ∧ (h55 36 7) = (h13 36 7) ∧ (h55 1 1) = (h13 1 1) ∧ (h55 90 2) = (h13 90 2) ∧ (h55 0 10) = (h13 0 10) ∧ (h55 0 11) = (h13 0 11) ∧ (h55 0 12) = (h13 0 12) ∧ (h55 0 13) = (h13 0 13) ∧ (h55 3 1) = (h13 3 1) ∧ (h55 36 8) = (h13 36 8) ∧ (h55 46 3) = (h13 46 3) ∧ (h55 46 4) = (h13 46 4) ∧ (h55 49 4) = (h13 49 4) ∧ (h55 49 5) = (h13 49 5) ∧ (h55 64 0) = (h13 64 0) ∧ (h55 76 0) = (h13 76 0) := f53
              clear f53
              have e58 : h55 3 1 = 58 := by omega
              refine ov_blk (ls2 := [(0, ov_r 3), (1, ov_i dep), (2, ov_i x2), (3, ov_i x3), (4, ov_i v20)]) (st2 := [ov_i dep, ov_r 3]) (pc2 := 60) b_69_58_2 rfl rfl ?_
              refine ov_cV (as := [ov_i dep]) (st := []) (d2 := d - 1) d_69_60 lk_Reader_217 rfl (Nat.le_of_ble_eq_true rfl) (c := 6) (zb_3 I56) (zs_3 I56) ⟨by decide, rfl⟩ (by omega) (c_Reader_readTest_3_k3_1_58 k HE HP (d - 1) (by omega) U I56 (ov_kws hw (by decide +kernel)) dep e58 (by omega) (by omega)) ?_
              rintro _ z61 h62 ⟨v60, rfl, I63, f59⟩
              show ov_R u d ov_m69 63 [(0, ov_r 3), (1, ov_i dep), (2, ov_i x2), (3, ov_i x3), (4, ov_i v20)] [ov_i v60] z61 h62 (P_Reader_readExpression_3_k3_1_58 F z h dep)
              have f64 : (v60 = 0 ∧ 1 ≤ (h62 3 2) ∨ v60 = 1) ∧ (h62 36 7) = (h55 36 7) ∧ (h62 1 1) = (h55 1 1) ∧ (h62 90 2) = (h55 90 2) ∧ (h62 0 10) = (h55 0 10) ∧ (h62 0 11) = (h55 0 11) ∧ (h62 0 12) = (h55 0 12) ∧ (h62 0 13) = (h55 0 13) ∧ (h62 3 1) = (h55 3 1) ∧ (h62 36 8) = (h55 36 8) ∧ (h62 46 3) = (h55 46 3) ∧ (h62 46 4) = (h55 46 4) ∧ (h62 49 4) = (h55 49 4) ∧ (h62 49 5) = (h55 49 5) ∧ (h62 64 0) = (h55 64 0) ∧ (h62 76 0) = (h55 76 0) := f59
              clear f59
              have e65 : h62 3 1 = 58 := by omega
              refine ov_blk (ls2 := [(0, ov_r 3), (1, ov_i dep), (2, ov_i v60), (3, ov_i x3), (4, ov_i v20)]) (st2 := [ov_r 3]) (pc2 := 65) b_69_63_2 rfl rfl ?_
              refine ov_getf (v := ov_r 58) d_69_65 fl_Reader_15 (zb_3 I63) (zs_3 I63) (congrArg ov_r e65) ?_
              refine ov_blk (ls2 := [(0, ov_r 3), (1, ov_i dep), (2, ov_i v60), (3, ov_i x3), (4, ov_i v20)]) (st2 := [ov_i v20, ov_r 58]) (pc2 := 70) b_69_68_1 rfl rfl ?_
              refine ov_ifeq (tgt := 77) d_69_70 (by decide) (by omega) (fun c66 => ?_) (fun c66 => ?_)
              · skip
                refine ov_blk (ls2 := [(0, ov_r 3), (1, ov_i dep), (2, ov_i v60), (3, ov_i x3), (4, ov_i v20)]) (st2 := [ov_i 2, ov_r 58]) (pc2 := 78) b_69_77_1 rfl rfl ?_
                refine ov_cV (as := [ov_i 2]) (st := []) (d2 := d - 1) d_69_78 lk_Reader_224 rfl (Nat.le_of_ble_eq_true rfl) (c := 9) (zb_58 I63) (zs_58 I63) ⟨by decide, rfl⟩ (by omega) (c_Town_addCode_58 (d - 1) (by omega) U I63 (ov_kws hw (by decide +kernel)) 2 (by omega)) ?_
                rintro _ z68 h69 ⟨rfl, I70, f67⟩
                show ov_R u d ov_m69 81 [(0, ov_r 3), (1, ov_i dep), (2, ov_i v60), (3, ov_i x3), (4, ov_i v20)] [] z68 h69 (P_Reader_readExpression_3_k3_1_58 F z h dep)
                have f71 : (h69 3 2) = (h62 3 2) ∧ (h69 36 7) = (h62 36 7) ∧ (h69 1 1) = (h62 1 1) ∧ (h69 90 2) = (h62 90 2) ∧ (h69 0 10) = (h62 0 10) ∧ (h69 0 11) = (h62 0 11) ∧ (h69 0 12) = (h62 0 12) ∧ (h69 0 13) = (h62 0 13) ∧ (h69 3 1) = (h62 3 1) ∧ (h69 36 8) = (h62 36 8) ∧ (h69 46 3) = (h62 46 3) ∧ (h69 46 4) = (h62 46 4) ∧ (h69 49 4) = (h62 49 4) ∧ (h69 49 5) = (h62 49 5) ∧ (h69 64 0) = (h62 64 0) ∧ (h69 76 0) = (h62 76 0) := f67
                clear f67
                have e72 : h69 3 1 = 58 := by omega
                refine ov_blk (ls2 := [(0, ov_r 3), (1, ov_i dep), (2, ov_i v60), (3, ov_i (x3 + 1)), (4, ov_i v20)]) (st2 := []) (pc2 := 84) b_69_81_1 rfl rfl ?_
                refine ov_goto (tgt := 8) d_69_84 (by decide) ?_
                refine ov_sub (ls2 := [(0, ov_r 3), (1, ov_i dep), (2, ov_i v60), (3, ov_i (x3 + 1))]) (List.Sublist.subset (by repeat (first | exact List.Sublist.refl _ | apply List.Sublist.cons_cons | apply List.Sublist.cons))) ?_
                exact ih9 v60 (x3 + 1) _ _ I70 (by show (v60 = 0 ∧ 1 ≤ (h69 3 2) ∨ v60 = 1) ∧ 0 ≤ (x3 + 1) ∧ (x3 + 1) ≤ 1000 ∧ (h69 36 7) = (h 36 7) ∧ (h69 1 1) = (h 1 1) ∧ (h69 90 2) = (h 90 2) ∧ (h69 0 10) = (h 0 10) ∧ (h69 0 11) = (h 0 11) ∧ (h69 0 12) = (h 0 12) ∧ (h69 0 13) = (h 0 13) ∧ (h69 3 1) = (h 3 1) ∧ (h69 36 8) = (h 36 8) ∧ (h69 46 3) = (h 46 3) ∧ (h69 46 4) = (h 46 4) ∧ (h69 49 4) = (h 49 4) ∧ (h69 49 5) = (h 49 5) ∧ (h69 64 0) = (h 64 0) ∧ (h69 76 0) = (h 76 0) ∧ (h69 3 1) = 58; omega) (by omega)
              · skip
                refine ov_blk (ls2 := [(0, ov_r 3), (1, ov_i dep), (2, ov_i v60), (3, ov_i x3), (4, ov_i v20)]) (st2 := [ov_i 1, ov_r 58]) (pc2 := 74) b_69_73_1 rfl rfl ?_
                refine ov_goto (tgt := 78) d_69_74 (by decide) ?_
                refine ov_cV (as := [ov_i 1]) (st := []) (d2 := d - 1) d_69_78 lk_Reader_224 rfl (Nat.le_of_ble_eq_true rfl) (c := 9) (zb_58 I63) (zs_58 I63) ⟨by decide, rfl⟩ (by omega) (c_Town_addCode_58 (d - 1) (by omega) U I63 (ov_kws hw (by decide +kernel)) 1 (by omega)) ?_
                rintro _ z74 h75 ⟨rfl, I76, f73⟩
                show ov_R u d ov_m69 81 [(0, ov_r 3), (1, ov_i dep), (2, ov_i v60), (3, ov_i x3), (4, ov_i v20)] [] z74 h75 (P_Reader_readExpression_3_k3_1_58 F z h dep)
                have f77 : (h75 3 2) = (h62 3 2) ∧ (h75 36 7) = (h62 36 7) ∧ (h75 1 1) = (h62 1 1) ∧ (h75 90 2) = (h62 90 2) ∧ (h75 0 10) = (h62 0 10) ∧ (h75 0 11) = (h62 0 11) ∧ (h75 0 12) = (h62 0 12) ∧ (h75 0 13) = (h62 0 13) ∧ (h75 3 1) = (h62 3 1) ∧ (h75 36 8) = (h62 36 8) ∧ (h75 46 3) = (h62 46 3) ∧ (h75 46 4) = (h62 46 4) ∧ (h75 49 4) = (h62 49 4) ∧ (h75 49 5) = (h62 49 5) ∧ (h75 64 0) = (h62 64 0) ∧ (h75 76 0) = (h62 76 0) := f73
                clear f73
                have e78 : h75 3 1 = 58 := by omega
                refine ov_blk (ls2 := [(0, ov_r 3), (1, ov_i dep), (2, ov_i v60), (3, ov_i (x3 + 1)), (4, ov_i v20)]) (st2 := []) (pc2 := 84) b_69_81_1 rfl rfl ?_
                refine ov_goto (tgt := 8) d_69_84 (by decide) ?_
                refine ov_sub (ls2 := [(0, ov_r 3), (1, ov_i dep), (2, ov_i v60), (3, ov_i (x3 + 1))]) (List.Sublist.subset (by repeat (first | exact List.Sublist.refl _ | apply List.Sublist.cons_cons | apply List.Sublist.cons))) ?_
                exact ih9 v60 (x3 + 1) _ _ I76 (by show (v60 = 0 ∧ 1 ≤ (h75 3 2) ∨ v60 = 1) ∧ 0 ≤ (x3 + 1) ∧ (x3 + 1) ≤ 1000 ∧ (h75 36 7) = (h 36 7) ∧ (h75 1 1) = (h 1 1) ∧ (h75 90 2) = (h 90 2) ∧ (h75 0 10) = (h 0 10) ∧ (h75 0 11) = (h 0 11) ∧ (h75 0 12) = (h 0 12) ∧ (h75 0 13) = (h 0 13) ∧ (h75 3 1) = (h 3 1) ∧ (h75 36 8) = (h 36 8) ∧ (h75 46 3) = (h 46 3) ∧ (h75 46 4) = (h 46 4) ∧ (h75 49 4) = (h 49 4) ∧ (h75 49 5) = (h 49 5) ∧ (h75 64 0) = (h 64 0) ∧ (h75 76 0) = (h 76 0) ∧ (h75 3 1) = 58; omega) (by omega)
            · skip
              refine ov_blk (ls2 := [(0, ov_r 3), (1, ov_i dep), (2, ov_i x2), (3, ov_i x3), (4, ov_i v20)]) (st2 := [ov_i 1]) (pc2 := 50) b_69_49_1 rfl rfl ?_
              exact ov_retz (st := []) d_69_50 rfl (by omega) ⟨_, rfl, I14, (by show (1 = 0 ∧ 1 ≤ (h13 3 2) ∨ 1 = 1) ∧ (h13 36 7) = (h 36 7) ∧ (h13 1 1) = (h 1 1) ∧ (h13 90 2) = (h 90 2) ∧ (h13 0 10) = (h 0 10) ∧ (h13 0 11) = (h 0 11) ∧ (h13 0 12) = (h 0 12) ∧ (h13 0 13) = (h 0 13) ∧ (h13 3 1) = (h 3 1) ∧ (h13 36 8) = (h 36 8) ∧ (h13 46 3) = (h 46 3) ∧ (h13 46 4) = (h 46 4) ∧ (h13 49 4) = (h 49 4) ∧ (h13 49 5) = (h 49 5) ∧ (h13 64 0) = (h 64 0) ∧ (h13 76 0) = (h 76 0); omega)⟩
  exact L11 1001 v2 0 _ _ I5 (by show (v2 = 0 ∧ 1 ≤ (h4 3 2) ∨ v2 = 1) ∧ 0 ≤ 0 ∧ 0 ≤ 1000 ∧ (h4 36 7) = (h 36 7) ∧ (h4 1 1) = (h 1 1) ∧ (h4 90 2) = (h 90 2) ∧ (h4 0 10) = (h 0 10) ∧ (h4 0 11) = (h 0 11) ∧ (h4 0 12) = (h 0 12) ∧ (h4 0 13) = (h 0 13) ∧ (h4 3 1) = (h 3 1) ∧ (h4 36 8) = (h 36 8) ∧ (h4 46 3) = (h 46 3) ∧ (h4 46 4) = (h 46 4) ∧ (h4 49 4) = (h 49 4) ∧ (h4 49 5) = (h 49 5) ∧ (h4 64 0) = (h 64 0) ∧ (h4 76 0) = (h 76 0) ∧ (h4 3 1) = 58; omega) (by omega)
theorem c_Reader_readExpression_3_k3_1_58_both {u : ov_U} {F : ov_H} : ∀ k : Nat, (∀ {z : ov_Z} {h : ov_H} (d : Nat) (hd : (10 + 5 * k + 4) ≤ d) (U : ov_cap u) (I : ov_I F z h) (hw : ov_kw 295436135555504537610 F) (dep : Int) (k0 : h 3 1 = 58) (g_dep : ov_g dep) (p0 : 0 ≤ dep ∧ dep + (k : Int) = 5), ov_T u d ov_m69 [ov_r 3, ov_i dep] z h (P_Reader_readExpression_3_k3_1_58 F z h dep)) ∧ (∀ {z : ov_Z} {h : ov_H} (d : Nat) (hd : (10 + 5 * k + 0) ≤ d) (U : ov_cap u) (I : ov_I F z h) (hw : ov_kw 295436135555504537610 F) (dep : Int) (k0 : h 3 1 = 58) (g_dep : ov_g dep) (p0 : 0 ≤ dep ∧ dep + (k : Int) = 5), ov_T u d ov_m73 [ov_r 3, ov_i dep] z h (P_Reader_readPart_3_k3_1_58 F z h dep)) := by
  intro k
  induction k with
  | zero => exact ⟨c_Reader_readExpression_3_k3_1_58 0 (fun k' e => by omega) (fun k' e => by omega), c_Reader_readPart_3_k3_1_58 0 (fun k' e => by omega) (fun k' e => by omega)⟩
  | succ k ih =>
    have HE : ∀ k' : Nat, k' + 1 = k + 1 → ∀ {z : ov_Z} {h : ov_H} (d : Nat) (hd : (10 + 5 * k' + 4) ≤ d) (U : ov_cap u) (I : ov_I F z h) (hw : ov_kw 295436135555504537610 F) (dep : Int) (k0 : h 3 1 = 58) (g_dep : ov_g dep) (p0 : 0 ≤ dep ∧ dep + (k' : Int) = 5), ov_T u d ov_m69 [ov_r 3, ov_i dep] z h (P_Reader_readExpression_3_k3_1_58 F z h dep) := fun k' e => by
      have e2 : k' = k := by omega
      rw [e2]
      exact fun {z} {h} d hd U I hw dep k0 g p => ih.1 d hd U I hw dep k0 g p
    have HP : ∀ k' : Nat, k' + 1 = k + 1 → ∀ {z : ov_Z} {h : ov_H} (d : Nat) (hd : (10 + 5 * k' + 0) ≤ d) (U : ov_cap u) (I : ov_I F z h) (hw : ov_kw 295436135555504537610 F) (dep : Int) (k0 : h 3 1 = 58) (g_dep : ov_g dep) (p0 : 0 ≤ dep ∧ dep + (k' : Int) = 5), ov_T u d ov_m73 [ov_r 3, ov_i dep] z h (P_Reader_readPart_3_k3_1_58 F z h dep) := fun k' e => by
      have e2 : k' = k := by omega
      rw [e2]
      exact fun {z} {h} d hd U I hw dep k0 g p => ih.2 d hd U I hw dep k0 g p
    exact ⟨c_Reader_readExpression_3_k3_1_58 (k + 1) HE HP, c_Reader_readPart_3_k3_1_58 (k + 1) HE HP⟩
theorem c_Reader_readExpression_3_k3_1_58_all {u : ov_U} {F : ov_H} (k : Nat) : ∀ {z : ov_Z} {h : ov_H} (d : Nat) (hd : (10 + 5 * k + 4) ≤ d) (U : ov_cap u) (I : ov_I F z h) (hw : ov_kw 295436135555504537610 F) (dep : Int) (k0 : h 3 1 = 58) (g_dep : ov_g dep) (p0 : 0 ≤ dep ∧ dep + (k : Int) = 5), ov_T u d ov_m69 [ov_r 3, ov_i dep] z h (P_Reader_readExpression_3_k3_1_58 F z h dep) := (c_Reader_readExpression_3_k3_1_58_both k).1
abbrev P_Reader_readRule_3_k3_1_58 (F : ov_H) (z : ov_Z) (h : ov_H)  : Option ov_V → ov_Z → ov_H → Prop := fun r0 z' h' => ∃ r : Int, r0 = some (ov_i r) ∧ ov_I F z' h' ∧ ((r = 0 ∧ 1 ≤ (h' 3 2) ∨ r = 1) ∧ (h' 36 7) = (h 36 7) ∧ (h' 1 1) = (h 1 1) ∧ (h' 90 2) = (h 90 2) ∧ (h' 0 10) = (h 0 10) ∧ (h' 0 11) = (h 0 11) ∧ (h' 0 12) = (h 0 12) ∧ (h' 0 13) = (h 0 13) ∧ (h' 3 1) = (h 3 1) ∧ (h' 36 8) = (h 36 8) ∧ (h' 46 3) = (h 46 3) ∧ (h' 46 4) = (h 46 4) ∧ (h' 49 4) = (h 49 4) ∧ (h' 49 5) = (h 49 5) ∧ (h' 64 0) = (h 64 0) ∧ (h' 76 0) = (h 76 0))
set_option maxHeartbeats 4000000 in
theorem c_Reader_readRule_3_k3_1_58 {u : ov_U} {F : ov_H} {z : ov_Z} {h : ov_H} (d : Nat) (hd : 40 ≤ d) (U : ov_cap u) (I : ov_I F z h) (hw : ov_kw 516797064440019157002 F) (k0 : h 3 1 = 58) : ov_T u d ov_m66 [ov_r 3] z h (P_Reader_readRule_3_k3_1_58 F z h) := by
  refine ov_en rfl (Nat.le_of_ble_eq_true rfl) ?_
  show ov_R u d ov_m66 0 [(0, ov_r 3)] [] z h (P_Reader_readRule_3_k3_1_58 F z h)
  refine ov_blk (ls2 := [(0, ov_r 3)]) (st2 := [ov_r 3]) (pc2 := 1) b_66_0_1 rfl rfl ?_
  refine ov_getf (v := ov_r 58) d_66_1 fl_Reader_15 (zb_3 I) (zs_3 I) (congrArg ov_r k0) ?_
  refine ov_getf (v := ov_i (h 58 11)) d_66_4 fl_Reader_197 (zb_58 I) (zs_58 I) rfl ?_
  have g1 := rg_58_11 I
  refine ov_blk (ls2 := [(0, ov_r 3)]) (st2 := [ov_i 4, ov_i (h 58 11)]) (pc2 := 8) b_66_7_1 rfl rfl ?_
  refine ov_iclt (tgt := 17) d_66_8 (by decide) (by omega) (by omega) (fun c2 => ?_) (fun c2 => ?_)
  · skip
    refine ov_blk (ls2 := [(0, ov_r 3)]) (st2 := [ov_r 3]) (pc2 := 18) b_66_17_1 rfl rfl ?_
    refine ov_getf (v := ov_r 1) d_66_18 fl_Reader_9 (zb_3 I) (zs_3 I) (congrArg ov_r (rg_3_0 I)) ?_
    refine ov_cV (as := []) (st := []) (d2 := d - 1) d_66_21 lk_Reader_75 rfl (Nat.le_of_ble_eq_true rfl) (c := 8) (zb_1 I) (zs_1 I) ⟨by decide, rfl⟩ (by omega) (c_Tape_advance_1 (d - 1) (by omega) U I (ov_kws hw (by decide +kernel))) ?_
    rintro _ z4 h5 ⟨rfl, I6, f3⟩
    show ov_R u d ov_m66 24 [(0, ov_r 3)] [] z4 h5 (P_Reader_readRule_3_k3_1_58 F z h)
    have f7 : (h5 3 3) = (h 3 3) ∧ (h5 36 7) = (h 36 7) ∧ (h5 1 1) = (h 1 1) ∧ (h5 90 2) = (h 90 2) ∧ (h5 0 10) = (h 0 10) ∧ (h5 0 11) = (h 0 11) ∧ (h5 0 12) = (h 0 12) ∧ (h5 0 13) = (h 0 13) ∧ (h5 3 1) = (h 3 1) ∧ (h5 36 8) = (h 36 8) ∧ (h5 46 3) = (h 46 3) ∧ (h5 46 4) = (h 46 4) ∧ (h5 49 4) = (h 49 4) ∧ (h5 49 5) = (h 49 5) ∧ (h5 64 0) = (h 64 0) ∧ (h5 76 0) = (h 76 0) := f3
    clear f3
    have e8 : h5 3 1 = 58 := by omega
    refine ov_blk (ls2 := [(0, ov_r 3)]) (st2 := [ov_r 3]) (pc2 := 25) b_66_24_1 rfl rfl ?_
    refine ov_getf (v := ov_r 1) d_66_25 fl_Reader_9 (zb_3 I6) (zs_3 I6) (congrArg ov_r (rg_3_0 I6)) ?_
    refine ov_getf (v := ov_i (h5 1 2)) d_66_28 fl_Reader_37 (zb_1 I6) (zs_1 I6) rfl ?_
    have g9 := rg_1_2 I6
    refine ov_blk (ls2 := [(0, ov_r 3)]) (st2 := [ov_i 2, ov_i (h5 1 2)]) (pc2 := 32) b_66_31_1 rfl rfl ?_
    refine ov_icne (tgt := 48) d_66_32 (by decide) (by omega) (by omega) (fun c10 => ?_) (fun c10 => ?_)
    · skip
      refine ov_blk (ls2 := [(0, ov_r 3)]) (st2 := [ov_i 1, ov_r 3]) (pc2 := 50) b_66_48_2 rfl rfl ?_
      refine ov_cV (as := [ov_i 1]) (st := []) (d2 := d - 1) d_66_50 lk_Reader_58 rfl (Nat.le_of_ble_eq_true rfl) (c := 6) (zb_3 I6) (zs_3 I6) ⟨by decide, rfl⟩ (by omega) (c_Reader_fail_3_k3_1_58 (d - 1) (by omega) U I6 (ov_kws hw (by decide +kernel)) 1 e8 (by omega) (by omega)) ?_
      rintro _ z13 h14 ⟨v12, rfl, I15, f11⟩
      show ov_R u d ov_m66 53 [(0, ov_r 3)] [ov_i v12] z13 h14 (P_Reader_readRule_3_k3_1_58 F z h)
      have f16 : v12 = 0 ∧ 1 ≤ (h14 3 2) ∧ (h14 36 7) = (h5 36 7) ∧ (h14 1 1) = (h5 1 1) ∧ (h14 90 2) = (h5 90 2) ∧ (h14 0 10) = (h5 0 10) ∧ (h14 0 11) = (h5 0 11) ∧ (h14 0 12) = (h5 0 12) ∧ (h14 0 13) = (h5 0 13) ∧ (h14 3 1) = (h5 3 1) ∧ (h14 36 8) = (h5 36 8) ∧ (h14 46 3) = (h5 46 3) ∧ (h14 46 4) = (h5 46 4) ∧ (h14 49 4) = (h5 49 4) ∧ (h14 49 5) = (h5 49 5) ∧ (h14 64 0) = (h5 64 0) ∧ (h14 76 0) = (h5 76 0) := f11
      clear f11
      have e17 : h14 3 1 = 58 := by omega
      exact ov_retz (st := []) d_66_53 rfl (by omega) ⟨_, rfl, I15, (by show (v12 = 0 ∧ 1 ≤ (h14 3 2) ∨ v12 = 1) ∧ (h14 36 7) = (h 36 7) ∧ (h14 1 1) = (h 1 1) ∧ (h14 90 2) = (h 90 2) ∧ (h14 0 10) = (h 0 10) ∧ (h14 0 11) = (h 0 11) ∧ (h14 0 12) = (h 0 12) ∧ (h14 0 13) = (h 0 13) ∧ (h14 3 1) = (h 3 1) ∧ (h14 36 8) = (h 36 8) ∧ (h14 46 3) = (h 46 3) ∧ (h14 46 4) = (h 46 4) ∧ (h14 49 4) = (h 49 4) ∧ (h14 49 5) = (h 49 5) ∧ (h14 64 0) = (h 64 0) ∧ (h14 76 0) = (h 76 0); omega)⟩
    · skip
      refine ov_blk (ls2 := [(0, ov_r 3)]) (st2 := [ov_r 3]) (pc2 := 36) b_66_35_1 rfl rfl ?_
      refine ov_getf (v := ov_r 1) d_66_36 fl_Reader_9 (zb_3 I6) (zs_3 I6) (congrArg ov_r (rg_3_0 I6)) ?_
      refine ov_getf (v := ov_l (h5 1 6)) d_66_39 fl_Reader_200 (zb_1 I6) (zs_1 I6) rfl ?_
      refine ov_cS (as := [ov_l (h5 1 6)]) (st := []) (d2 := d - 1) d_66_42 lk_Reader_204 rfl (Nat.le_of_ble_eq_true rfl) (by omega) (c_Reader_isReserved (d - 1) (by omega) U I6 (h5 1 6)) ?_
      rintro _ _ _ ⟨v19, rfl, rfl, rfl, f18⟩
      show ov_R u d ov_m66 45 [(0, ov_r 3)] [ov_i v19] z4 h5 (P_Reader_readRule_3_k3_1_58 F z h)
      have f20 : (v19 = 0 ∨ v19 = 1) := f18
      clear f18
      refine ov_ifeq (tgt := 54) d_66_45 (by decide) (by omega) (fun c21 => ?_) (fun c21 => ?_)
      · skip
        refine ov_blk (ls2 := [(0, ov_r 3)]) (st2 := [ov_r 3]) (pc2 := 55) b_66_54_1 rfl rfl ?_
        refine ov_getf (v := ov_r 58) d_66_55 fl_Reader_15 (zb_3 I6) (zs_3 I6) (congrArg ov_r e8) ?_
        refine ov_blk (ls2 := [(0, ov_r 3)]) (st2 := [ov_r 3, ov_r 58]) (pc2 := 59) b_66_58_1 rfl rfl ?_
        refine ov_getf (v := ov_r 1) d_66_59 fl_Reader_9 (zb_3 I6) (zs_3 I6) (congrArg ov_r (rg_3_0 I6)) ?_
        refine ov_getf (v := ov_l (h5 1 6)) d_66_62 fl_Reader_200 (zb_1 I6) (zs_1 I6) rfl ?_
        refine ov_cV (as := [ov_l (h5 1 6)]) (st := []) (d2 := d - 1) d_66_65 lk_Reader_207 rfl (Nat.le_of_ble_eq_true rfl) (c := 9) (zb_58 I6) (zs_58 I6) ⟨by decide, rfl⟩ (by omega) (c_Town_hasRule_58 (d - 1) (by omega) U I6 (h5 1 6)) ?_
        rintro _ _ _ ⟨v23, rfl, rfl, rfl, f22⟩
        show ov_R u d ov_m66 68 [(0, ov_r 3)] [ov_i v23] z4 h5 (P_Reader_readRule_3_k3_1_58 F z h)
        have f24 : (v23 = 0 ∨ v23 = 1) := f22
        clear f22
        refine ov_ifeq (tgt := 77) d_66_68 (by decide) (by omega) (fun c25 => ?_) (fun c25 => ?_)
        · skip
          refine ov_blk (ls2 := [(0, ov_r 3)]) (st2 := [ov_r 3]) (pc2 := 78) b_66_77_1 rfl rfl ?_
          refine ov_getf (v := ov_r 1) d_66_78 fl_Reader_9 (zb_3 I6) (zs_3 I6) (congrArg ov_r (rg_3_0 I6)) ?_
          refine ov_getf (v := ov_l (h5 1 6)) d_66_81 fl_Reader_200 (zb_1 I6) (zs_1 I6) rfl ?_
          refine ov_blk (ls2 := [(0, ov_r 3), (1, ov_l (h5 1 6))]) (st2 := [ov_r 3]) (pc2 := 86) b_66_84_2 rfl rfl ?_
          refine ov_getf (v := ov_r 1) d_66_86 fl_Reader_9 (zb_3 I6) (zs_3 I6) (congrArg ov_r (rg_3_0 I6)) ?_
          refine ov_cV (as := []) (st := []) (d2 := d - 1) d_66_89 lk_Reader_75 rfl (Nat.le_of_ble_eq_true rfl) (c := 8) (zb_1 I6) (zs_1 I6) ⟨by decide, rfl⟩ (by omega) (c_Tape_advance_1 (d - 1) (by omega) U I6 (ov_kws hw (by decide +kernel))) ?_
          rintro _ z27 h28 ⟨rfl, I29, f26⟩
          show ov_R u d ov_m66 92 [(0, ov_r 3), (1, ov_l (h5 1 6))] [] z27 h28 (P_Reader_readRule_3_k3_1_58 F z h)
          have f30 : (h28 3 3) = (h5 3 3) ∧ (h28 36 7) = (h5 36 7) ∧ (h28 1 1) = (h5 1 1) ∧ (h28 90 2) = (h5 90 2) ∧ (h28 0 10) = (h5 0 10) ∧ (h28 0 11) = (h5 0 11) ∧ (h28 0 12) = (h5 0 12) ∧ (h28 0 13) = (h5 0 13) ∧ (h28 3 1) = (h5 3 1) ∧ (h28 36 8) = (h5 36 8) ∧ (h28 46 3) = (h5 46 3) ∧ (h28 46 4) = (h5 46 4) ∧ (h28 49 4) = (h5 49 4) ∧ (h28 49 5) = (h5 49 5) ∧ (h28 64 0) = (h5 64 0) ∧ (h28 76 0) = (h5 76 0) := f26
          clear f26
          have e31 : h28 3 1 = 58 := by omega
          refine ov_blk (ls2 := [(0, ov_r 3), (1, ov_l (h5 1 6))]) (st2 := [ov_i 0, ov_r 3]) (pc2 := 94) b_66_92_2 rfl rfl ?_
          refine ov_cV (as := [ov_i 0]) (st := []) (d2 := d - 1) d_66_94 lk_Reader_210 rfl (Nat.le_of_ble_eq_true rfl) (c := 6) (zb_3 I29) (zs_3 I29) ⟨by decide, rfl⟩ (by omega) (c_Reader_readExpression_3_k3_1_58_all 5 (d - 1) (by omega) U I29 (ov_kws hw (by decide +kernel)) 0 e31 (by omega) (by omega)) ?_
          rintro _ z34 h35 ⟨v33, rfl, I36, f32⟩
          show ov_R u d ov_m66 97 [(0, ov_r 3), (1, ov_l (h5 1 6))] [ov_i v33] z34 h35 (P_Reader_readRule_3_k3_1_58 F z h)
          have f37 : (v33 = 0 ∧ 1 ≤ (h35 3 2) ∨ v33 = 1) ∧ (h35 36 7) = (h28 36 7) ∧ (h35 1 1) = (h28 1 1) ∧ (h35 90 2) = (h28 90 2) ∧ (h35 0 10) = (h28 0 10) ∧ (h35 0 11) = (h28 0 11) ∧ (h35 0 12) = (h28 0 12) ∧ (h35 0 13) = (h28 0 13) ∧ (h35 3 1) = (h28 3 1) ∧ (h35 36 8) = (h28 36 8) ∧ (h35 46 3) = (h28 46 3) ∧ (h35 46 4) = (h28 46 4) ∧ (h35 49 4) = (h28 49 4) ∧ (h35 49 5) = (h28 49 5) ∧ (h35 64 0) = (h28 64 0) ∧ (h35 76 0) = (h28 76 0) := f32
          clear f32
          have e38 : h35 3 1 = 58 := by omega
          refine ov_ifne (tgt := 102) d_66_97 (by decide) (by omega) (fun c39 => ?_) (fun c39 => ?_)
          · skip
            refine ov_blk (ls2 := [(0, ov_r 3), (1, ov_l (h5 1 6))]) (st2 := [ov_r 3]) (pc2 := 103) b_66_102_1 rfl rfl ?_
            refine ov_getf (v := ov_r 58) d_66_103 fl_Reader_15 (zb_3 I36) (zs_3 I36) (congrArg ov_r e38) ?_
            refine ov_blk (ls2 := [(0, ov_r 3), (1, ov_l (h5 1 6))]) (st2 := [ov_l (h5 1 6), ov_r 58]) (pc2 := 107) b_66_106_1 rfl rfl ?_
            refine ov_cV (as := [ov_l (h5 1 6)]) (st := []) (d2 := d - 1) d_66_107 lk_Reader_213 rfl (Nat.le_of_ble_eq_true rfl) (c := 9) (zb_58 I36) (zs_58 I36) ⟨by decide, rfl⟩ (by omega) (c_Town_addRule_58 (d - 1) (by omega) U I36 (ov_kws hw (by decide +kernel)) (h5 1 6)) ?_
            rintro _ z41 h42 ⟨rfl, I43, f40⟩
            show ov_R u d ov_m66 110 [(0, ov_r 3), (1, ov_l (h5 1 6))] [] z41 h42 (P_Reader_readRule_3_k3_1_58 F z h)
            have f44 : (h42 36 7) = (h35 36 7) ∧ (h42 1 1) = (h35 1 1) ∧ (h42 90 2) = (h35 90 2) ∧ (h42 0 10) = (h35 0 10) ∧ (h42 0 11) = (h35 0 11) ∧ (h42 0 12) = (h35 0 12) ∧ (h42 0 13) = (h35 0 13) ∧ (h42 3 1) = (h35 3 1) ∧ (h42 36 8) = (h35 36 8) ∧ (h42 46 3) = (h35 46 3) ∧ (h42 46 4) = (h35 46 4) ∧ (h42 49 4) = (h35 49 4) ∧ (h42 49 5) = (h35 49 5) ∧ (h42 64 0) = (h35 64 0) ∧ (h42 76 0) = (h35 76 0) := f40
            clear f40
            have e45 : h42 3 1 = 58 := by omega
            refine ov_blk (ls2 := [(0, ov_r 3), (1, ov_l (h5 1 6))]) (st2 := [ov_i 59, ov_r 3]) (pc2 := 113) b_66_110_2 rfl rfl ?_
            refine ov_cV (as := [ov_i 59]) (st := []) (d2 := d - 1) d_66_113 lk_Reader_92 rfl (Nat.le_of_ble_eq_true rfl) (c := 6) (zb_3 I43) (zs_3 I43) ⟨by decide, rfl⟩ (by omega) (c_Reader_takeSign_3_k3_1_58 (d - 1) (by omega) U I43 (ov_kws hw (by decide +kernel)) 59 e45 (by omega)) ?_
            rintro _ z48 h49 ⟨v47, rfl, I50, f46⟩
            show ov_R u d ov_m66 116 [(0, ov_r 3), (1, ov_l (h5 1 6))] [ov_i v47] z48 h49 (P_Reader_readRule_3_k3_1_58 F z h)
            have f51 : (v47 = 0 ∧ 1 ≤ (h49 3 2) ∨ v47 = 1) ∧ (h49 36 7) = (h42 36 7) ∧ (h49 1 1) = (h42 1 1) ∧ (h49 90 2) = (h42 90 2) ∧ (h49 0 10) = (h42 0 10) ∧ (h49 0 11) = (h42 0 11) ∧ (h49 0 12) = (h42 0 12) ∧ (h49 0 13) = (h42 0 13) ∧ (h49 3 1) = (h42 3 1) ∧ (h49 36 8) = (h42 36 8) ∧ (h49 46 3) = (h42 46 3) ∧ (h49 46 4) = (h42 46 4) ∧ (h49 49 4) = (h42 49 4) ∧ (h49 49 5) = (h42 49 5) ∧ (h49 64 0) = (h42 64 0) ∧ (h49 76 0) = (h42 76 0) := f46
            clear f46
            have e52 : h49 3 1 = 58 := by omega
            exact ov_retz (st := []) d_66_116 rfl (by omega) ⟨_, rfl, I50, (by show (v47 = 0 ∧ 1 ≤ (h49 3 2) ∨ v47 = 1) ∧ (h49 36 7) = (h 36 7) ∧ (h49 1 1) = (h 1 1) ∧ (h49 90 2) = (h 90 2) ∧ (h49 0 10) = (h 0 10) ∧ (h49 0 11) = (h 0 11) ∧ (h49 0 12) = (h 0 12) ∧ (h49 0 13) = (h 0 13) ∧ (h49 3 1) = (h 3 1) ∧ (h49 36 8) = (h 36 8) ∧ (h49 46 3) = (h 46 3) ∧ (h49 46 4) = (h 46 4) ∧ (h49 49 4) = (h 49 4) ∧ (h49 49 5) = (h 49 5) ∧ (h49 64 0) = (h 64 0) ∧ (h49 76 0) = (h 76 0); omega)⟩
          · skip
            refine ov_blk (ls2 := [(0, ov_r 3), (1, ov_l (h5 1 6))]) (st2 := [ov_i 0]) (pc2 := 101) b_66_100_1 rfl rfl ?_
            exact ov_retz (st := []) d_66_101 rfl (by omega) ⟨_, rfl, I36, (by show (0 = 0 ∧ 1 ≤ (h35 3 2) ∨ 0 = 1) ∧ (h35 36 7) = (h 36 7) ∧ (h35 1 1) = (h 1 1) ∧ (h35 90 2) = (h 90 2) ∧ (h35 0 10) = (h 0 10) ∧ (h35 0 11) = (h 0 11) ∧ (h35 0 12) = (h 0 12) ∧ (h35 0 13) = (h 0 13) ∧ (h35 3 1) = (h 3 1) ∧ (h35 36 8) = (h 36 8) ∧ (h35 46 3) = (h 46 3) ∧ (h35 46 4) = (h 46 4) ∧ (h35 49 4) = (h 49 4) ∧ (h35 49 5) = (h 49 5) ∧ (h35 64 0) = (h 64 0) ∧ (h35 76 0) = (h 76 0); omega)⟩
        · skip
          refine ov_blk (ls2 := [(0, ov_r 3)]) (st2 := [ov_i 3, ov_r 3]) (pc2 := 73) b_66_71_2 rfl rfl ?_
          refine ov_cV (as := [ov_i 3]) (st := []) (d2 := d - 1) d_66_73 lk_Reader_58 rfl (Nat.le_of_ble_eq_true rfl) (c := 6) (zb_3 I6) (zs_3 I6) ⟨by decide, rfl⟩ (by omega) (c_Reader_fail_3_k3_1_58 (d - 1) (by omega) U I6 (ov_kws hw (by decide +kernel)) 3 e8 (by omega) (by omega)) ?_
          rintro _ z55 h56 ⟨v54, rfl, I57, f53⟩
          show ov_R u d ov_m66 76 [(0, ov_r 3)] [ov_i v54] z55 h56 (P_Reader_readRule_3_k3_1_58 F z h)
          have f58 : v54 = 0 ∧ 1 ≤ (h56 3 2) ∧ (h56 36 7) = (h5 36 7) ∧ (h56 1 1) = (h5 1 1) ∧ (h56 90 2) = (h5 90 2) ∧ (h56 0 10) = (h5 0 10) ∧ (h56 0 11) = (h5 0 11) ∧ (h56 0 12) = (h5 0 12) ∧ (h56 0 13) = (h5 0 13) ∧ (h56 3 1) = (h5 3 1) ∧ (h56 36 8) = (h5 36 8) ∧ (h56 46 3) = (h5 46 3) ∧ (h56 46 4) = (h5 46 4) ∧ (h56 49 4) = (h5 49 4) ∧ (h56 49 5) = (h5 49 5) ∧ (h56 64 0) = (h5 64 0) ∧ (h56 76 0) = (h5 76 0) := f53
          clear f53
          have e59 : h56 3 1 = 58 := by omega
          exact ov_retz (st := []) d_66_76 rfl (by omega) ⟨_, rfl, I57, (by show (v54 = 0 ∧ 1 ≤ (h56 3 2) ∨ v54 = 1) ∧ (h56 36 7) = (h 36 7) ∧ (h56 1 1) = (h 1 1) ∧ (h56 90 2) = (h 90 2) ∧ (h56 0 10) = (h 0 10) ∧ (h56 0 11) = (h 0 11) ∧ (h56 0 12) = (h 0 12) ∧ (h56 0 13) = (h 0 13) ∧ (h56 3 1) = (h 3 1) ∧ (h56 36 8) = (h 36 8) ∧ (h56 46 3) = (h 46 3) ∧ (h56 46 4) = (h 46 4) ∧ (h56 49 4) = (h 49 4) ∧ (h56 49 5) = (h 49 5) ∧ (h56 64 0) = (h 64 0) ∧ (h56 76 0) = (h 76 0); omega)⟩
      · skip
        refine ov_blk (ls2 := [(0, ov_r 3)]) (st2 := [ov_i 1, ov_r 3]) (pc2 := 50) b_66_48_2 rfl rfl ?_
        refine ov_cV (as := [ov_i 1]) (st := []) (d2 := d - 1) d_66_50 lk_Reader_58 rfl (Nat.le_of_ble_eq_true rfl) (c := 6) (zb_3 I6) (zs_3 I6) ⟨by decide, rfl⟩ (by omega) (c_Reader_fail_3_k3_1_58 (d - 1) (by omega) U I6 (ov_kws hw (by decide +kernel)) 1 e8 (by omega) (by omega)) ?_
        rintro _ z62 h63 ⟨v61, rfl, I64, f60⟩
        show ov_R u d ov_m66 53 [(0, ov_r 3)] [ov_i v61] z62 h63 (P_Reader_readRule_3_k3_1_58 F z h)
        have f65 : v61 = 0 ∧ 1 ≤ (h63 3 2) ∧ (h63 36 7) = (h5 36 7) ∧ (h63 1 1) = (h5 1 1) ∧ (h63 90 2) = (h5 90 2) ∧ (h63 0 10) = (h5 0 10) ∧ (h63 0 11) = (h5 0 11) ∧ (h63 0 12) = (h5 0 12) ∧ (h63 0 13) = (h5 0 13) ∧ (h63 3 1) = (h5 3 1) ∧ (h63 36 8) = (h5 36 8) ∧ (h63 46 3) = (h5 46 3) ∧ (h63 46 4) = (h5 46 4) ∧ (h63 49 4) = (h5 49 4) ∧ (h63 49 5) = (h5 49 5) ∧ (h63 64 0) = (h5 64 0) ∧ (h63 76 0) = (h5 76 0) := f60
        clear f60
        have e66 : h63 3 1 = 58 := by omega
        exact ov_retz (st := []) d_66_53 rfl (by omega) ⟨_, rfl, I64, (by show (v61 = 0 ∧ 1 ≤ (h63 3 2) ∨ v61 = 1) ∧ (h63 36 7) = (h 36 7) ∧ (h63 1 1) = (h 1 1) ∧ (h63 90 2) = (h 90 2) ∧ (h63 0 10) = (h 0 10) ∧ (h63 0 11) = (h 0 11) ∧ (h63 0 12) = (h 0 12) ∧ (h63 0 13) = (h 0 13) ∧ (h63 3 1) = (h 3 1) ∧ (h63 36 8) = (h 36 8) ∧ (h63 46 3) = (h 46 3) ∧ (h63 46 4) = (h 46 4) ∧ (h63 49 4) = (h 49 4) ∧ (h63 49 5) = (h 49 5) ∧ (h63 64 0) = (h 64 0) ∧ (h63 76 0) = (h 76 0); omega)⟩
  · skip
    refine ov_blk (ls2 := [(0, ov_r 3)]) (st2 := [ov_i 5, ov_r 3]) (pc2 := 13) b_66_11_2 rfl rfl ?_
    refine ov_cV (as := [ov_i 5]) (st := []) (d2 := d - 1) d_66_13 lk_Reader_58 rfl (Nat.le_of_ble_eq_true rfl) (c := 6) (zb_3 I) (zs_3 I) ⟨by decide, rfl⟩ (by omega) (c_Reader_fail_3_k3_1_58 (d - 1) (by omega) U I (ov_kws hw (by decide +kernel)) 5 k0 (by omega) (by omega)) ?_
    rintro _ z69 h70 ⟨v68, rfl, I71, f67⟩
    show ov_R u d ov_m66 16 [(0, ov_r 3)] [ov_i v68] z69 h70 (P_Reader_readRule_3_k3_1_58 F z h)
    have f72 : v68 = 0 ∧ 1 ≤ (h70 3 2) ∧ (h70 36 7) = (h 36 7) ∧ (h70 1 1) = (h 1 1) ∧ (h70 90 2) = (h 90 2) ∧ (h70 0 10) = (h 0 10) ∧ (h70 0 11) = (h 0 11) ∧ (h70 0 12) = (h 0 12) ∧ (h70 0 13) = (h 0 13) ∧ (h70 3 1) = (h 3 1) ∧ (h70 36 8) = (h 36 8) ∧ (h70 46 3) = (h 46 3) ∧ (h70 46 4) = (h 46 4) ∧ (h70 49 4) = (h 49 4) ∧ (h70 49 5) = (h 49 5) ∧ (h70 64 0) = (h 64 0) ∧ (h70 76 0) = (h 76 0) := f67
    clear f67
    have e73 : h70 3 1 = 58 := by omega
    exact ov_retz (st := []) d_66_16 rfl (by omega) ⟨_, rfl, I71, (by show (v68 = 0 ∧ 1 ≤ (h70 3 2) ∨ v68 = 1) ∧ (h70 36 7) = (h 36 7) ∧ (h70 1 1) = (h 1 1) ∧ (h70 90 2) = (h 90 2) ∧ (h70 0 10) = (h 0 10) ∧ (h70 0 11) = (h 0 11) ∧ (h70 0 12) = (h 0 12) ∧ (h70 0 13) = (h 0 13) ∧ (h70 3 1) = (h 3 1) ∧ (h70 36 8) = (h 36 8) ∧ (h70 46 3) = (h 46 3) ∧ (h70 46 4) = (h 46 4) ∧ (h70 49 4) = (h 49 4) ∧ (h70 49 5) = (h 49 5) ∧ (h70 64 0) = (h 64 0) ∧ (h70 76 0) = (h 76 0); omega)⟩
abbrev P_Reader_readChild_3_k3_1_58 (F : ov_H) (z : ov_Z) (h : ov_H)  : Option ov_V → ov_Z → ov_H → Prop := fun r0 z' h' => ∃ r : Int, r0 = some (ov_i r) ∧ ov_I F z' h' ∧ ((r = 0 ∧ 1 ≤ (h' 3 2) ∨ r = 1) ∧ (h' 36 7) = (h 36 7) ∧ (h' 1 1) = (h 1 1) ∧ (h' 90 2) = (h 90 2) ∧ (h' 0 10) = (h 0 10) ∧ (h' 0 11) = (h 0 11) ∧ (h' 0 12) = (h 0 12) ∧ (h' 0 13) = (h 0 13) ∧ (h' 3 1) = (h 3 1) ∧ (h' 36 8) = (h 36 8) ∧ (h' 46 3) = (h 46 3) ∧ (h' 46 4) = (h 46 4) ∧ (h' 49 4) = (h 49 4) ∧ (h' 49 5) = (h 49 5) ∧ (h' 64 0) = (h 64 0) ∧ (h' 76 0) = (h 76 0))
set_option maxHeartbeats 4000000 in
theorem c_Reader_readChild_3_k3_1_58 {u : ov_U} {F : ov_H} {z : ov_Z} {h : ov_H} (d : Nat) (hd : 6 ≤ d) (U : ov_cap u) (I : ov_I F z h) (hw : ov_kw 288230376151711754 F) (k0 : h 3 1 = 58) : ov_T u d ov_m78 [ov_r 3] z h (P_Reader_readChild_3_k3_1_58 F z h) := by
  refine ov_en rfl (Nat.le_of_ble_eq_true rfl) ?_
  show ov_R u d ov_m78 0 [(0, ov_r 3)] [] z h (P_Reader_readChild_3_k3_1_58 F z h)
  refine ov_blk (ls2 := [(0, ov_r 3)]) (st2 := [ov_r 3]) (pc2 := 1) b_78_0_1 rfl rfl ?_
  refine ov_getf (v := ov_r 58) d_78_1 fl_Reader_15 (zb_3 I) (zs_3 I) (congrArg ov_r k0) ?_
  refine ov_getf (v := ov_i (h 58 8)) d_78_4 fl_Reader_193 (zb_58 I) (zs_58 I) rfl ?_
  have g1 := rg_58_8 I
  refine ov_ifeq (tgt := 16) d_78_7 (by decide) (by omega) (fun c2 => ?_) (fun c2 => ?_)
  · skip
    refine ov_blk (ls2 := [(0, ov_r 3)]) (st2 := [ov_r 3]) (pc2 := 17) b_78_16_1 rfl rfl ?_
    refine ov_getf (v := ov_r 58) d_78_17 fl_Reader_15 (zb_3 I) (zs_3 I) (congrArg ov_r k0) ?_
    refine ov_blk (ls2 := [(0, ov_r 3)]) (st2 := [ov_i 1, ov_r 58]) (pc2 := 21) b_78_20_1 rfl rfl ?_
    refine ov_putf (x := 1) d_78_21 fl_Reader_193 (zb_58 I) (zs_58 I) rfl (nk_3 (by omega)) rfl ?_
    have I3 := up_58_8 (x := 1) I (by omega) (hw 58 (by decide +kernel))
    refine ov_blk (ls2 := [(0, ov_r 3)]) (st2 := [ov_r 3]) (pc2 := 25) b_78_24_1 rfl rfl ?_
    refine ov_getf (v := ov_r 1) d_78_25 fl_Reader_9 (zb_3 I3) (zs_3 I3) (congrArg ov_r (rg_3_0 I3)) ?_
    refine ov_cV (as := []) (st := []) (d2 := d - 1) d_78_28 lk_Reader_75 rfl (Nat.le_of_ble_eq_true rfl) (c := 8) (zb_1 I3) (zs_1 I3) ⟨by decide, rfl⟩ (by omega) (c_Tape_advance_1 (d - 1) (by omega) U I3 (ov_kws hw (by decide +kernel))) ?_
    rintro _ z5 h6 ⟨rfl, I7, f4⟩
    show ov_R u d ov_m78 31 [(0, ov_r 3)] [] z5 h6 (P_Reader_readChild_3_k3_1_58 F z h)
    have f8 : (h6 3 3) = (h 3 3) ∧ (h6 36 7) = (h 36 7) ∧ (h6 1 1) = (h 1 1) ∧ (h6 90 2) = (h 90 2) ∧ (h6 0 10) = (h 0 10) ∧ (h6 0 11) = (h 0 11) ∧ (h6 0 12) = (h 0 12) ∧ (h6 0 13) = (h 0 13) ∧ (h6 3 1) = (h 3 1) ∧ (h6 36 8) = (h 36 8) ∧ (h6 46 3) = (h 46 3) ∧ (h6 46 4) = (h 46 4) ∧ (h6 49 4) = (h 49 4) ∧ (h6 49 5) = (h 49 5) ∧ (h6 64 0) = (h 64 0) ∧ (h6 76 0) = (h 76 0) := f4
    clear f4
    have e9 : h6 3 1 = 58 := by omega
    refine ov_blk (ls2 := [(0, ov_r 3)]) (st2 := [ov_i 59, ov_r 3]) (pc2 := 34) b_78_31_2 rfl rfl ?_
    refine ov_cV (as := [ov_i 59]) (st := []) (d2 := d - 1) d_78_34 lk_Reader_92 rfl (Nat.le_of_ble_eq_true rfl) (c := 6) (zb_3 I7) (zs_3 I7) ⟨by decide, rfl⟩ (by omega) (c_Reader_takeSign_3_k3_1_58 (d - 1) (by omega) U I7 (ov_kws hw (by decide +kernel)) 59 e9 (by omega)) ?_
    rintro _ z12 h13 ⟨v11, rfl, I14, f10⟩
    show ov_R u d ov_m78 37 [(0, ov_r 3)] [ov_i v11] z12 h13 (P_Reader_readChild_3_k3_1_58 F z h)
    have f15 : (v11 = 0 ∧ 1 ≤ (h13 3 2) ∨ v11 = 1) ∧ (h13 36 7) = (h6 36 7) ∧ (h13 1 1) = (h6 1 1) ∧ (h13 90 2) = (h6 90 2) ∧ (h13 0 10) = (h6 0 10) ∧ (h13 0 11) = (h6 0 11) ∧ (h13 0 12) = (h6 0 12) ∧ (h13 0 13) = (h6 0 13) ∧ (h13 3 1) = (h6 3 1) ∧ (h13 36 8) = (h6 36 8) ∧ (h13 46 3) = (h6 46 3) ∧ (h13 46 4) = (h6 46 4) ∧ (h13 49 4) = (h6 49 4) ∧ (h13 49 5) = (h6 49 5) ∧ (h13 64 0) = (h6 64 0) ∧ (h13 76 0) = (h6 76 0) := f10
    clear f10
    have e16 : h13 3 1 = 58 := by omega
    exact ov_retz (st := []) d_78_37 rfl (by omega) ⟨_, rfl, I14, (by show (v11 = 0 ∧ 1 ≤ (h13 3 2) ∨ v11 = 1) ∧ (h13 36 7) = (h 36 7) ∧ (h13 1 1) = (h 1 1) ∧ (h13 90 2) = (h 90 2) ∧ (h13 0 10) = (h 0 10) ∧ (h13 0 11) = (h 0 11) ∧ (h13 0 12) = (h 0 12) ∧ (h13 0 13) = (h 0 13) ∧ (h13 3 1) = (h 3 1) ∧ (h13 36 8) = (h 36 8) ∧ (h13 46 3) = (h 46 3) ∧ (h13 46 4) = (h 46 4) ∧ (h13 49 4) = (h 49 4) ∧ (h13 49 5) = (h 49 5) ∧ (h13 64 0) = (h 64 0) ∧ (h13 76 0) = (h 76 0); omega)⟩
  · skip
    refine ov_blk (ls2 := [(0, ov_r 3)]) (st2 := [ov_i 3, ov_r 3]) (pc2 := 12) b_78_10_2 rfl rfl ?_
    refine ov_cV (as := [ov_i 3]) (st := []) (d2 := d - 1) d_78_12 lk_Reader_58 rfl (Nat.le_of_ble_eq_true rfl) (c := 6) (zb_3 I) (zs_3 I) ⟨by decide, rfl⟩ (by omega) (c_Reader_fail_3_k3_1_58 (d - 1) (by omega) U I (ov_kws hw (by decide +kernel)) 3 k0 (by omega) (by omega)) ?_
    rintro _ z19 h20 ⟨v18, rfl, I21, f17⟩
    show ov_R u d ov_m78 15 [(0, ov_r 3)] [ov_i v18] z19 h20 (P_Reader_readChild_3_k3_1_58 F z h)
    have f22 : v18 = 0 ∧ 1 ≤ (h20 3 2) ∧ (h20 36 7) = (h 36 7) ∧ (h20 1 1) = (h 1 1) ∧ (h20 90 2) = (h 90 2) ∧ (h20 0 10) = (h 0 10) ∧ (h20 0 11) = (h 0 11) ∧ (h20 0 12) = (h 0 12) ∧ (h20 0 13) = (h 0 13) ∧ (h20 3 1) = (h 3 1) ∧ (h20 36 8) = (h 36 8) ∧ (h20 46 3) = (h 46 3) ∧ (h20 46 4) = (h 46 4) ∧ (h20 49 4) = (h 49 4) ∧ (h20 49 5) = (h 49 5) ∧ (h20 64 0) = (h 64 0) ∧ (h20 76 0) = (h 76 0) := f17
    clear f17
    have e23 : h20 3 1 = 58 := by omega
    exact ov_retz (st := []) d_78_15 rfl (by omega) ⟨_, rfl, I21, (by show (v18 = 0 ∧ 1 ≤ (h20 3 2) ∨ v18 = 1) ∧ (h20 36 7) = (h 36 7) ∧ (h20 1 1) = (h 1 1) ∧ (h20 90 2) = (h 90 2) ∧ (h20 0 10) = (h 0 10) ∧ (h20 0 11) = (h 0 11) ∧ (h20 0 12) = (h 0 12) ∧ (h20 0 13) = (h 0 13) ∧ (h20 3 1) = (h 3 1) ∧ (h20 36 8) = (h 36 8) ∧ (h20 46 3) = (h 46 3) ∧ (h20 46 4) = (h 46 4) ∧ (h20 49 4) = (h 49 4) ∧ (h20 49 5) = (h 49 5) ∧ (h20 64 0) = (h 64 0) ∧ (h20 76 0) = (h 76 0); omega)⟩
abbrev P_Reader_readSetting_3_k3_1_58 (F : ov_H) (z : ov_Z) (h : ov_H) (w : Int) (a : Int) (b : Int) : Option ov_V → ov_Z → ov_H → Prop := fun r0 z' h' => ∃ r : Int, r0 = some (ov_i r) ∧ ov_I F z' h' ∧ ((r = 0 ∧ 1 ≤ (h' 3 2) ∨ r = 1) ∧ (h' 36 7) = (h 36 7) ∧ (h' 1 1) = (h 1 1) ∧ (h' 90 2) = (h 90 2) ∧ (h' 0 10) = (h 0 10) ∧ (h' 0 11) = (h 0 11) ∧ (h' 0 12) = (h 0 12) ∧ (h' 0 13) = (h 0 13) ∧ (h' 3 1) = (h 3 1) ∧ (h' 36 8) = (h 36 8) ∧ (h' 46 3) = (h 46 3) ∧ (h' 46 4) = (h 46 4) ∧ (h' 49 4) = (h 49 4) ∧ (h' 49 5) = (h 49 5) ∧ (h' 76 0) = (h 76 0))
set_option maxHeartbeats 4000000 in
theorem c_Reader_readSetting_3_k3_1_58 {u : ov_U} {F : ov_H} {z : ov_Z} {h : ov_H} (d : Nat) (hd : 6 ≤ d) (U : ov_cap u) (I : ov_I F z h) (hw : ov_kw 18446744073709551626 F) (w : Int) (a : Int) (b : Int) (k0 : h 3 1 = 58) (g_w : ov_g w) (g_a : ov_g a) (g_b : ov_g b) (p0 : 0 ≤ w ∧ w ≤ 3) (p1 : 0 ≤ a ∧ b ≤ 30 ∧ (w = 3 → b ≤ 9)) : ov_T u d ov_m77 [ov_r 3, ov_i w, ov_i a, ov_i b] z h (P_Reader_readSetting_3_k3_1_58 F z h w a b) := by
  refine ov_en rfl (Nat.le_of_ble_eq_true rfl) ?_
  show ov_R u d ov_m77 0 [(0, ov_r 3), (1, ov_i w), (2, ov_i a), (3, ov_i b)] [] z h (P_Reader_readSetting_3_k3_1_58 F z h w a b)
  refine ov_blk (ls2 := [(0, ov_r 3), (1, ov_i w), (2, ov_i a), (3, ov_i b)]) (st2 := [ov_r 3]) (pc2 := 1) b_77_0_1 rfl rfl ?_
  refine ov_getf (v := ov_r 58) d_77_1 fl_Reader_15 (zb_3 I) (zs_3 I) (congrArg ov_r k0) ?_
  refine ov_getf (v := ov_r 64) d_77_4 fl_Reader_190 (zb_58 I) (zs_58 I) (congrArg ov_r (rg_58_7 I)) ?_
  refine ov_blk (ls2 := [(0, ov_r 3), (1, ov_i w), (2, ov_i a), (3, ov_i b)]) (st2 := [ov_i w, ov_r 64]) (pc2 := 8) b_77_7_1 rfl rfl ?_
  refine ov_iald d_77_8 (zb_64 I) (zs_64 I) (by omega) ?_
  have g1 := ra_64 I w
  refine ov_blk (ls2 := [(0, ov_r 3), (1, ov_i w), (2, ov_i a), (3, ov_i b)]) (st2 := [ov_i (-1), ov_i (h 64 w)]) (pc2 := 10) b_77_9_1 rfl rfl ?_
  refine ov_iceq (tgt := 19) d_77_10 (by decide) (by omega) (by omega) (fun c2 => ?_) (fun c2 => ?_)
  · skip
    refine ov_blk (ls2 := [(0, ov_r 3), (1, ov_i w), (2, ov_i a), (3, ov_i b)]) (st2 := [ov_r 3]) (pc2 := 20) b_77_19_1 rfl rfl ?_
    refine ov_getf (v := ov_r 1) d_77_20 fl_Reader_9 (zb_3 I) (zs_3 I) (congrArg ov_r (rg_3_0 I)) ?_
    refine ov_cV (as := []) (st := []) (d2 := d - 1) d_77_23 lk_Reader_75 rfl (Nat.le_of_ble_eq_true rfl) (c := 8) (zb_1 I) (zs_1 I) ⟨by decide, rfl⟩ (by omega) (c_Tape_advance_1 (d - 1) (by omega) U I (ov_kws hw (by decide +kernel))) ?_
    rintro _ z4 h5 ⟨rfl, I6, f3⟩
    show ov_R u d ov_m77 26 [(0, ov_r 3), (1, ov_i w), (2, ov_i a), (3, ov_i b)] [] z4 h5 (P_Reader_readSetting_3_k3_1_58 F z h w a b)
    have f7 : (h5 3 3) = (h 3 3) ∧ (h5 36 7) = (h 36 7) ∧ (h5 1 1) = (h 1 1) ∧ (h5 90 2) = (h 90 2) ∧ (h5 0 10) = (h 0 10) ∧ (h5 0 11) = (h 0 11) ∧ (h5 0 12) = (h 0 12) ∧ (h5 0 13) = (h 0 13) ∧ (h5 3 1) = (h 3 1) ∧ (h5 36 8) = (h 36 8) ∧ (h5 46 3) = (h 46 3) ∧ (h5 46 4) = (h 46 4) ∧ (h5 49 4) = (h 49 4) ∧ (h5 49 5) = (h 49 5) ∧ (h5 64 0) = (h 64 0) ∧ (h5 76 0) = (h 76 0) := f3
    clear f3
    have e8 : h5 3 1 = 58 := by omega
    refine ov_blk (ls2 := [(0, ov_r 3), (1, ov_i w), (2, ov_i a), (3, ov_i b)]) (st2 := [ov_i b, ov_i a, ov_r 3]) (pc2 := 29) b_77_26_3 rfl rfl ?_
    refine ov_cV (as := [ov_i a, ov_i b]) (st := []) (d2 := d - 1) d_77_29 lk_Reader_78 rfl (Nat.le_of_ble_eq_true rfl) (c := 6) (zb_3 I6) (zs_3 I6) ⟨by decide, rfl⟩ (by omega) (c_Reader_takeNumber_3_k3_1_58 (d - 1) (by omega) U I6 (ov_kws hw (by decide +kernel)) a b e8 (by omega) (by omega)) ?_
    rintro _ z11 h12 ⟨v10, rfl, I13, f9⟩
    show ov_R u d ov_m77 32 [(0, ov_r 3), (1, ov_i w), (2, ov_i a), (3, ov_i b)] [ov_i v10] z11 h12 (P_Reader_readSetting_3_k3_1_58 F z h w a b)
    have f14 : (v10 = 0 ∧ 1 ≤ (h12 3 2) ∨ v10 = 1 ∧ a ≤ (h12 3 3) ∧ (h12 3 3) ≤ b) ∧ (h12 36 7) = (h5 36 7) ∧ (h12 1 1) = (h5 1 1) ∧ (h12 90 2) = (h5 90 2) ∧ (h12 0 10) = (h5 0 10) ∧ (h12 0 11) = (h5 0 11) ∧ (h12 0 12) = (h5 0 12) ∧ (h12 0 13) = (h5 0 13) ∧ (h12 3 1) = (h5 3 1) ∧ (h12 36 8) = (h5 36 8) ∧ (h12 46 3) = (h5 46 3) ∧ (h12 46 4) = (h5 46 4) ∧ (h12 49 4) = (h5 49 4) ∧ (h12 49 5) = (h5 49 5) ∧ (h12 64 0) = (h5 64 0) ∧ (h12 76 0) = (h5 76 0) := f9
    clear f9
    have e15 : h12 3 1 = 58 := by omega
    refine ov_ifne (tgt := 37) d_77_32 (by decide) (by omega) (fun c16 => ?_) (fun c16 => ?_)
    · skip
      refine ov_blk (ls2 := [(0, ov_r 3), (1, ov_i w), (2, ov_i a), (3, ov_i b)]) (st2 := [ov_r 3]) (pc2 := 38) b_77_37_1 rfl rfl ?_
      refine ov_getf (v := ov_r 58) d_77_38 fl_Reader_15 (zb_3 I13) (zs_3 I13) (congrArg ov_r e15) ?_
      refine ov_getf (v := ov_r 64) d_77_41 fl_Reader_190 (zb_58 I13) (zs_58 I13) (congrArg ov_r (rg_58_7 I13)) ?_
      refine ov_blk (ls2 := [(0, ov_r 3), (1, ov_i w), (2, ov_i a), (3, ov_i b)]) (st2 := [ov_r 3, ov_i w, ov_r 64]) (pc2 := 46) b_77_44_2 rfl rfl ?_
      refine ov_getf (v := ov_i (h12 3 3)) d_77_46 fl_Reader_81 (zb_3 I13) (zs_3 I13) rfl ?_
      have g17 := rg_3_3 I13
      refine ov_iast d_77_49 (zb_64 I13) (zs_64 I13) (by omega) ?_
      have I18 := ua_64 (k := w) (x := (h12 3 3)) I13 (by omega) (hw 64 (by decide +kernel))
      refine ov_blk (ls2 := [(0, ov_r 3), (1, ov_i w), (2, ov_i a), (3, ov_i b)]) (st2 := [ov_i 59, ov_r 3]) (pc2 := 53) b_77_50_2 rfl rfl ?_
      refine ov_cV (as := [ov_i 59]) (st := []) (d2 := d - 1) d_77_53 lk_Reader_92 rfl (Nat.le_of_ble_eq_true rfl) (c := 6) (zb_3 I18) (zs_3 I18) ⟨by decide, rfl⟩ (by omega) (c_Reader_takeSign_3_k3_1_58 (d - 1) (by omega) U I18 (ov_kws hw (by decide +kernel)) 59 e15 (by omega)) ?_
      rintro _ z21 h22 ⟨v20, rfl, I23, f19⟩
      show ov_R u d ov_m77 56 [(0, ov_r 3), (1, ov_i w), (2, ov_i a), (3, ov_i b)] [ov_i v20] z21 h22 (P_Reader_readSetting_3_k3_1_58 F z h w a b)
      have f24 : (v20 = 0 ∧ 1 ≤ (h22 3 2) ∨ v20 = 1) ∧ (h22 36 7) = (h12 36 7) ∧ (h22 1 1) = (h12 1 1) ∧ (h22 90 2) = (h12 90 2) ∧ (h22 0 10) = (h12 0 10) ∧ (h22 0 11) = (h12 0 11) ∧ (h22 0 12) = (h12 0 12) ∧ (h22 0 13) = (h12 0 13) ∧ (h22 3 1) = (h12 3 1) ∧ (h22 36 8) = (h12 36 8) ∧ (h22 46 3) = (h12 46 3) ∧ (h22 46 4) = (h12 46 4) ∧ (h22 49 4) = (h12 49 4) ∧ (h22 49 5) = (h12 49 5) ∧ (h22 64 0) = ((ov_up h12 64 w (h12 3 3)) 64 0) ∧ (h22 76 0) = (h12 76 0) := f19
      clear f19
      have e25 : h22 3 1 = 58 := by omega
      exact ov_retz (st := []) d_77_56 rfl (by omega) ⟨_, rfl, I23, (by show (v20 = 0 ∧ 1 ≤ (h22 3 2) ∨ v20 = 1) ∧ (h22 36 7) = (h 36 7) ∧ (h22 1 1) = (h 1 1) ∧ (h22 90 2) = (h 90 2) ∧ (h22 0 10) = (h 0 10) ∧ (h22 0 11) = (h 0 11) ∧ (h22 0 12) = (h 0 12) ∧ (h22 0 13) = (h 0 13) ∧ (h22 3 1) = (h 3 1) ∧ (h22 36 8) = (h 36 8) ∧ (h22 46 3) = (h 46 3) ∧ (h22 46 4) = (h 46 4) ∧ (h22 49 4) = (h 49 4) ∧ (h22 49 5) = (h 49 5) ∧ (h22 76 0) = (h 76 0); omega)⟩
    · skip
      refine ov_blk (ls2 := [(0, ov_r 3), (1, ov_i w), (2, ov_i a), (3, ov_i b)]) (st2 := [ov_i 0]) (pc2 := 36) b_77_35_1 rfl rfl ?_
      exact ov_retz (st := []) d_77_36 rfl (by omega) ⟨_, rfl, I13, (by show (0 = 0 ∧ 1 ≤ (h12 3 2) ∨ 0 = 1) ∧ (h12 36 7) = (h 36 7) ∧ (h12 1 1) = (h 1 1) ∧ (h12 90 2) = (h 90 2) ∧ (h12 0 10) = (h 0 10) ∧ (h12 0 11) = (h 0 11) ∧ (h12 0 12) = (h 0 12) ∧ (h12 0 13) = (h 0 13) ∧ (h12 3 1) = (h 3 1) ∧ (h12 36 8) = (h 36 8) ∧ (h12 46 3) = (h 46 3) ∧ (h12 46 4) = (h 46 4) ∧ (h12 49 4) = (h 49 4) ∧ (h12 49 5) = (h 49 5) ∧ (h12 76 0) = (h 76 0); omega)⟩
  · skip
    refine ov_blk (ls2 := [(0, ov_r 3), (1, ov_i w), (2, ov_i a), (3, ov_i b)]) (st2 := [ov_i 3, ov_r 3]) (pc2 := 15) b_77_13_2 rfl rfl ?_
    refine ov_cV (as := [ov_i 3]) (st := []) (d2 := d - 1) d_77_15 lk_Reader_58 rfl (Nat.le_of_ble_eq_true rfl) (c := 6) (zb_3 I) (zs_3 I) ⟨by decide, rfl⟩ (by omega) (c_Reader_fail_3_k3_1_58 (d - 1) (by omega) U I (ov_kws hw (by decide +kernel)) 3 k0 (by omega) (by omega)) ?_
    rintro _ z28 h29 ⟨v27, rfl, I30, f26⟩
    show ov_R u d ov_m77 18 [(0, ov_r 3), (1, ov_i w), (2, ov_i a), (3, ov_i b)] [ov_i v27] z28 h29 (P_Reader_readSetting_3_k3_1_58 F z h w a b)
    have f31 : v27 = 0 ∧ 1 ≤ (h29 3 2) ∧ (h29 36 7) = (h 36 7) ∧ (h29 1 1) = (h 1 1) ∧ (h29 90 2) = (h 90 2) ∧ (h29 0 10) = (h 0 10) ∧ (h29 0 11) = (h 0 11) ∧ (h29 0 12) = (h 0 12) ∧ (h29 0 13) = (h 0 13) ∧ (h29 3 1) = (h 3 1) ∧ (h29 36 8) = (h 36 8) ∧ (h29 46 3) = (h 46 3) ∧ (h29 46 4) = (h 46 4) ∧ (h29 49 4) = (h 49 4) ∧ (h29 49 5) = (h 49 5) ∧ (h29 64 0) = (h 64 0) ∧ (h29 76 0) = (h 76 0) := f26
    clear f26
    have e32 : h29 3 1 = 58 := by omega
    exact ov_retz (st := []) d_77_18 rfl (by omega) ⟨_, rfl, I30, (by show (v27 = 0 ∧ 1 ≤ (h29 3 2) ∨ v27 = 1) ∧ (h29 36 7) = (h 36 7) ∧ (h29 1 1) = (h 1 1) ∧ (h29 90 2) = (h 90 2) ∧ (h29 0 10) = (h 0 10) ∧ (h29 0 11) = (h 0 11) ∧ (h29 0 12) = (h 0 12) ∧ (h29 0 13) = (h 0 13) ∧ (h29 3 1) = (h 3 1) ∧ (h29 36 8) = (h 36 8) ∧ (h29 46 3) = (h 46 3) ∧ (h29 46 4) = (h 46 4) ∧ (h29 49 4) = (h 49 4) ∧ (h29 49 5) = (h 49 5) ∧ (h29 76 0) = (h 76 0); omega)⟩
abbrev P_Reader_readBar_3_k3_1_58 (F : ov_H) (z : ov_Z) (h : ov_H)  : Option ov_V → ov_Z → ov_H → Prop := fun r0 z' h' => ∃ r : Int, r0 = some (ov_i r) ∧ ov_I F z' h' ∧ ((r = 0 ∧ 1 ≤ (h' 3 2) ∨ r = 1) ∧ (h' 36 7) = (h 36 7) ∧ (h' 1 1) = (h 1 1) ∧ (h' 90 2) = (h 90 2) ∧ (h' 0 10) = (h 0 10) ∧ (h' 0 11) = (h 0 11) ∧ (h' 0 12) = (h 0 12) ∧ (h' 0 13) = (h 0 13) ∧ (h' 3 1) = (h 3 1) ∧ (h' 36 8) = (h 36 8) ∧ (h' 46 3) = (h 46 3) ∧ (h' 46 4) = (h 46 4) ∧ (h' 49 4) = (h 49 4) ∧ (h' 49 5) = (h 49 5) ∧ (h' 64 0) = (h 64 0) ∧ (h' 76 0) = (h 76 0))
set_option maxHeartbeats 4000000 in
theorem c_Reader_readBar_3_k3_1_58 {u : ov_U} {F : ov_H} {z : ov_Z} {h : ov_H} (d : Nat) (hd : 6 ≤ d) (U : ov_cap u) (I : ov_I F z h) (hw : ov_kw 9223372036854775818 F) (k0 : h 3 1 = 58) : ov_T u d ov_m64 [ov_r 3] z h (P_Reader_readBar_3_k3_1_58 F z h) := by
  refine ov_en rfl (Nat.le_of_ble_eq_true rfl) ?_
  show ov_R u d ov_m64 0 [(0, ov_r 3)] [] z h (P_Reader_readBar_3_k3_1_58 F z h)
  refine ov_blk (ls2 := [(0, ov_r 3)]) (st2 := [ov_r 3]) (pc2 := 1) b_64_0_1 rfl rfl ?_
  refine ov_getf (v := ov_r 1) d_64_1 fl_Reader_9 (zb_3 I) (zs_3 I) (congrArg ov_r (rg_3_0 I)) ?_
  refine ov_cV (as := []) (st := []) (d2 := d - 1) d_64_4 lk_Reader_75 rfl (Nat.le_of_ble_eq_true rfl) (c := 8) (zb_1 I) (zs_1 I) ⟨by decide, rfl⟩ (by omega) (c_Tape_advance_1 (d - 1) (by omega) U I (ov_kws hw (by decide +kernel))) ?_
  rintro _ z2 h3 ⟨rfl, I4, f1⟩
  show ov_R u d ov_m64 7 [(0, ov_r 3)] [] z2 h3 (P_Reader_readBar_3_k3_1_58 F z h)
  have f5 : (h3 3 3) = (h 3 3) ∧ (h3 36 7) = (h 36 7) ∧ (h3 1 1) = (h 1 1) ∧ (h3 90 2) = (h 90 2) ∧ (h3 0 10) = (h 0 10) ∧ (h3 0 11) = (h 0 11) ∧ (h3 0 12) = (h 0 12) ∧ (h3 0 13) = (h 0 13) ∧ (h3 3 1) = (h 3 1) ∧ (h3 36 8) = (h 36 8) ∧ (h3 46 3) = (h 46 3) ∧ (h3 46 4) = (h 46 4) ∧ (h3 49 4) = (h 49 4) ∧ (h3 49 5) = (h 49 5) ∧ (h3 64 0) = (h 64 0) ∧ (h3 76 0) = (h 76 0) := f1
  clear f1
  have e6 : h3 3 1 = 58 := by omega
  refine ov_blk (ls2 := [(0, ov_r 3)]) (st2 := [ov_r 3, ov_i 0, ov_r 3]) (pc2 := 10) b_64_7_3 rfl rfl ?_
  refine ov_getf (v := ov_r 58) d_64_10 fl_Reader_15 (zb_3 I4) (zs_3 I4) (congrArg ov_r e6) ?_
  refine ov_getf (v := ov_i (h3 58 0)) d_64_13 fl_Reader_102 (zb_58 I4) (zs_58 I4) rfl ?_
  have g7 := rg_58_0 I4
  refine ov_blk (ls2 := [(0, ov_r 3)]) (st2 := [ov_i ((h3 58 0) - 1), ov_i 0, ov_r 3]) (pc2 := 18) b_64_16_2 rfl rfl ?_
  refine ov_cV (as := [ov_i 0, ov_i ((h3 58 0) - 1)]) (st := []) (d2 := d - 1) d_64_18 lk_Reader_78 rfl (Nat.le_of_ble_eq_true rfl) (c := 6) (zb_3 I4) (zs_3 I4) ⟨by decide, rfl⟩ (by omega) (c_Reader_takeNumber_3_k3_1_58 (d - 1) (by omega) U I4 (ov_kws hw (by decide +kernel)) 0 ((h3 58 0) - 1) e6 (by omega) (by omega)) ?_
  rintro _ z10 h11 ⟨v9, rfl, I12, f8⟩
  show ov_R u d ov_m64 21 [(0, ov_r 3)] [ov_i v9] z10 h11 (P_Reader_readBar_3_k3_1_58 F z h)
  have f13 : (v9 = 0 ∧ 1 ≤ (h11 3 2) ∨ v9 = 1 ∧ (0 : Int) ≤ (h11 3 3) ∧ (h11 3 3) ≤ ((h3 58 0) - 1)) ∧ (h11 36 7) = (h3 36 7) ∧ (h11 1 1) = (h3 1 1) ∧ (h11 90 2) = (h3 90 2) ∧ (h11 0 10) = (h3 0 10) ∧ (h11 0 11) = (h3 0 11) ∧ (h11 0 12) = (h3 0 12) ∧ (h11 0 13) = (h3 0 13) ∧ (h11 3 1) = (h3 3 1) ∧ (h11 36 8) = (h3 36 8) ∧ (h11 46 3) = (h3 46 3) ∧ (h11 46 4) = (h3 46 4) ∧ (h11 49 4) = (h3 49 4) ∧ (h11 49 5) = (h3 49 5) ∧ (h11 64 0) = (h3 64 0) ∧ (h11 76 0) = (h3 76 0) := f8
  clear f8
  have e14 : h11 3 1 = 58 := by omega
  refine ov_ifne (tgt := 26) d_64_21 (by decide) (by omega) (fun c15 => ?_) (fun c15 => ?_)
  · skip
    refine ov_blk (ls2 := [(0, ov_r 3)]) (st2 := [ov_r 3]) (pc2 := 27) b_64_26_1 rfl rfl ?_
    refine ov_getf (v := ov_i (h11 3 3)) d_64_27 fl_Reader_81 (zb_3 I12) (zs_3 I12) rfl ?_
    have g16 := rg_3_3 I12
    refine ov_blk (ls2 := [(0, ov_r 3), (1, ov_i (h11 3 3))]) (st2 := [ov_r 3, ov_i 0, ov_r 3]) (pc2 := 34) b_64_30_4 rfl rfl ?_
    refine ov_getf (v := ov_r 58) d_64_34 fl_Reader_15 (zb_3 I12) (zs_3 I12) (congrArg ov_r e14) ?_
    refine ov_getf (v := ov_i (h11 58 1)) d_64_37 fl_Reader_105 (zb_58 I12) (zs_58 I12) rfl ?_
    have g17 := rg_58_1 I12
    refine ov_blk (ls2 := [(0, ov_r 3), (1, ov_i (h11 3 3))]) (st2 := [ov_i ((h11 58 1) - 1), ov_i 0, ov_r 3]) (pc2 := 42) b_64_40_2 rfl rfl ?_
    refine ov_cV (as := [ov_i 0, ov_i ((h11 58 1) - 1)]) (st := []) (d2 := d - 1) d_64_42 lk_Reader_78 rfl (Nat.le_of_ble_eq_true rfl) (c := 6) (zb_3 I12) (zs_3 I12) ⟨by decide, rfl⟩ (by omega) (c_Reader_takeNumber_3_k3_1_58 (d - 1) (by omega) U I12 (ov_kws hw (by decide +kernel)) 0 ((h11 58 1) - 1) e14 (by omega) (by omega)) ?_
    rintro _ z20 h21 ⟨v19, rfl, I22, f18⟩
    show ov_R u d ov_m64 45 [(0, ov_r 3), (1, ov_i (h11 3 3))] [ov_i v19] z20 h21 (P_Reader_readBar_3_k3_1_58 F z h)
    have f23 : (v19 = 0 ∧ 1 ≤ (h21 3 2) ∨ v19 = 1 ∧ (0 : Int) ≤ (h21 3 3) ∧ (h21 3 3) ≤ ((h11 58 1) - 1)) ∧ (h21 36 7) = (h11 36 7) ∧ (h21 1 1) = (h11 1 1) ∧ (h21 90 2) = (h11 90 2) ∧ (h21 0 10) = (h11 0 10) ∧ (h21 0 11) = (h11 0 11) ∧ (h21 0 12) = (h11 0 12) ∧ (h21 0 13) = (h11 0 13) ∧ (h21 3 1) = (h11 3 1) ∧ (h21 36 8) = (h11 36 8) ∧ (h21 46 3) = (h11 46 3) ∧ (h21 46 4) = (h11 46 4) ∧ (h21 49 4) = (h11 49 4) ∧ (h21 49 5) = (h11 49 5) ∧ (h21 64 0) = (h11 64 0) ∧ (h21 76 0) = (h11 76 0) := f18
    clear f18
    have e24 : h21 3 1 = 58 := by omega
    refine ov_ifne (tgt := 50) d_64_45 (by decide) (by omega) (fun c25 => ?_) (fun c25 => ?_)
    · skip
      refine ov_blk (ls2 := [(0, ov_r 3), (1, ov_i (h11 3 3))]) (st2 := [ov_r 3, ov_i 6, ov_i (h11 3 3)]) (pc2 := 54) b_64_50_3 rfl rfl ?_
      refine ov_getf (v := ov_i (h21 3 3)) d_64_54 fl_Reader_81 (zb_3 I22) (zs_3 I22) rfl ?_
      have g26 := rg_3_3 I22
      refine ov_blk (ls2 := [(0, ov_r 3), (1, ov_i ((h11 3 3) + (6 * (h21 3 3))))]) (st2 := [ov_r 3]) (pc2 := 61) b_64_57_4 rfl rfl ?_
      refine ov_cV (as := []) (st := []) (d2 := d - 1) d_64_61 lk_Reader_54 rfl (Nat.le_of_ble_eq_true rfl) (c := 6) (zb_3 I22) (zs_3 I22) ⟨by decide, rfl⟩ (by omega) (c_Reader_wayTold_3_k3_1_58 (d - 1) (by omega) U I22 e24) ?_
      rintro _ _ _ ⟨v28, rfl, rfl, rfl, f27⟩
      show ov_R u d ov_m64 64 [(0, ov_r 3), (1, ov_i ((h11 3 3) + (6 * (h21 3 3))))] [ov_i v28] z20 h21 (P_Reader_readBar_3_k3_1_58 F z h)
      have f29 : -1 ≤ v28 ∧ v28 ≤ 1 := f27
      clear f27
      refine ov_blk (ls2 := [(0, ov_r 3), (1, ov_i ((h11 3 3) + (6 * (h21 3 3)))), (2, ov_i v28)]) (st2 := [ov_i (-1), ov_i v28]) (pc2 := 67) b_64_64_3 rfl rfl ?_
      refine ov_icne (tgt := 76) d_64_67 (by decide) (by omega) (by omega) (fun c30 => ?_) (fun c30 => ?_)
      · skip
        refine ov_blk (ls2 := [(0, ov_r 3), (1, ov_i ((h11 3 3) + (6 * (h21 3 3)))), (2, ov_i v28)]) (st2 := [ov_r 3]) (pc2 := 77) b_64_76_1 rfl rfl ?_
        refine ov_getf (v := ov_r 58) d_64_77 fl_Reader_15 (zb_3 I22) (zs_3 I22) (congrArg ov_r e24) ?_
        refine ov_blk (ls2 := [(0, ov_r 3), (1, ov_i ((h11 3 3) + (6 * (h21 3 3)))), (2, ov_i v28)]) (st2 := [ov_i v28, ov_i ((h11 3 3) + (6 * (h21 3 3))), ov_r 58]) (pc2 := 82) b_64_80_2 rfl rfl ?_
        refine ov_cV (as := [ov_i ((h11 3 3) + (6 * (h21 3 3))), ov_i v28]) (st := []) (d2 := d - 1) d_64_82 lk_Reader_69 rfl (Nat.le_of_ble_eq_true rfl) (c := 9) (zb_58 I22) (zs_58 I22) ⟨by decide, rfl⟩ (by omega) (c_Town_isBarred_58 (d - 1) (by omega) U I22 ((h11 3 3) + (6 * (h21 3 3))) v28 (by omega) (by omega) (by omega)) ?_
        rintro _ _ _ ⟨v32, rfl, rfl, rfl, f31⟩
        show ov_R u d ov_m64 85 [(0, ov_r 3), (1, ov_i ((h11 3 3) + (6 * (h21 3 3)))), (2, ov_i v28)] [ov_i v32] z20 h21 (P_Reader_readBar_3_k3_1_58 F z h)
        have f33 : (v32 = 0 ∨ v32 = 1) := f31
        clear f31
        refine ov_ifeq (tgt := 94) d_64_85 (by decide) (by omega) (fun c34 => ?_) (fun c34 => ?_)
        · skip
          refine ov_blk (ls2 := [(0, ov_r 3), (1, ov_i ((h11 3 3) + (6 * (h21 3 3)))), (2, ov_i v28)]) (st2 := [ov_r 3]) (pc2 := 95) b_64_94_1 rfl rfl ?_
          refine ov_getf (v := ov_r 58) d_64_95 fl_Reader_15 (zb_3 I22) (zs_3 I22) (congrArg ov_r e24) ?_
          refine ov_getf (v := ov_r 63) d_64_98 fl_Reader_187 (zb_58 I22) (zs_58 I22) (congrArg ov_r (rg_58_6 I22)) ?_
          refine ov_blk (ls2 := [(0, ov_r 3), (1, ov_i ((h11 3 3) + (6 * (h21 3 3)))), (2, ov_i v28)]) (st2 := [ov_i ((h11 3 3) + (6 * (h21 3 3))), ov_r 63, ov_i ((h11 3 3) + (6 * (h21 3 3))), ov_r 63]) (pc2 := 103) b_64_101_2 rfl rfl ?_
          refine ov_iald d_64_103 (zb_63 I22) (zs_63 I22) (by omega) ?_
          have g35 := ra_63 I22 ((h11 3 3) + (6 * (h21 3 3)))
          refine ov_blk (ls2 := [(0, ov_r 3), (1, ov_i ((h11 3 3) + (6 * (h21 3 3)))), (2, ov_i v28)]) (st2 := [ov_i (ov_or (h21 63 ((h11 3 3) + (6 * (h21 3 3)))) (ov_shl 1 v28)), ov_i ((h11 3 3) + (6 * (h21 3 3))), ov_r 63]) (pc2 := 108) b_64_104_4 rfl rfl ?_
          have g36 := ov_shlg 1 v28
          have g37 := ov_org (h21 63 ((h11 3 3) + (6 * (h21 3 3)))) (ov_shl 1 v28)
          refine ov_iast d_64_108 (zb_63 I22) (zs_63 I22) (by omega) ?_
          have I38 := ua_63 (k := ((h11 3 3) + (6 * (h21 3 3)))) (x := (ov_or (h21 63 ((h11 3 3) + (6 * (h21 3 3)))) (ov_shl 1 v28))) I22 (by omega) (hw 63 (by decide +kernel))
          refine ov_blk (ls2 := [(0, ov_r 3), (1, ov_i ((h11 3 3) + (6 * (h21 3 3)))), (2, ov_i v28)]) (st2 := [ov_r 3]) (pc2 := 110) b_64_109_1 rfl rfl ?_
          refine ov_getf (v := ov_r 1) d_64_110 fl_Reader_9 (zb_3 I38) (zs_3 I38) (congrArg ov_r (rg_3_0 I38)) ?_
          refine ov_cV (as := []) (st := []) (d2 := d - 1) d_64_113 lk_Reader_75 rfl (Nat.le_of_ble_eq_true rfl) (c := 8) (zb_1 I38) (zs_1 I38) ⟨by decide, rfl⟩ (by omega) (c_Tape_advance_1 (d - 1) (by omega) U I38 (ov_kws hw (by decide +kernel))) ?_
          rintro _ z40 h41 ⟨rfl, I42, f39⟩
          show ov_R u d ov_m64 116 [(0, ov_r 3), (1, ov_i ((h11 3 3) + (6 * (h21 3 3)))), (2, ov_i v28)] [] z40 h41 (P_Reader_readBar_3_k3_1_58 F z h)
          have f43 : (h41 3 3) = (h21 3 3) ∧ (h41 36 7) = (h21 36 7) ∧ (h41 1 1) = (h21 1 1) ∧ (h41 90 2) = (h21 90 2) ∧ (h41 0 10) = (h21 0 10) ∧ (h41 0 11) = (h21 0 11) ∧ (h41 0 12) = (h21 0 12) ∧ (h41 0 13) = (h21 0 13) ∧ (h41 3 1) = (h21 3 1) ∧ (h41 36 8) = (h21 36 8) ∧ (h41 46 3) = (h21 46 3) ∧ (h41 46 4) = (h21 46 4) ∧ (h41 49 4) = (h21 49 4) ∧ (h41 49 5) = (h21 49 5) ∧ (h41 64 0) = (h21 64 0) ∧ (h41 76 0) = (h21 76 0) := f39
          clear f39
          have e44 : h41 3 1 = 58 := by omega
          refine ov_blk (ls2 := [(0, ov_r 3), (1, ov_i ((h11 3 3) + (6 * (h21 3 3)))), (2, ov_i v28)]) (st2 := [ov_i 59, ov_r 3]) (pc2 := 119) b_64_116_2 rfl rfl ?_
          refine ov_cV (as := [ov_i 59]) (st := []) (d2 := d - 1) d_64_119 lk_Reader_92 rfl (Nat.le_of_ble_eq_true rfl) (c := 6) (zb_3 I42) (zs_3 I42) ⟨by decide, rfl⟩ (by omega) (c_Reader_takeSign_3_k3_1_58 (d - 1) (by omega) U I42 (ov_kws hw (by decide +kernel)) 59 e44 (by omega)) ?_
          rintro _ z47 h48 ⟨v46, rfl, I49, f45⟩
          show ov_R u d ov_m64 122 [(0, ov_r 3), (1, ov_i ((h11 3 3) + (6 * (h21 3 3)))), (2, ov_i v28)] [ov_i v46] z47 h48 (P_Reader_readBar_3_k3_1_58 F z h)
          have f50 : (v46 = 0 ∧ 1 ≤ (h48 3 2) ∨ v46 = 1) ∧ (h48 36 7) = (h41 36 7) ∧ (h48 1 1) = (h41 1 1) ∧ (h48 90 2) = (h41 90 2) ∧ (h48 0 10) = (h41 0 10) ∧ (h48 0 11) = (h41 0 11) ∧ (h48 0 12) = (h41 0 12) ∧ (h48 0 13) = (h41 0 13) ∧ (h48 3 1) = (h41 3 1) ∧ (h48 36 8) = (h41 36 8) ∧ (h48 46 3) = (h41 46 3) ∧ (h48 46 4) = (h41 46 4) ∧ (h48 49 4) = (h41 49 4) ∧ (h48 49 5) = (h41 49 5) ∧ (h48 64 0) = (h41 64 0) ∧ (h48 76 0) = (h41 76 0) := f45
          clear f45
          have e51 : h48 3 1 = 58 := by omega
          exact ov_retz (st := []) d_64_122 rfl (by omega) ⟨_, rfl, I49, (by show (v46 = 0 ∧ 1 ≤ (h48 3 2) ∨ v46 = 1) ∧ (h48 36 7) = (h 36 7) ∧ (h48 1 1) = (h 1 1) ∧ (h48 90 2) = (h 90 2) ∧ (h48 0 10) = (h 0 10) ∧ (h48 0 11) = (h 0 11) ∧ (h48 0 12) = (h 0 12) ∧ (h48 0 13) = (h 0 13) ∧ (h48 3 1) = (h 3 1) ∧ (h48 36 8) = (h 36 8) ∧ (h48 46 3) = (h 46 3) ∧ (h48 46 4) = (h 46 4) ∧ (h48 49 4) = (h 49 4) ∧ (h48 49 5) = (h 49 5) ∧ (h48 64 0) = (h 64 0) ∧ (h48 76 0) = (h 76 0); omega)⟩
        · skip
          refine ov_blk (ls2 := [(0, ov_r 3), (1, ov_i ((h11 3 3) + (6 * (h21 3 3)))), (2, ov_i v28)]) (st2 := [ov_i 3, ov_r 3]) (pc2 := 90) b_64_88_2 rfl rfl ?_
          refine ov_cV (as := [ov_i 3]) (st := []) (d2 := d - 1) d_64_90 lk_Reader_58 rfl (Nat.le_of_ble_eq_true rfl) (c := 6) (zb_3 I22) (zs_3 I22) ⟨by decide, rfl⟩ (by omega) (c_Reader_fail_3_k3_1_58 (d - 1) (by omega) U I22 (ov_kws hw (by decide +kernel)) 3 e24 (by omega) (by omega)) ?_
          rintro _ z54 h55 ⟨v53, rfl, I56, f52⟩
          show ov_R u d ov_m64 93 [(0, ov_r 3), (1, ov_i ((h11 3 3) + (6 * (h21 3 3)))), (2, ov_i v28)] [ov_i v53] z54 h55 (P_Reader_readBar_3_k3_1_58 F z h)
          have f57 : v53 = 0 ∧ 1 ≤ (h55 3 2) ∧ (h55 36 7) = (h21 36 7) ∧ (h55 1 1) = (h21 1 1) ∧ (h55 90 2) = (h21 90 2) ∧ (h55 0 10) = (h21 0 10) ∧ (h55 0 11) = (h21 0 11) ∧ (h55 0 12) = (h21 0 12) ∧ (h55 0 13) = (h21 0 13) ∧ (h55 3 1) = (h21 3 1) ∧ (h55 36 8) = (h21 36 8) ∧ (h55 46 3) = (h21 46 3) ∧ (h55 46 4) = (h21 46 4) ∧ (h55 49 4) = (h21 49 4) ∧ (h55 49 5) = (h21 49 5) ∧ (h55 64 0) = (h21 64 0) ∧ (h55 76 0) = (h21 76 0) := f52
          clear f52
          have e58 : h55 3 1 = 58 := by omega
          exact ov_retz (st := []) d_64_93 rfl (by omega) ⟨_, rfl, I56, (by show (v53 = 0 ∧ 1 ≤ (h55 3 2) ∨ v53 = 1) ∧ (h55 36 7) = (h 36 7) ∧ (h55 1 1) = (h 1 1) ∧ (h55 90 2) = (h 90 2) ∧ (h55 0 10) = (h 0 10) ∧ (h55 0 11) = (h 0 11) ∧ (h55 0 12) = (h 0 12) ∧ (h55 0 13) = (h 0 13) ∧ (h55 3 1) = (h 3 1) ∧ (h55 36 8) = (h 36 8) ∧ (h55 46 3) = (h 46 3) ∧ (h55 46 4) = (h 46 4) ∧ (h55 49 4) = (h 49 4) ∧ (h55 49 5) = (h 49 5) ∧ (h55 64 0) = (h 64 0) ∧ (h55 76 0) = (h 76 0); omega)⟩
      · skip
        refine ov_blk (ls2 := [(0, ov_r 3), (1, ov_i ((h11 3 3) + (6 * (h21 3 3)))), (2, ov_i v28)]) (st2 := [ov_i 1, ov_r 3]) (pc2 := 72) b_64_70_2 rfl rfl ?_
        refine ov_cV (as := [ov_i 1]) (st := []) (d2 := d - 1) d_64_72 lk_Reader_58 rfl (Nat.le_of_ble_eq_true rfl) (c := 6) (zb_3 I22) (zs_3 I22) ⟨by decide, rfl⟩ (by omega) (c_Reader_fail_3_k3_1_58 (d - 1) (by omega) U I22 (ov_kws hw (by decide +kernel)) 1 e24 (by omega) (by omega)) ?_
        rintro _ z61 h62 ⟨v60, rfl, I63, f59⟩
        show ov_R u d ov_m64 75 [(0, ov_r 3), (1, ov_i ((h11 3 3) + (6 * (h21 3 3)))), (2, ov_i v28)] [ov_i v60] z61 h62 (P_Reader_readBar_3_k3_1_58 F z h)
        have f64 : v60 = 0 ∧ 1 ≤ (h62 3 2) ∧ (h62 36 7) = (h21 36 7) ∧ (h62 1 1) = (h21 1 1) ∧ (h62 90 2) = (h21 90 2) ∧ (h62 0 10) = (h21 0 10) ∧ (h62 0 11) = (h21 0 11) ∧ (h62 0 12) = (h21 0 12) ∧ (h62 0 13) = (h21 0 13) ∧ (h62 3 1) = (h21 3 1) ∧ (h62 36 8) = (h21 36 8) ∧ (h62 46 3) = (h21 46 3) ∧ (h62 46 4) = (h21 46 4) ∧ (h62 49 4) = (h21 49 4) ∧ (h62 49 5) = (h21 49 5) ∧ (h62 64 0) = (h21 64 0) ∧ (h62 76 0) = (h21 76 0) := f59
        clear f59
        have e65 : h62 3 1 = 58 := by omega
        exact ov_retz (st := []) d_64_75 rfl (by omega) ⟨_, rfl, I63, (by show (v60 = 0 ∧ 1 ≤ (h62 3 2) ∨ v60 = 1) ∧ (h62 36 7) = (h 36 7) ∧ (h62 1 1) = (h 1 1) ∧ (h62 90 2) = (h 90 2) ∧ (h62 0 10) = (h 0 10) ∧ (h62 0 11) = (h 0 11) ∧ (h62 0 12) = (h 0 12) ∧ (h62 0 13) = (h 0 13) ∧ (h62 3 1) = (h 3 1) ∧ (h62 36 8) = (h 36 8) ∧ (h62 46 3) = (h 46 3) ∧ (h62 46 4) = (h 46 4) ∧ (h62 49 4) = (h 49 4) ∧ (h62 49 5) = (h 49 5) ∧ (h62 64 0) = (h 64 0) ∧ (h62 76 0) = (h 76 0); omega)⟩
    · skip
      refine ov_blk (ls2 := [(0, ov_r 3), (1, ov_i (h11 3 3))]) (st2 := [ov_i 0]) (pc2 := 49) b_64_48_1 rfl rfl ?_
      exact ov_retz (st := []) d_64_49 rfl (by omega) ⟨_, rfl, I22, (by show (0 = 0 ∧ 1 ≤ (h21 3 2) ∨ 0 = 1) ∧ (h21 36 7) = (h 36 7) ∧ (h21 1 1) = (h 1 1) ∧ (h21 90 2) = (h 90 2) ∧ (h21 0 10) = (h 0 10) ∧ (h21 0 11) = (h 0 11) ∧ (h21 0 12) = (h 0 12) ∧ (h21 0 13) = (h 0 13) ∧ (h21 3 1) = (h 3 1) ∧ (h21 36 8) = (h 36 8) ∧ (h21 46 3) = (h 46 3) ∧ (h21 46 4) = (h 46 4) ∧ (h21 49 4) = (h 49 4) ∧ (h21 49 5) = (h 49 5) ∧ (h21 64 0) = (h 64 0) ∧ (h21 76 0) = (h 76 0); omega)⟩
  · skip
    refine ov_blk (ls2 := [(0, ov_r 3)]) (st2 := [ov_i 0]) (pc2 := 25) b_64_24_1 rfl rfl ?_
    exact ov_retz (st := []) d_64_25 rfl (by omega) ⟨_, rfl, I12, (by show (0 = 0 ∧ 1 ≤ (h11 3 2) ∨ 0 = 1) ∧ (h11 36 7) = (h 36 7) ∧ (h11 1 1) = (h 1 1) ∧ (h11 90 2) = (h 90 2) ∧ (h11 0 10) = (h 0 10) ∧ (h11 0 11) = (h 0 11) ∧ (h11 0 12) = (h 0 12) ∧ (h11 0 13) = (h 0 13) ∧ (h11 3 1) = (h 3 1) ∧ (h11 36 8) = (h 36 8) ∧ (h11 46 3) = (h 46 3) ∧ (h11 46 4) = (h 46 4) ∧ (h11 49 4) = (h 49 4) ∧ (h11 49 5) = (h 49 5) ∧ (h11 64 0) = (h 64 0) ∧ (h11 76 0) = (h 76 0); omega)⟩
abbrev P_Reader_readGreen_3_k3_1_58 (F : ov_H) (z : ov_Z) (h : ov_H) (c : Int) : Option ov_V → ov_Z → ov_H → Prop := fun r0 z' h' => ∃ r : Int, r0 = some (ov_i r) ∧ ov_I F z' h' ∧ ((r = 0 ∧ 1 ≤ (h' 3 2) ∨ r = 1) ∧ (h' 36 7) = (h 36 7) ∧ (h' 1 1) = (h 1 1) ∧ (h' 90 2) = (h 90 2) ∧ (h' 0 10) = (h 0 10) ∧ (h' 0 11) = (h 0 11) ∧ (h' 0 12) = (h 0 12) ∧ (h' 0 13) = (h 0 13) ∧ (h' 3 1) = (h 3 1) ∧ (h' 36 8) = (h 36 8) ∧ (h' 46 3) = (h 46 3) ∧ (h' 46 4) = (h 46 4) ∧ (h' 49 4) = (h 49 4) ∧ (h' 49 5) = (h 49 5) ∧ (h' 64 0) = (h 64 0) ∧ (h' 76 0) = (h 76 0))
set_option maxHeartbeats 4000000 in
theorem c_Reader_readGreen_3_k3_1_58 {u : ov_U} {F : ov_H} {z : ov_Z} {h : ov_H} (d : Nat) (hd : 6 ≤ d) (U : ov_cap u) (I : ov_I F z h) (hw : ov_kw 6917529027641081866 F) (c : Int) (k0 : h 3 1 = 58) (g_c : ov_g c) (p0 : 0 ≤ c ∧ c ≤ 53) : ov_T u d ov_m63 [ov_r 3, ov_i c] z h (P_Reader_readGreen_3_k3_1_58 F z h c) := by
  refine ov_en rfl (Nat.le_of_ble_eq_true rfl) ?_
  show ov_R u d ov_m63 0 [(0, ov_r 3), (1, ov_i c)] [] z h (P_Reader_readGreen_3_k3_1_58 F z h c)
  refine ov_blk (ls2 := [(0, ov_r 3), (1, ov_i c)]) (st2 := [ov_r 3]) (pc2 := 1) b_63_0_1 rfl rfl ?_
  refine ov_ldc2 (n := 1870030194) d_63_1 kc_Reader_177 ?_
  refine ov_cV (as := [ov_l 1870030194]) (st := []) (d2 := d - 1) d_63_4 lk_Reader_98 rfl (Nat.le_of_ble_eq_true rfl) (c := 6) (zb_3 I) (zs_3 I) ⟨by decide, rfl⟩ (by omega) (c_Reader_takeWord_3_k3_1_58 (d - 1) (by omega) U I (ov_kws hw (by decide +kernel)) 1870030194 k0) ?_
  rintro _ z3 h4 ⟨v2, rfl, I5, f1⟩
  show ov_R u d ov_m63 7 [(0, ov_r 3), (1, ov_i c)] [ov_i v2] z3 h4 (P_Reader_readGreen_3_k3_1_58 F z h c)
  have f6 : (v2 = 0 ∧ 1 ≤ (h4 3 2) ∨ v2 = 1) ∧ (h4 36 7) = (h 36 7) ∧ (h4 1 1) = (h 1 1) ∧ (h4 90 2) = (h 90 2) ∧ (h4 0 10) = (h 0 10) ∧ (h4 0 11) = (h 0 11) ∧ (h4 0 12) = (h 0 12) ∧ (h4 0 13) = (h 0 13) ∧ (h4 3 1) = (h 3 1) ∧ (h4 36 8) = (h 36 8) ∧ (h4 46 3) = (h 46 3) ∧ (h4 46 4) = (h 46 4) ∧ (h4 49 4) = (h 49 4) ∧ (h4 49 5) = (h 49 5) ∧ (h4 64 0) = (h 64 0) ∧ (h4 76 0) = (h 76 0) := f1
  clear f1
  have e7 : h4 3 1 = 58 := by omega
  refine ov_ifeq (tgt := 29) d_63_7 (by decide) (by omega) (fun c8 => ?_) (fun c8 => ?_)
  · skip
    refine ov_blk (ls2 := [(0, ov_r 3), (1, ov_i c)]) (st2 := [ov_i 0]) (pc2 := 30) b_63_29_1 rfl rfl ?_
    exact ov_retz (st := []) d_63_30 rfl (by omega) ⟨_, rfl, I5, (by show (0 = 0 ∧ 1 ≤ (h4 3 2) ∨ 0 = 1) ∧ (h4 36 7) = (h 36 7) ∧ (h4 1 1) = (h 1 1) ∧ (h4 90 2) = (h 90 2) ∧ (h4 0 10) = (h 0 10) ∧ (h4 0 11) = (h 0 11) ∧ (h4 0 12) = (h 0 12) ∧ (h4 0 13) = (h 0 13) ∧ (h4 3 1) = (h 3 1) ∧ (h4 36 8) = (h 36 8) ∧ (h4 46 3) = (h 46 3) ∧ (h4 46 4) = (h 46 4) ∧ (h4 49 4) = (h 49 4) ∧ (h4 49 5) = (h 49 5) ∧ (h4 64 0) = (h 64 0) ∧ (h4 76 0) = (h 76 0); omega)⟩
  · skip
    refine ov_blk (ls2 := [(0, ov_r 3), (1, ov_i c)]) (st2 := [ov_r 3, ov_i 0, ov_r 3]) (pc2 := 13) b_63_10_3 rfl rfl ?_
    refine ov_getf (v := ov_r 58) d_63_13 fl_Reader_15 (zb_3 I5) (zs_3 I5) (congrArg ov_r e7) ?_
    refine ov_getf (v := ov_r 60) d_63_16 fl_Reader_165 (zb_58 I5) (zs_58 I5) (congrArg ov_r (rg_58_3 I5)) ?_
    refine ov_blk (ls2 := [(0, ov_r 3), (1, ov_i c)]) (st2 := [ov_i c, ov_r 60, ov_i 0, ov_r 3]) (pc2 := 20) b_63_19_1 rfl rfl ?_
    refine ov_iald d_63_20 (zb_60 I5) (zs_60 I5) (by omega) ?_
    have g9 := ra_60 I5 c
    refine ov_blk (ls2 := [(0, ov_r 3), (1, ov_i c)]) (st2 := [ov_i ((h4 60 c) - 1), ov_i 0, ov_r 3]) (pc2 := 23) b_63_21_2 rfl rfl ?_
    refine ov_cV (as := [ov_i 0, ov_i ((h4 60 c) - 1)]) (st := []) (d2 := d - 1) d_63_23 lk_Reader_78 rfl (Nat.le_of_ble_eq_true rfl) (c := 6) (zb_3 I5) (zs_3 I5) ⟨by decide, rfl⟩ (by omega) (c_Reader_takeNumber_3_k3_1_58 (d - 1) (by omega) U I5 (ov_kws hw (by decide +kernel)) 0 ((h4 60 c) - 1) e7 (by omega) (by omega)) ?_
    rintro _ z12 h13 ⟨v11, rfl, I14, f10⟩
    show ov_R u d ov_m63 26 [(0, ov_r 3), (1, ov_i c)] [ov_i v11] z12 h13 (P_Reader_readGreen_3_k3_1_58 F z h c)
    have f15 : (v11 = 0 ∧ 1 ≤ (h13 3 2) ∨ v11 = 1 ∧ (0 : Int) ≤ (h13 3 3) ∧ (h13 3 3) ≤ ((h4 60 c) - 1)) ∧ (h13 36 7) = (h4 36 7) ∧ (h13 1 1) = (h4 1 1) ∧ (h13 90 2) = (h4 90 2) ∧ (h13 0 10) = (h4 0 10) ∧ (h13 0 11) = (h4 0 11) ∧ (h13 0 12) = (h4 0 12) ∧ (h13 0 13) = (h4 0 13) ∧ (h13 3 1) = (h4 3 1) ∧ (h13 36 8) = (h4 36 8) ∧ (h13 46 3) = (h4 46 3) ∧ (h13 46 4) = (h4 46 4) ∧ (h13 49 4) = (h4 49 4) ∧ (h13 49 5) = (h4 49 5) ∧ (h13 64 0) = (h4 64 0) ∧ (h13 76 0) = (h4 76 0) := f10
    clear f10
    have e16 : h13 3 1 = 58 := by omega
    refine ov_ifne (tgt := 31) d_63_26 (by decide) (by omega) (fun c17 => ?_) (fun c17 => ?_)
    · skip
      refine ov_blk (ls2 := [(0, ov_r 3), (1, ov_i c)]) (st2 := [ov_r 3]) (pc2 := 32) b_63_31_1 rfl rfl ?_
      refine ov_getf (v := ov_r 58) d_63_32 fl_Reader_15 (zb_3 I14) (zs_3 I14) (congrArg ov_r e16) ?_
      refine ov_getf (v := ov_r 61) d_63_35 fl_Reader_179 (zb_58 I14) (zs_58 I14) (congrArg ov_r (rg_58_4 I14)) ?_
      refine ov_blk (ls2 := [(0, ov_r 3), (1, ov_i c)]) (st2 := [ov_r 3, ov_i c, ov_r 61]) (pc2 := 40) b_63_38_2 rfl rfl ?_
      refine ov_getf (v := ov_i (h13 3 3)) d_63_40 fl_Reader_81 (zb_3 I14) (zs_3 I14) rfl ?_
      have g18 := rg_3_3 I14
      refine ov_iast d_63_43 (zb_61 I14) (zs_61 I14) (by omega) ?_
      have I19 := ua_61 (k := c) (x := (h13 3 3)) I14 (by omega) (hw 61 (by decide +kernel))
      refine ov_blk (ls2 := [(0, ov_r 3), (1, ov_i c)]) (st2 := [ov_r 3]) (pc2 := 45) b_63_44_1 rfl rfl ?_
      refine ov_ldc2 (n := 6713202) d_63_45 kc_Reader_182 ?_
      refine ov_cV (as := [ov_l 6713202]) (st := []) (d2 := d - 1) d_63_48 lk_Reader_98 rfl (Nat.le_of_ble_eq_true rfl) (c := 6) (zb_3 I19) (zs_3 I19) ⟨by decide, rfl⟩ (by omega) (c_Reader_takeWord_3_k3_1_58 (d - 1) (by omega) U I19 (ov_kws hw (by decide +kernel)) 6713202 e16) ?_
      rintro _ z22 h23 ⟨v21, rfl, I24, f20⟩
      show ov_R u d ov_m63 51 [(0, ov_r 3), (1, ov_i c)] [ov_i v21] z22 h23 (P_Reader_readGreen_3_k3_1_58 F z h c)
      have f25 : (v21 = 0 ∧ 1 ≤ (h23 3 2) ∨ v21 = 1) ∧ (h23 36 7) = (h13 36 7) ∧ (h23 1 1) = (h13 1 1) ∧ (h23 90 2) = (h13 90 2) ∧ (h23 0 10) = (h13 0 10) ∧ (h23 0 11) = (h13 0 11) ∧ (h23 0 12) = (h13 0 12) ∧ (h23 0 13) = (h13 0 13) ∧ (h23 3 1) = (h13 3 1) ∧ (h23 36 8) = (h13 36 8) ∧ (h23 46 3) = (h13 46 3) ∧ (h23 46 4) = (h13 46 4) ∧ (h23 49 4) = (h13 49 4) ∧ (h23 49 5) = (h13 49 5) ∧ (h23 64 0) = (h13 64 0) ∧ (h23 76 0) = (h13 76 0) := f20
      clear f20
      have e26 : h23 3 1 = 58 := by omega
      refine ov_ifeq (tgt := 71) d_63_51 (by decide) (by omega) (fun c27 => ?_) (fun c27 => ?_)
      · skip
        refine ov_blk (ls2 := [(0, ov_r 3), (1, ov_i c)]) (st2 := [ov_i 0]) (pc2 := 72) b_63_71_1 rfl rfl ?_
        exact ov_retz (st := []) d_63_72 rfl (by omega) ⟨_, rfl, I24, (by show (0 = 0 ∧ 1 ≤ (h23 3 2) ∨ 0 = 1) ∧ (h23 36 7) = (h 36 7) ∧ (h23 1 1) = (h 1 1) ∧ (h23 90 2) = (h 90 2) ∧ (h23 0 10) = (h 0 10) ∧ (h23 0 11) = (h 0 11) ∧ (h23 0 12) = (h 0 12) ∧ (h23 0 13) = (h 0 13) ∧ (h23 3 1) = (h 3 1) ∧ (h23 36 8) = (h 36 8) ∧ (h23 46 3) = (h 46 3) ∧ (h23 46 4) = (h 46 4) ∧ (h23 49 4) = (h 49 4) ∧ (h23 49 5) = (h 49 5) ∧ (h23 64 0) = (h 64 0) ∧ (h23 76 0) = (h 76 0); omega)⟩
      · skip
        refine ov_blk (ls2 := [(0, ov_r 3), (1, ov_i c)]) (st2 := [ov_r 3, ov_i 0, ov_r 3]) (pc2 := 57) b_63_54_3 rfl rfl ?_
        refine ov_getf (v := ov_r 58) d_63_57 fl_Reader_15 (zb_3 I24) (zs_3 I24) (congrArg ov_r e26) ?_
        refine ov_getf (v := ov_r 60) d_63_60 fl_Reader_165 (zb_58 I24) (zs_58 I24) (congrArg ov_r (rg_58_3 I24)) ?_
        refine ov_blk (ls2 := [(0, ov_r 3), (1, ov_i c)]) (st2 := [ov_i c, ov_r 60, ov_i 0, ov_r 3]) (pc2 := 64) b_63_63_1 rfl rfl ?_
        refine ov_iald d_63_64 (zb_60 I24) (zs_60 I24) (by omega) ?_
        have g28 := ra_60 I24 c
        refine ov_cV (as := [ov_i 0, ov_i (h23 60 c)]) (st := []) (d2 := d - 1) d_63_65 lk_Reader_78 rfl (Nat.le_of_ble_eq_true rfl) (c := 6) (zb_3 I24) (zs_3 I24) ⟨by decide, rfl⟩ (by omega) (c_Reader_takeNumber_3_k3_1_58 (d - 1) (by omega) U I24 (ov_kws hw (by decide +kernel)) 0 (h23 60 c) e26 (by omega) (by omega)) ?_
        rintro _ z31 h32 ⟨v30, rfl, I33, f29⟩
        show ov_R u d ov_m63 68 [(0, ov_r 3), (1, ov_i c)] [ov_i v30] z31 h32 (P_Reader_readGreen_3_k3_1_58 F z h c)
        have f34 : (v30 = 0 ∧ 1 ≤ (h32 3 2) ∨ v30 = 1 ∧ (0 : Int) ≤ (h32 3 3) ∧ (h32 3 3) ≤ (h23 60 c)) ∧ (h32 36 7) = (h23 36 7) ∧ (h32 1 1) = (h23 1 1) ∧ (h32 90 2) = (h23 90 2) ∧ (h32 0 10) = (h23 0 10) ∧ (h32 0 11) = (h23 0 11) ∧ (h32 0 12) = (h23 0 12) ∧ (h32 0 13) = (h23 0 13) ∧ (h32 3 1) = (h23 3 1) ∧ (h32 36 8) = (h23 36 8) ∧ (h32 46 3) = (h23 46 3) ∧ (h32 46 4) = (h23 46 4) ∧ (h32 49 4) = (h23 49 4) ∧ (h32 49 5) = (h23 49 5) ∧ (h32 64 0) = (h23 64 0) ∧ (h32 76 0) = (h23 76 0) := f29
        clear f29
        have e35 : h32 3 1 = 58 := by omega
        refine ov_ifne (tgt := 73) d_63_68 (by decide) (by omega) (fun c36 => ?_) (fun c36 => ?_)
        · skip
          refine ov_blk (ls2 := [(0, ov_r 3), (1, ov_i c)]) (st2 := [ov_r 3]) (pc2 := 74) b_63_73_1 rfl rfl ?_
          refine ov_getf (v := ov_r 58) d_63_74 fl_Reader_15 (zb_3 I33) (zs_3 I33) (congrArg ov_r e35) ?_
          refine ov_getf (v := ov_r 62) d_63_77 fl_Reader_184 (zb_58 I33) (zs_58 I33) (congrArg ov_r (rg_58_5 I33)) ?_
          refine ov_blk (ls2 := [(0, ov_r 3), (1, ov_i c)]) (st2 := [ov_r 3, ov_i c, ov_r 62]) (pc2 := 82) b_63_80_2 rfl rfl ?_
          refine ov_getf (v := ov_i (h32 3 3)) d_63_82 fl_Reader_81 (zb_3 I33) (zs_3 I33) rfl ?_
          have g37 := rg_3_3 I33
          refine ov_iast d_63_85 (zb_62 I33) (zs_62 I33) (by omega) ?_
          have I38 := ua_62 (k := c) (x := (h32 3 3)) I33 (by omega) (hw 62 (by decide +kernel))
          refine ov_blk (ls2 := [(0, ov_r 3), (1, ov_i c)]) (st2 := [ov_i 1]) (pc2 := 87) b_63_86_1 rfl rfl ?_
          exact ov_retz (st := []) d_63_87 rfl (by omega) ⟨_, rfl, I38, (by show (1 = 0 ∧ 1 ≤ (h32 3 2) ∨ 1 = 1) ∧ (h32 36 7) = (h 36 7) ∧ (h32 1 1) = (h 1 1) ∧ (h32 90 2) = (h 90 2) ∧ (h32 0 10) = (h 0 10) ∧ (h32 0 11) = (h 0 11) ∧ (h32 0 12) = (h 0 12) ∧ (h32 0 13) = (h 0 13) ∧ (h32 3 1) = (h 3 1) ∧ (h32 36 8) = (h 36 8) ∧ (h32 46 3) = (h 46 3) ∧ (h32 46 4) = (h 46 4) ∧ (h32 49 4) = (h 49 4) ∧ (h32 49 5) = (h 49 5) ∧ (h32 64 0) = (h 64 0) ∧ (h32 76 0) = (h 76 0); omega)⟩
        · skip
          refine ov_blk (ls2 := [(0, ov_r 3), (1, ov_i c)]) (st2 := [ov_i 0]) (pc2 := 72) b_63_71_1 rfl rfl ?_
          exact ov_retz (st := []) d_63_72 rfl (by omega) ⟨_, rfl, I33, (by show (0 = 0 ∧ 1 ≤ (h32 3 2) ∨ 0 = 1) ∧ (h32 36 7) = (h 36 7) ∧ (h32 1 1) = (h 1 1) ∧ (h32 90 2) = (h 90 2) ∧ (h32 0 10) = (h 0 10) ∧ (h32 0 11) = (h 0 11) ∧ (h32 0 12) = (h 0 12) ∧ (h32 0 13) = (h 0 13) ∧ (h32 3 1) = (h 3 1) ∧ (h32 36 8) = (h 36 8) ∧ (h32 46 3) = (h 46 3) ∧ (h32 46 4) = (h 46 4) ∧ (h32 49 4) = (h 49 4) ∧ (h32 49 5) = (h 49 5) ∧ (h32 64 0) = (h 64 0) ∧ (h32 76 0) = (h 76 0); omega)⟩
    · skip
      refine ov_blk (ls2 := [(0, ov_r 3), (1, ov_i c)]) (st2 := [ov_i 0]) (pc2 := 30) b_63_29_1 rfl rfl ?_
      exact ov_retz (st := []) d_63_30 rfl (by omega) ⟨_, rfl, I14, (by show (0 = 0 ∧ 1 ≤ (h13 3 2) ∨ 0 = 1) ∧ (h13 36 7) = (h 36 7) ∧ (h13 1 1) = (h 1 1) ∧ (h13 90 2) = (h 90 2) ∧ (h13 0 10) = (h 0 10) ∧ (h13 0 11) = (h 0 11) ∧ (h13 0 12) = (h 0 12) ∧ (h13 0 13) = (h 0 13) ∧ (h13 3 1) = (h 3 1) ∧ (h13 36 8) = (h 36 8) ∧ (h13 46 3) = (h 46 3) ∧ (h13 46 4) = (h 46 4) ∧ (h13 49 4) = (h 49 4) ∧ (h13 49 5) = (h 49 5) ∧ (h13 64 0) = (h 64 0) ∧ (h13 76 0) = (h 76 0); omega)⟩
abbrev P_Reader_readRound_3_k3_1_58 (F : ov_H) (z : ov_Z) (h : ov_H) (c : Int) : Option ov_V → ov_Z → ov_H → Prop := fun r0 z' h' => ∃ r : Int, r0 = some (ov_i r) ∧ ov_I F z' h' ∧ ((r = 0 ∧ 1 ≤ (h' 3 2) ∨ r = 1) ∧ (h' 36 7) = (h 36 7) ∧ (h' 1 1) = (h 1 1) ∧ (h' 90 2) = (h 90 2) ∧ (h' 0 10) = (h 0 10) ∧ (h' 0 11) = (h 0 11) ∧ (h' 0 12) = (h 0 12) ∧ (h' 0 13) = (h 0 13) ∧ (h' 3 1) = (h 3 1) ∧ (h' 36 8) = (h 36 8) ∧ (h' 46 3) = (h 46 3) ∧ (h' 46 4) = (h 46 4) ∧ (h' 49 4) = (h 49 4) ∧ (h' 49 5) = (h 49 5) ∧ (h' 64 0) = (h 64 0) ∧ (h' 76 0) = (h 76 0))
set_option maxHeartbeats 4000000 in
theorem c_Reader_readRound_3_k3_1_58 {u : ov_U} {F : ov_H} {z : ov_Z} {h : ov_H} (d : Nat) (hd : 6 ≤ d) (U : ov_cap u) (I : ov_I F z h) (hw : ov_kw 1441151880758558730 F) (c : Int) (k0 : h 3 1 = 58) (g_c : ov_g c) (p0 : 0 ≤ c ∧ c ≤ 53) : ov_T u d ov_m60 [ov_r 3, ov_i c] z h (P_Reader_readRound_3_k3_1_58 F z h c) := by
  refine ov_en rfl (Nat.le_of_ble_eq_true rfl) ?_
  show ov_R u d ov_m60 0 [(0, ov_r 3), (1, ov_i c)] [] z h (P_Reader_readRound_3_k3_1_58 F z h c)
  refine ov_blk (ls2 := [(0, ov_r 3), (1, ov_i c)]) (st2 := [ov_r 3]) (pc2 := 1) b_60_0_1 rfl rfl ?_
  refine ov_ldc2 (n := 491496238692) d_60_1 kc_Reader_163 ?_
  refine ov_cV (as := [ov_l 491496238692]) (st := []) (d2 := d - 1) d_60_4 lk_Reader_98 rfl (Nat.le_of_ble_eq_true rfl) (c := 6) (zb_3 I) (zs_3 I) ⟨by decide, rfl⟩ (by omega) (c_Reader_takeWord_3_k3_1_58 (d - 1) (by omega) U I (ov_kws hw (by decide +kernel)) 491496238692 k0) ?_
  rintro _ z3 h4 ⟨v2, rfl, I5, f1⟩
  show ov_R u d ov_m60 7 [(0, ov_r 3), (1, ov_i c)] [ov_i v2] z3 h4 (P_Reader_readRound_3_k3_1_58 F z h c)
  have f6 : (v2 = 0 ∧ 1 ≤ (h4 3 2) ∨ v2 = 1) ∧ (h4 36 7) = (h 36 7) ∧ (h4 1 1) = (h 1 1) ∧ (h4 90 2) = (h 90 2) ∧ (h4 0 10) = (h 0 10) ∧ (h4 0 11) = (h 0 11) ∧ (h4 0 12) = (h 0 12) ∧ (h4 0 13) = (h 0 13) ∧ (h4 3 1) = (h 3 1) ∧ (h4 36 8) = (h 36 8) ∧ (h4 46 3) = (h 46 3) ∧ (h4 46 4) = (h 46 4) ∧ (h4 49 4) = (h 49 4) ∧ (h4 49 5) = (h 49 5) ∧ (h4 64 0) = (h 64 0) ∧ (h4 76 0) = (h 76 0) := f1
  clear f1
  have e7 : h4 3 1 = 58 := by omega
  refine ov_ifeq (tgt := 20) d_60_7 (by decide) (by omega) (fun c8 => ?_) (fun c8 => ?_)
  · skip
    refine ov_blk (ls2 := [(0, ov_r 3), (1, ov_i c)]) (st2 := [ov_i 0]) (pc2 := 21) b_60_20_1 rfl rfl ?_
    exact ov_retz (st := []) d_60_21 rfl (by omega) ⟨_, rfl, I5, (by show (0 = 0 ∧ 1 ≤ (h4 3 2) ∨ 0 = 1) ∧ (h4 36 7) = (h 36 7) ∧ (h4 1 1) = (h 1 1) ∧ (h4 90 2) = (h 90 2) ∧ (h4 0 10) = (h 0 10) ∧ (h4 0 11) = (h 0 11) ∧ (h4 0 12) = (h 0 12) ∧ (h4 0 13) = (h 0 13) ∧ (h4 3 1) = (h 3 1) ∧ (h4 36 8) = (h 36 8) ∧ (h4 46 3) = (h 46 3) ∧ (h4 46 4) = (h 46 4) ∧ (h4 49 4) = (h 49 4) ∧ (h4 49 5) = (h 49 5) ∧ (h4 64 0) = (h 64 0) ∧ (h4 76 0) = (h 76 0); omega)⟩
  · skip
    refine ov_blk (ls2 := [(0, ov_r 3), (1, ov_i c)]) (st2 := [ov_i 60, ov_i 1, ov_r 3]) (pc2 := 14) b_60_10_3 rfl rfl ?_
    refine ov_cV (as := [ov_i 1, ov_i 60]) (st := []) (d2 := d - 1) d_60_14 lk_Reader_143 rfl (Nat.le_of_ble_eq_true rfl) (c := 6) (zb_3 I5) (zs_3 I5) ⟨by decide, rfl⟩ (by omega) (c_Reader_isNumber_3_k3_1_58 (d - 1) (by omega) U I5 (ov_kws hw (by decide +kernel)) 1 60 e7 (by omega) (by omega)) ?_
    rintro _ z11 h12 ⟨v10, rfl, I13, f9⟩
    show ov_R u d ov_m60 17 [(0, ov_r 3), (1, ov_i c)] [ov_i v10] z11 h12 (P_Reader_readRound_3_k3_1_58 F z h c)
    have f14 : (v10 = 0 ∧ 1 ≤ (h12 3 2) ∨ v10 = 1 ∧ (1 : Int) ≤ (h12 1 4) ∧ (h12 1 4) ≤ (60 : Int)) ∧ (h12 36 7) = (h4 36 7) ∧ (h12 1 1) = (h4 1 1) ∧ (h12 90 2) = (h4 90 2) ∧ (h12 0 10) = (h4 0 10) ∧ (h12 0 11) = (h4 0 11) ∧ (h12 0 12) = (h4 0 12) ∧ (h12 0 13) = (h4 0 13) ∧ (h12 3 1) = (h4 3 1) ∧ (h12 36 8) = (h4 36 8) ∧ (h12 46 3) = (h4 46 3) ∧ (h12 46 4) = (h4 46 4) ∧ (h12 49 4) = (h4 49 4) ∧ (h12 49 5) = (h4 49 5) ∧ (h12 64 0) = (h4 64 0) ∧ (h12 76 0) = (h4 76 0) := f9
    clear f9
    have e15 : h12 3 1 = 58 := by omega
    refine ov_ifne (tgt := 22) d_60_17 (by decide) (by omega) (fun c16 => ?_) (fun c16 => ?_)
    · skip
      refine ov_blk (ls2 := [(0, ov_r 3), (1, ov_i c)]) (st2 := [ov_r 3]) (pc2 := 23) b_60_22_1 rfl rfl ?_
      refine ov_getf (v := ov_r 58) d_60_23 fl_Reader_15 (zb_3 I13) (zs_3 I13) (congrArg ov_r e15) ?_
      refine ov_getf (v := ov_r 60) d_60_26 fl_Reader_165 (zb_58 I13) (zs_58 I13) (congrArg ov_r (rg_58_3 I13)) ?_
      refine ov_blk (ls2 := [(0, ov_r 3), (1, ov_i c)]) (st2 := [ov_r 3, ov_i c, ov_r 60]) (pc2 := 31) b_60_29_2 rfl rfl ?_
      refine ov_getf (v := ov_r 1) d_60_31 fl_Reader_9 (zb_3 I13) (zs_3 I13) (congrArg ov_r (rg_3_0 I13)) ?_
      refine ov_getf (v := ov_i (h12 1 4)) d_60_34 fl_Reader_146 (zb_1 I13) (zs_1 I13) rfl ?_
      have g17 := rg_1_4 I13
      refine ov_iast d_60_37 (zb_60 I13) (zs_60 I13) (by omega) ?_
      have I18 := ua_60 (k := c) (x := (h12 1 4)) I13 (by omega) (hw 60 (by decide +kernel))
      refine ov_blk (ls2 := [(0, ov_r 3), (1, ov_i c)]) (st2 := [ov_r 3]) (pc2 := 39) b_60_38_1 rfl rfl ?_
      refine ov_getf (v := ov_r 58) d_60_39 fl_Reader_15 (zb_3 I18) (zs_3 I18) (congrArg ov_r e15) ?_
      refine ov_blk (ls2 := [(0, ov_r 3), (1, ov_i c)]) (st2 := [ov_i c, ov_r 58]) (pc2 := 43) b_60_42_1 rfl rfl ?_
      refine ov_cV (as := [ov_i c]) (st := []) (d2 := d - 1) d_60_43 lk_Reader_168 rfl (Nat.le_of_ble_eq_true rfl) (c := 9) (zb_58 I18) (zs_58 I18) ⟨by decide, rfl⟩ (by omega) (c_Town_isTimed_58 (d - 1) (by omega) U I18 c (by omega) (by omega)) ?_
      rintro _ _ _ ⟨v20, rfl, rfl, rfl, f19⟩
      show ov_R u d ov_m60 46 [(0, ov_r 3), (1, ov_i c)] [ov_i v20] z11 (ov_up h12 60 c (h12 1 4)) (P_Reader_readRound_3_k3_1_58 F z h c)
      have f21 : (v20 = 0 ∨ v20 = 1) := f19
      clear f19
      refine ov_ifeq (tgt := 88) d_60_46 (by decide) (by omega) (fun c22 => ?_) (fun c22 => ?_)
      · skip
        refine ov_blk (ls2 := [(0, ov_r 3), (1, ov_i c)]) (st2 := [ov_r 3]) (pc2 := 89) b_60_88_1 rfl rfl ?_
        refine ov_getf (v := ov_r 1) d_60_89 fl_Reader_9 (zb_3 I18) (zs_3 I18) (congrArg ov_r (rg_3_0 I18)) ?_
        refine ov_cV (as := []) (st := []) (d2 := d - 1) d_60_92 lk_Reader_75 rfl (Nat.le_of_ble_eq_true rfl) (c := 8) (zb_1 I18) (zs_1 I18) ⟨by decide, rfl⟩ (by omega) (c_Tape_advance_1 (d - 1) (by omega) U I18 (ov_kws hw (by decide +kernel))) ?_
        rintro _ z24 h25 ⟨rfl, I26, f23⟩
        show ov_R u d ov_m60 95 [(0, ov_r 3), (1, ov_i c)] [] z24 h25 (P_Reader_readRound_3_k3_1_58 F z h c)
        have f27 : (h25 3 3) = (h12 3 3) ∧ (h25 36 7) = (h12 36 7) ∧ (h25 1 1) = (h12 1 1) ∧ (h25 90 2) = (h12 90 2) ∧ (h25 0 10) = (h12 0 10) ∧ (h25 0 11) = (h12 0 11) ∧ (h25 0 12) = (h12 0 12) ∧ (h25 0 13) = (h12 0 13) ∧ (h25 3 1) = (h12 3 1) ∧ (h25 36 8) = (h12 36 8) ∧ (h25 46 3) = (h12 46 3) ∧ (h25 46 4) = (h12 46 4) ∧ (h25 49 4) = (h12 49 4) ∧ (h25 49 5) = (h12 49 5) ∧ (h25 64 0) = (h12 64 0) ∧ (h25 76 0) = (h12 76 0) := f23
        clear f23
        have e28 : h25 3 1 = 58 := by omega
        refine ov_blk (ls2 := [(0, ov_r 3), (1, ov_i c)]) (st2 := [ov_i 1]) (pc2 := 96) b_60_95_1 rfl rfl ?_
        exact ov_retz (st := []) d_60_96 rfl (by omega) ⟨_, rfl, I26, (by show (1 = 0 ∧ 1 ≤ (h25 3 2) ∨ 1 = 1) ∧ (h25 36 7) = (h 36 7) ∧ (h25 1 1) = (h 1 1) ∧ (h25 90 2) = (h 90 2) ∧ (h25 0 10) = (h 0 10) ∧ (h25 0 11) = (h 0 11) ∧ (h25 0 12) = (h 0 12) ∧ (h25 0 13) = (h 0 13) ∧ (h25 3 1) = (h 3 1) ∧ (h25 36 8) = (h 36 8) ∧ (h25 46 3) = (h 46 3) ∧ (h25 46 4) = (h 46 4) ∧ (h25 49 4) = (h 49 4) ∧ (h25 49 5) = (h 49 5) ∧ (h25 64 0) = (h 64 0) ∧ (h25 76 0) = (h 76 0); omega)⟩
      · skip
        refine ov_blk (ls2 := [(0, ov_r 3), (1, ov_i c)]) (st2 := [ov_r 3]) (pc2 := 50) b_60_49_1 rfl rfl ?_
        refine ov_getf (v := ov_r 58) d_60_50 fl_Reader_15 (zb_3 I18) (zs_3 I18) (congrArg ov_r e15) ?_
        refine ov_getf (v := ov_i (h12 58 10)) d_60_53 fl_Reader_171 (zb_58 I18) (zs_58 I18) rfl ?_
        have g29 := rg_58_10 I13
        refine ov_blk (ls2 := [(0, ov_r 3), (1, ov_i c)]) (st2 := [ov_r 3, ov_i (h12 58 10)]) (pc2 := 57) b_60_56_1 rfl rfl ?_
        refine ov_getf (v := ov_r 1) d_60_57 fl_Reader_9 (zb_3 I18) (zs_3 I18) (congrArg ov_r (rg_3_0 I18)) ?_
        refine ov_getf (v := ov_i (h12 1 4)) d_60_60 fl_Reader_146 (zb_1 I18) (zs_1 I18) rfl ?_
        refine ov_cSN (as := [ov_i (h12 58 10), ov_i (h12 1 4)]) (st := []) (d2 := d - 1) d_60_63 lk_Reader_174 rfl (Nat.le_of_ble_eq_true rfl) (by omega) (c_OF_commonMultiple (d - 1) (by omega) U I18 (h12 58 10) (h12 1 4) (by omega) (by omega)) ?_
        rintro _ _ _ ⟨v32, rfl, rfl, rfl, f31⟩
        show ov_R u d ov_m60 66 [(0, ov_r 3), (1, ov_i c)] [ov_i v32] z11 (ov_up h12 60 c (h12 1 4)) (P_Reader_readRound_3_k3_1_58 F z h c)
        have f33 : -2147483648 ≤ v32 ∧ v32 ≤ 2147483647 ∧ (0 ≤ (h12 58 10) → (h12 58 10) ≤ 1200 → 0 ≤ (h12 1 4) → (h12 1 4) ≤ 60 → 0 ≤ v32 ∧ v32 ≤ 72000) := f31
        clear f31
        refine ov_blk (ls2 := [(0, ov_r 3), (1, ov_i c), (2, ov_i v32)]) (st2 := [ov_i 1200, ov_i v32]) (pc2 := 71) b_60_66_3 rfl rfl ?_
        refine ov_icle (tgt := 80) d_60_71 (by decide) (by omega) (by omega) (fun c34 => ?_) (fun c34 => ?_)
        · skip
          refine ov_blk (ls2 := [(0, ov_r 3), (1, ov_i c), (2, ov_i v32)]) (st2 := [ov_r 3]) (pc2 := 81) b_60_80_1 rfl rfl ?_
          refine ov_getf (v := ov_r 58) d_60_81 fl_Reader_15 (zb_3 I18) (zs_3 I18) (congrArg ov_r e15) ?_
          refine ov_blk (ls2 := [(0, ov_r 3), (1, ov_i c), (2, ov_i v32)]) (st2 := [ov_i v32, ov_r 58]) (pc2 := 85) b_60_84_1 rfl rfl ?_
          refine ov_putf (x := v32) d_60_85 fl_Reader_171 (zb_58 I18) (zs_58 I18) rfl nk_0 rfl ?_
          have I35 := up_58_10 (x := v32) I18 (by omega) (hw 58 (by decide +kernel))
          refine ov_blk (ls2 := [(0, ov_r 3), (1, ov_i c), (2, ov_i v32)]) (st2 := [ov_r 3]) (pc2 := 89) b_60_88_1 rfl rfl ?_
          refine ov_getf (v := ov_r 1) d_60_89 fl_Reader_9 (zb_3 I35) (zs_3 I35) (congrArg ov_r (rg_3_0 I35)) ?_
          refine ov_cV (as := []) (st := []) (d2 := d - 1) d_60_92 lk_Reader_75 rfl (Nat.le_of_ble_eq_true rfl) (c := 8) (zb_1 I35) (zs_1 I35) ⟨by decide, rfl⟩ (by omega) (c_Tape_advance_1 (d - 1) (by omega) U I35 (ov_kws hw (by decide +kernel))) ?_
          rintro _ z37 h38 ⟨rfl, I39, f36⟩
          show ov_R u d ov_m60 95 [(0, ov_r 3), (1, ov_i c), (2, ov_i v32)] [] z37 h38 (P_Reader_readRound_3_k3_1_58 F z h c)
          have f40 : (h38 3 3) = (h12 3 3) ∧ (h38 36 7) = (h12 36 7) ∧ (h38 1 1) = (h12 1 1) ∧ (h38 90 2) = (h12 90 2) ∧ (h38 0 10) = (h12 0 10) ∧ (h38 0 11) = (h12 0 11) ∧ (h38 0 12) = (h12 0 12) ∧ (h38 0 13) = (h12 0 13) ∧ (h38 3 1) = (h12 3 1) ∧ (h38 36 8) = (h12 36 8) ∧ (h38 46 3) = (h12 46 3) ∧ (h38 46 4) = (h12 46 4) ∧ (h38 49 4) = (h12 49 4) ∧ (h38 49 5) = (h12 49 5) ∧ (h38 64 0) = (h12 64 0) ∧ (h38 76 0) = (h12 76 0) := f36
          clear f36
          have e41 : h38 3 1 = 58 := by omega
          refine ov_blk (ls2 := [(0, ov_r 3), (1, ov_i c), (2, ov_i v32)]) (st2 := [ov_i 1]) (pc2 := 96) b_60_95_1 rfl rfl ?_
          exact ov_retz (st := []) d_60_96 rfl (by omega) ⟨_, rfl, I39, (by show (1 = 0 ∧ 1 ≤ (h38 3 2) ∨ 1 = 1) ∧ (h38 36 7) = (h 36 7) ∧ (h38 1 1) = (h 1 1) ∧ (h38 90 2) = (h 90 2) ∧ (h38 0 10) = (h 0 10) ∧ (h38 0 11) = (h 0 11) ∧ (h38 0 12) = (h 0 12) ∧ (h38 0 13) = (h 0 13) ∧ (h38 3 1) = (h 3 1) ∧ (h38 36 8) = (h 36 8) ∧ (h38 46 3) = (h 46 3) ∧ (h38 46 4) = (h 46 4) ∧ (h38 49 4) = (h 49 4) ∧ (h38 49 5) = (h 49 5) ∧ (h38 64 0) = (h 64 0) ∧ (h38 76 0) = (h 76 0); omega)⟩
        · skip
          refine ov_blk (ls2 := [(0, ov_r 3), (1, ov_i c), (2, ov_i v32)]) (st2 := [ov_i 4, ov_r 3]) (pc2 := 76) b_60_74_2 rfl rfl ?_
          refine ov_cV (as := [ov_i 4]) (st := []) (d2 := d - 1) d_60_76 lk_Reader_58 rfl (Nat.le_of_ble_eq_true rfl) (c := 6) (zb_3 I18) (zs_3 I18) ⟨by decide, rfl⟩ (by omega) (c_Reader_fail_3_k3_1_58 (d - 1) (by omega) U I18 (ov_kws hw (by decide +kernel)) 4 e15 (by omega) (by omega)) ?_
          rintro _ z44 h45 ⟨v43, rfl, I46, f42⟩
          show ov_R u d ov_m60 79 [(0, ov_r 3), (1, ov_i c), (2, ov_i v32)] [ov_i v43] z44 h45 (P_Reader_readRound_3_k3_1_58 F z h c)
          have f47 : v43 = 0 ∧ 1 ≤ (h45 3 2) ∧ (h45 36 7) = (h12 36 7) ∧ (h45 1 1) = (h12 1 1) ∧ (h45 90 2) = (h12 90 2) ∧ (h45 0 10) = (h12 0 10) ∧ (h45 0 11) = (h12 0 11) ∧ (h45 0 12) = (h12 0 12) ∧ (h45 0 13) = (h12 0 13) ∧ (h45 3 1) = (h12 3 1) ∧ (h45 36 8) = (h12 36 8) ∧ (h45 46 3) = (h12 46 3) ∧ (h45 46 4) = (h12 46 4) ∧ (h45 49 4) = (h12 49 4) ∧ (h45 49 5) = (h12 49 5) ∧ (h45 64 0) = (h12 64 0) ∧ (h45 76 0) = (h12 76 0) := f42
          clear f42
          have e48 : h45 3 1 = 58 := by omega
          exact ov_retz (st := []) d_60_79 rfl (by omega) ⟨_, rfl, I46, (by show (v43 = 0 ∧ 1 ≤ (h45 3 2) ∨ v43 = 1) ∧ (h45 36 7) = (h 36 7) ∧ (h45 1 1) = (h 1 1) ∧ (h45 90 2) = (h 90 2) ∧ (h45 0 10) = (h 0 10) ∧ (h45 0 11) = (h 0 11) ∧ (h45 0 12) = (h 0 12) ∧ (h45 0 13) = (h 0 13) ∧ (h45 3 1) = (h 3 1) ∧ (h45 36 8) = (h 36 8) ∧ (h45 46 3) = (h 46 3) ∧ (h45 46 4) = (h 46 4) ∧ (h45 49 4) = (h 49 4) ∧ (h45 49 5) = (h 49 5) ∧ (h45 64 0) = (h 64 0) ∧ (h45 76 0) = (h 76 0); omega)⟩
    · skip
      refine ov_blk (ls2 := [(0, ov_r 3), (1, ov_i c)]) (st2 := [ov_i 0]) (pc2 := 21) b_60_20_1 rfl rfl ?_
      exact ov_retz (st := []) d_60_21 rfl (by omega) ⟨_, rfl, I13, (by show (0 = 0 ∧ 1 ≤ (h12 3 2) ∨ 0 = 1) ∧ (h12 36 7) = (h 36 7) ∧ (h12 1 1) = (h 1 1) ∧ (h12 90 2) = (h 90 2) ∧ (h12 0 10) = (h 0 10) ∧ (h12 0 11) = (h 0 11) ∧ (h12 0 12) = (h 0 12) ∧ (h12 0 13) = (h 0 13) ∧ (h12 3 1) = (h 3 1) ∧ (h12 36 8) = (h 36 8) ∧ (h12 46 3) = (h 46 3) ∧ (h12 46 4) = (h 46 4) ∧ (h12 49 4) = (h 49 4) ∧ (h12 49 5) = (h 49 5) ∧ (h12 64 0) = (h 64 0) ∧ (h12 76 0) = (h 76 0); omega)⟩
abbrev P_Reader_readLight_3_k3_1_58 (F : ov_H) (z : ov_Z) (h : ov_H)  : Option ov_V → ov_Z → ov_H → Prop := fun r0 z' h' => ∃ r : Int, r0 = some (ov_i r) ∧ ov_I F z' h' ∧ ((r = 0 ∧ 1 ≤ (h' 3 2) ∨ r = 1) ∧ (h' 36 7) = (h 36 7) ∧ (h' 1 1) = (h 1 1) ∧ (h' 90 2) = (h 90 2) ∧ (h' 0 10) = (h 0 10) ∧ (h' 0 11) = (h 0 11) ∧ (h' 0 12) = (h 0 12) ∧ (h' 0 13) = (h 0 13) ∧ (h' 3 1) = (h 3 1) ∧ (h' 36 8) = (h 36 8) ∧ (h' 46 3) = (h 46 3) ∧ (h' 46 4) = (h 46 4) ∧ (h' 49 4) = (h 49 4) ∧ (h' 49 5) = (h 49 5) ∧ (h' 64 0) = (h 64 0) ∧ (h' 76 0) = (h 76 0))
set_option maxHeartbeats 4000000 in
theorem c_Reader_readLight_3_k3_1_58 {u : ov_U} {F : ov_H} {z : ov_Z} {h : ov_H} (d : Nat) (hd : 7 ≤ d) (U : ov_cap u) (I : ov_I F z h) (hw : ov_kw 8935141660703064074 F) (k0 : h 3 1 = 58) : ov_T u d ov_m58 [ov_r 3] z h (P_Reader_readLight_3_k3_1_58 F z h) := by
  refine ov_en rfl (Nat.le_of_ble_eq_true rfl) ?_
  show ov_R u d ov_m58 0 [(0, ov_r 3)] [] z h (P_Reader_readLight_3_k3_1_58 F z h)
  refine ov_blk (ls2 := [(0, ov_r 3)]) (st2 := [ov_r 3]) (pc2 := 1) b_58_0_1 rfl rfl ?_
  refine ov_getf (v := ov_r 1) d_58_1 fl_Reader_9 (zb_3 I) (zs_3 I) (congrArg ov_r (rg_3_0 I)) ?_
  refine ov_cV (as := []) (st := []) (d2 := d - 1) d_58_4 lk_Reader_75 rfl (Nat.le_of_ble_eq_true rfl) (c := 8) (zb_1 I) (zs_1 I) ⟨by decide, rfl⟩ (by omega) (c_Tape_advance_1 (d - 1) (by omega) U I (ov_kws hw (by decide +kernel))) ?_
  rintro _ z2 h3 ⟨rfl, I4, f1⟩
  show ov_R u d ov_m58 7 [(0, ov_r 3)] [] z2 h3 (P_Reader_readLight_3_k3_1_58 F z h)
  have f5 : (h3 3 3) = (h 3 3) ∧ (h3 36 7) = (h 36 7) ∧ (h3 1 1) = (h 1 1) ∧ (h3 90 2) = (h 90 2) ∧ (h3 0 10) = (h 0 10) ∧ (h3 0 11) = (h 0 11) ∧ (h3 0 12) = (h 0 12) ∧ (h3 0 13) = (h 0 13) ∧ (h3 3 1) = (h 3 1) ∧ (h3 36 8) = (h 36 8) ∧ (h3 46 3) = (h 46 3) ∧ (h3 46 4) = (h 46 4) ∧ (h3 49 4) = (h 49 4) ∧ (h3 49 5) = (h 49 5) ∧ (h3 64 0) = (h 64 0) ∧ (h3 76 0) = (h 76 0) := f1
  clear f1
  have e6 : h3 3 1 = 58 := by omega
  refine ov_blk (ls2 := [(0, ov_r 3)]) (st2 := [ov_r 3, ov_i 0, ov_r 3]) (pc2 := 10) b_58_7_3 rfl rfl ?_
  refine ov_getf (v := ov_r 58) d_58_10 fl_Reader_15 (zb_3 I4) (zs_3 I4) (congrArg ov_r e6) ?_
  refine ov_getf (v := ov_i (h3 58 0)) d_58_13 fl_Reader_102 (zb_58 I4) (zs_58 I4) rfl ?_
  have g7 := rg_58_0 I4
  refine ov_blk (ls2 := [(0, ov_r 3)]) (st2 := [ov_i ((h3 58 0) - 1), ov_i 0, ov_r 3]) (pc2 := 18) b_58_16_2 rfl rfl ?_
  refine ov_cV (as := [ov_i 0, ov_i ((h3 58 0) - 1)]) (st := []) (d2 := d - 1) d_58_18 lk_Reader_78 rfl (Nat.le_of_ble_eq_true rfl) (c := 6) (zb_3 I4) (zs_3 I4) ⟨by decide, rfl⟩ (by omega) (c_Reader_takeNumber_3_k3_1_58 (d - 1) (by omega) U I4 (ov_kws hw (by decide +kernel)) 0 ((h3 58 0) - 1) e6 (by omega) (by omega)) ?_
  rintro _ z10 h11 ⟨v9, rfl, I12, f8⟩
  show ov_R u d ov_m58 21 [(0, ov_r 3)] [ov_i v9] z10 h11 (P_Reader_readLight_3_k3_1_58 F z h)
  have f13 : (v9 = 0 ∧ 1 ≤ (h11 3 2) ∨ v9 = 1 ∧ (0 : Int) ≤ (h11 3 3) ∧ (h11 3 3) ≤ ((h3 58 0) - 1)) ∧ (h11 36 7) = (h3 36 7) ∧ (h11 1 1) = (h3 1 1) ∧ (h11 90 2) = (h3 90 2) ∧ (h11 0 10) = (h3 0 10) ∧ (h11 0 11) = (h3 0 11) ∧ (h11 0 12) = (h3 0 12) ∧ (h11 0 13) = (h3 0 13) ∧ (h11 3 1) = (h3 3 1) ∧ (h11 36 8) = (h3 36 8) ∧ (h11 46 3) = (h3 46 3) ∧ (h11 46 4) = (h3 46 4) ∧ (h11 49 4) = (h3 49 4) ∧ (h11 49 5) = (h3 49 5) ∧ (h11 64 0) = (h3 64 0) ∧ (h11 76 0) = (h3 76 0) := f8
  clear f8
  have e14 : h11 3 1 = 58 := by omega
  refine ov_ifne (tgt := 26) d_58_21 (by decide) (by omega) (fun c15 => ?_) (fun c15 => ?_)
  · skip
    refine ov_blk (ls2 := [(0, ov_r 3)]) (st2 := [ov_r 3]) (pc2 := 27) b_58_26_1 rfl rfl ?_
    refine ov_getf (v := ov_i (h11 3 3)) d_58_27 fl_Reader_81 (zb_3 I12) (zs_3 I12) rfl ?_
    have g16 := rg_3_3 I12
    refine ov_blk (ls2 := [(0, ov_r 3), (1, ov_i (h11 3 3))]) (st2 := [ov_r 3, ov_i 0, ov_r 3]) (pc2 := 34) b_58_30_4 rfl rfl ?_
    refine ov_getf (v := ov_r 58) d_58_34 fl_Reader_15 (zb_3 I12) (zs_3 I12) (congrArg ov_r e14) ?_
    refine ov_getf (v := ov_i (h11 58 1)) d_58_37 fl_Reader_105 (zb_58 I12) (zs_58 I12) rfl ?_
    have g17 := rg_58_1 I12
    refine ov_blk (ls2 := [(0, ov_r 3), (1, ov_i (h11 3 3))]) (st2 := [ov_i ((h11 58 1) - 1), ov_i 0, ov_r 3]) (pc2 := 42) b_58_40_2 rfl rfl ?_
    refine ov_cV (as := [ov_i 0, ov_i ((h11 58 1) - 1)]) (st := []) (d2 := d - 1) d_58_42 lk_Reader_143 rfl (Nat.le_of_ble_eq_true rfl) (c := 6) (zb_3 I12) (zs_3 I12) ⟨by decide, rfl⟩ (by omega) (c_Reader_isNumber_3_k3_1_58 (d - 1) (by omega) U I12 (ov_kws hw (by decide +kernel)) 0 ((h11 58 1) - 1) e14 (by omega) (by omega)) ?_
    rintro _ z20 h21 ⟨v19, rfl, I22, f18⟩
    show ov_R u d ov_m58 45 [(0, ov_r 3), (1, ov_i (h11 3 3))] [ov_i v19] z20 h21 (P_Reader_readLight_3_k3_1_58 F z h)
    have f23 : (v19 = 0 ∧ 1 ≤ (h21 3 2) ∨ v19 = 1 ∧ (0 : Int) ≤ (h21 1 4) ∧ (h21 1 4) ≤ ((h11 58 1) - 1)) ∧ (h21 36 7) = (h11 36 7) ∧ (h21 1 1) = (h11 1 1) ∧ (h21 90 2) = (h11 90 2) ∧ (h21 0 10) = (h11 0 10) ∧ (h21 0 11) = (h11 0 11) ∧ (h21 0 12) = (h11 0 12) ∧ (h21 0 13) = (h11 0 13) ∧ (h21 3 1) = (h11 3 1) ∧ (h21 36 8) = (h11 36 8) ∧ (h21 46 3) = (h11 46 3) ∧ (h21 46 4) = (h11 46 4) ∧ (h21 49 4) = (h11 49 4) ∧ (h21 49 5) = (h11 49 5) ∧ (h21 64 0) = (h11 64 0) ∧ (h21 76 0) = (h11 76 0) := f18
    clear f18
    have e24 : h21 3 1 = 58 := by omega
    refine ov_ifne (tgt := 50) d_58_45 (by decide) (by omega) (fun c25 => ?_) (fun c25 => ?_)
    · skip
      refine ov_blk (ls2 := [(0, ov_r 3), (1, ov_i (h11 3 3))]) (st2 := [ov_r 3, ov_i 6, ov_i (h11 3 3)]) (pc2 := 54) b_58_50_3 rfl rfl ?_
      refine ov_getf (v := ov_r 1) d_58_54 fl_Reader_9 (zb_3 I22) (zs_3 I22) (congrArg ov_r (rg_3_0 I22)) ?_
      refine ov_getf (v := ov_i (h21 1 4)) d_58_57 fl_Reader_146 (zb_1 I22) (zs_1 I22) rfl ?_
      have g26 := rg_1_4 I22
      refine ov_blk (ls2 := [(0, ov_r 3), (1, ov_i (h11 3 3))]) (st2 := [ov_i ((h11 3 3) + (6 * (h21 1 4)))]) (pc2 := 62) b_58_60_2 rfl rfl ?_
      refine ov_havw (fun w27 gw27 qw27 => ?_)
      refine ov_blk (ls2 := [(0, ov_r 3), (1, ov_i w27)]) (st2 := [ov_r 3]) (pc2 := 64) b_58_62_2 rfl rfl ?_
      refine ov_getf (v := ov_r 58) d_58_64 fl_Reader_15 (zb_3 I22) (zs_3 I22) (congrArg ov_r e24) ?_
      refine ov_getf (v := ov_r 59) d_58_67 fl_Reader_147 (zb_58 I22) (zs_58 I22) (congrArg ov_r (rg_58_2 I22)) ?_
      refine ov_blk (ls2 := [(0, ov_r 3), (1, ov_i w27)]) (st2 := [ov_i w27, ov_r 59]) (pc2 := 71) b_58_70_1 rfl rfl ?_
      refine ov_iald d_58_71 (zb_59 I22) (zs_59 I22) (by omega) ?_
      have g28 := ra_59 I22 w27
      refine ov_blk (ls2 := [(0, ov_r 3), (1, ov_i w27)]) (st2 := [ov_i (-1), ov_i (h21 59 w27)]) (pc2 := 73) b_58_72_1 rfl rfl ?_
      refine ov_iceq (tgt := 82) d_58_73 (by decide) (by omega) (by omega) (fun c29 => ?_) (fun c29 => ?_)
      · skip
        refine ov_blk (ls2 := [(0, ov_r 3), (1, ov_i w27)]) (st2 := [ov_r 3]) (pc2 := 83) b_58_82_1 rfl rfl ?_
        refine ov_getf (v := ov_r 1) d_58_83 fl_Reader_9 (zb_3 I22) (zs_3 I22) (congrArg ov_r (rg_3_0 I22)) ?_
        refine ov_cV (as := []) (st := []) (d2 := d - 1) d_58_86 lk_Reader_75 rfl (Nat.le_of_ble_eq_true rfl) (c := 8) (zb_1 I22) (zs_1 I22) ⟨by decide, rfl⟩ (by omega) (c_Tape_advance_1 (d - 1) (by omega) U I22 (ov_kws hw (by decide +kernel))) ?_
        rintro _ z31 h32 ⟨rfl, I33, f30⟩
        show ov_R u d ov_m58 89 [(0, ov_r 3), (1, ov_i w27)] [] z31 h32 (P_Reader_readLight_3_k3_1_58 F z h)
        have f34 : (h32 3 3) = (h21 3 3) ∧ (h32 36 7) = (h21 36 7) ∧ (h32 1 1) = (h21 1 1) ∧ (h32 90 2) = (h21 90 2) ∧ (h32 0 10) = (h21 0 10) ∧ (h32 0 11) = (h21 0 11) ∧ (h32 0 12) = (h21 0 12) ∧ (h32 0 13) = (h21 0 13) ∧ (h32 3 1) = (h21 3 1) ∧ (h32 36 8) = (h21 36 8) ∧ (h32 46 3) = (h21 46 3) ∧ (h32 46 4) = (h21 46 4) ∧ (h32 49 4) = (h21 49 4) ∧ (h32 49 5) = (h21 49 5) ∧ (h32 64 0) = (h21 64 0) ∧ (h32 76 0) = (h21 76 0) := f30
        clear f30
        have e35 : h32 3 1 = 58 := by omega
        refine ov_blk (ls2 := [(0, ov_r 3), (1, ov_i w27)]) (st2 := [ov_r 3]) (pc2 := 90) b_58_89_1 rfl rfl ?_
        refine ov_cV (as := []) (st := []) (d2 := d - 1) d_58_90 lk_Reader_151 rfl (Nat.le_of_ble_eq_true rfl) (c := 6) (zb_3 I33) (zs_3 I33) ⟨by decide, rfl⟩ (by omega) (c_Reader_kindTold_3_k3_1_58 (d - 1) (by omega) U I33 e35) ?_
        rintro _ _ _ ⟨v37, rfl, rfl, rfl, f36⟩
        show ov_R u d ov_m58 93 [(0, ov_r 3), (1, ov_i w27)] [ov_i v37] z31 h32 (P_Reader_readLight_3_k3_1_58 F z h)
        have f38 : -1 ≤ v37 ∧ v37 ≤ 3 := f36
        clear f36
        refine ov_blk (ls2 := [(0, ov_r 3), (1, ov_i w27), (2, ov_i v37)]) (st2 := [ov_i (-1), ov_i v37]) (pc2 := 96) b_58_93_3 rfl rfl ?_
        refine ov_icne (tgt := 105) d_58_96 (by decide) (by omega) (by omega) (fun c39 => ?_) (fun c39 => ?_)
        · skip
          refine ov_blk (ls2 := [(0, ov_r 3), (1, ov_i w27), (2, ov_i v37)]) (st2 := [ov_r 3]) (pc2 := 106) b_58_105_1 rfl rfl ?_
          refine ov_getf (v := ov_r 58) d_58_106 fl_Reader_15 (zb_3 I33) (zs_3 I33) (congrArg ov_r e35) ?_
          refine ov_getf (v := ov_r 59) d_58_109 fl_Reader_147 (zb_58 I33) (zs_58 I33) (congrArg ov_r (rg_58_2 I33)) ?_
          refine ov_blk (ls2 := [(0, ov_r 3), (1, ov_i w27), (2, ov_i v37)]) (st2 := [ov_i v37, ov_i w27, ov_r 59]) (pc2 := 114) b_58_112_2 rfl rfl ?_
          refine ov_iast d_58_114 (zb_59 I33) (zs_59 I33) (by omega) ?_
          have I40 := ua_59 (k := w27) (x := v37) I33 (by omega) (hw 59 (by decide +kernel))
          refine ov_blk (ls2 := [(0, ov_r 3), (1, ov_i w27), (2, ov_i v37)]) (st2 := [ov_r 3]) (pc2 := 116) b_58_115_1 rfl rfl ?_
          refine ov_getf (v := ov_r 58) d_58_116 fl_Reader_15 (zb_3 I40) (zs_3 I40) (congrArg ov_r e35) ?_
          refine ov_blk (ls2 := [(0, ov_r 3), (1, ov_i w27), (2, ov_i v37)]) (st2 := [ov_r 58, ov_r 58]) (pc2 := 120) b_58_119_1 rfl rfl ?_
          refine ov_getf (v := ov_i (h32 58 9)) d_58_120 fl_Reader_154 (zb_58 I40) (zs_58 I40) rfl ?_
          have g41 := rg_58_9 I33
          refine ov_blk (ls2 := [(0, ov_r 3), (1, ov_i w27), (2, ov_i v37)]) (st2 := [ov_i ((h32 58 9) + 1), ov_r 58]) (pc2 := 125) b_58_123_2 rfl rfl ?_
          refine ov_havw (fun w42 gw42 qw42 => ?_)
          refine ov_putf (x := w42) d_58_125 fl_Reader_154 (zb_58 I40) (zs_58 I40) rfl nk_0 rfl ?_
          have I43 := up_58_9 (x := w42) I40 (by omega) (hw 58 (by decide +kernel))
          refine ov_blk (ls2 := [(0, ov_r 3), (1, ov_i w27), (2, ov_i v37)]) (st2 := [ov_r 3]) (pc2 := 129) b_58_128_1 rfl rfl ?_
          refine ov_getf (v := ov_r 1) d_58_129 fl_Reader_9 (zb_3 I43) (zs_3 I43) (congrArg ov_r (rg_3_0 I43)) ?_
          refine ov_cV (as := []) (st := []) (d2 := d - 1) d_58_132 lk_Reader_75 rfl (Nat.le_of_ble_eq_true rfl) (c := 8) (zb_1 I43) (zs_1 I43) ⟨by decide, rfl⟩ (by omega) (c_Tape_advance_1 (d - 1) (by omega) U I43 (ov_kws hw (by decide +kernel))) ?_
          rintro _ z45 h46 ⟨rfl, I47, f44⟩
          show ov_R u d ov_m58 135 [(0, ov_r 3), (1, ov_i w27), (2, ov_i v37)] [] z45 h46 (P_Reader_readLight_3_k3_1_58 F z h)
          have f48 : (h46 3 3) = (h32 3 3) ∧ (h46 36 7) = (h32 36 7) ∧ (h46 1 1) = (h32 1 1) ∧ (h46 90 2) = (h32 90 2) ∧ (h46 0 10) = (h32 0 10) ∧ (h46 0 11) = (h32 0 11) ∧ (h46 0 12) = (h32 0 12) ∧ (h46 0 13) = (h32 0 13) ∧ (h46 3 1) = (h32 3 1) ∧ (h46 36 8) = (h32 36 8) ∧ (h46 46 3) = (h32 46 3) ∧ (h46 46 4) = (h32 46 4) ∧ (h46 49 4) = (h32 49 4) ∧ (h46 49 5) = (h32 49 5) ∧ (h46 64 0) = (h32 64 0) ∧ (h46 76 0) = (h32 76 0) := f44
          clear f44
          have e49 : h46 3 1 = 58 := by omega
          refine ov_blk (ls2 := [(0, ov_r 3), (1, ov_i w27), (2, ov_i v37)]) (st2 := [ov_i w27, ov_r 3]) (pc2 := 137) b_58_135_2 rfl rfl ?_
          refine ov_cV (as := [ov_i w27]) (st := []) (d2 := d - 1) d_58_137 lk_Reader_157 rfl (Nat.le_of_ble_eq_true rfl) (c := 6) (zb_3 I47) (zs_3 I47) ⟨by decide, rfl⟩ (by omega) (c_Reader_readRound_3_k3_1_58 (d - 1) (by omega) U I47 (ov_kws hw (by decide +kernel)) w27 e49 (by omega) (by omega)) ?_
          rintro _ z52 h53 ⟨v51, rfl, I54, f50⟩
          show ov_R u d ov_m58 140 [(0, ov_r 3), (1, ov_i w27), (2, ov_i v37)] [ov_i v51] z52 h53 (P_Reader_readLight_3_k3_1_58 F z h)
          have f55 : (v51 = 0 ∧ 1 ≤ (h53 3 2) ∨ v51 = 1) ∧ (h53 36 7) = (h46 36 7) ∧ (h53 1 1) = (h46 1 1) ∧ (h53 90 2) = (h46 90 2) ∧ (h53 0 10) = (h46 0 10) ∧ (h53 0 11) = (h46 0 11) ∧ (h53 0 12) = (h46 0 12) ∧ (h53 0 13) = (h46 0 13) ∧ (h53 3 1) = (h46 3 1) ∧ (h53 36 8) = (h46 36 8) ∧ (h53 46 3) = (h46 46 3) ∧ (h53 46 4) = (h46 46 4) ∧ (h53 49 4) = (h46 49 4) ∧ (h53 49 5) = (h46 49 5) ∧ (h53 64 0) = (h46 64 0) ∧ (h53 76 0) = (h46 76 0) := f50
          clear f50
          have e56 : h53 3 1 = 58 := by omega
          refine ov_ifeq (tgt := 164) d_58_140 (by decide) (by omega) (fun c57 => ?_) (fun c57 => ?_)
          · skip
            refine ov_blk (ls2 := [(0, ov_r 3), (1, ov_i w27), (2, ov_i v37)]) (st2 := [ov_i 0]) (pc2 := 165) b_58_164_1 rfl rfl ?_
            exact ov_retz (st := []) d_58_165 rfl (by omega) ⟨_, rfl, I54, (by show (0 = 0 ∧ 1 ≤ (h53 3 2) ∨ 0 = 1) ∧ (h53 36 7) = (h 36 7) ∧ (h53 1 1) = (h 1 1) ∧ (h53 90 2) = (h 90 2) ∧ (h53 0 10) = (h 0 10) ∧ (h53 0 11) = (h 0 11) ∧ (h53 0 12) = (h 0 12) ∧ (h53 0 13) = (h 0 13) ∧ (h53 3 1) = (h 3 1) ∧ (h53 36 8) = (h 36 8) ∧ (h53 46 3) = (h 46 3) ∧ (h53 46 4) = (h 46 4) ∧ (h53 49 4) = (h 49 4) ∧ (h53 49 5) = (h 49 5) ∧ (h53 64 0) = (h 64 0) ∧ (h53 76 0) = (h 76 0); omega)⟩
          · skip
            refine ov_blk (ls2 := [(0, ov_r 3), (1, ov_i w27), (2, ov_i v37)]) (st2 := [ov_i w27, ov_r 3]) (pc2 := 145) b_58_143_2 rfl rfl ?_
            refine ov_cV (as := [ov_i w27]) (st := []) (d2 := d - 1) d_58_145 lk_Reader_160 rfl (Nat.le_of_ble_eq_true rfl) (c := 6) (zb_3 I54) (zs_3 I54) ⟨by decide, rfl⟩ (by omega) (c_Reader_readGreen_3_k3_1_58 (d - 1) (by omega) U I54 (ov_kws hw (by decide +kernel)) w27 e56 (by omega) (by omega)) ?_
            rintro _ z60 h61 ⟨v59, rfl, I62, f58⟩
            show ov_R u d ov_m58 148 [(0, ov_r 3), (1, ov_i w27), (2, ov_i v37)] [ov_i v59] z60 h61 (P_Reader_readLight_3_k3_1_58 F z h)
            have f63 : (v59 = 0 ∧ 1 ≤ (h61 3 2) ∨ v59 = 1) ∧ (h61 36 7) = (h53 36 7) ∧ (h61 1 1) = (h53 1 1) ∧ (h61 90 2) = (h53 90 2) ∧ (h61 0 10) = (h53 0 10) ∧ (h61 0 11) = (h53 0 11) ∧ (h61 0 12) = (h53 0 12) ∧ (h61 0 13) = (h53 0 13) ∧ (h61 3 1) = (h53 3 1) ∧ (h61 36 8) = (h53 36 8) ∧ (h61 46 3) = (h53 46 3) ∧ (h61 46 4) = (h53 46 4) ∧ (h61 49 4) = (h53 49 4) ∧ (h61 49 5) = (h53 49 5) ∧ (h61 64 0) = (h53 64 0) ∧ (h61 76 0) = (h53 76 0) := f58
            clear f58
            have e64 : h61 3 1 = 58 := by omega
            refine ov_ifeq (tgt := 164) d_58_148 (by decide) (by omega) (fun c65 => ?_) (fun c65 => ?_)
            · skip
              refine ov_blk (ls2 := [(0, ov_r 3), (1, ov_i w27), (2, ov_i v37)]) (st2 := [ov_i 0]) (pc2 := 165) b_58_164_1 rfl rfl ?_
              exact ov_retz (st := []) d_58_165 rfl (by omega) ⟨_, rfl, I62, (by show (0 = 0 ∧ 1 ≤ (h61 3 2) ∨ 0 = 1) ∧ (h61 36 7) = (h 36 7) ∧ (h61 1 1) = (h 1 1) ∧ (h61 90 2) = (h 90 2) ∧ (h61 0 10) = (h 0 10) ∧ (h61 0 11) = (h 0 11) ∧ (h61 0 12) = (h 0 12) ∧ (h61 0 13) = (h 0 13) ∧ (h61 3 1) = (h 3 1) ∧ (h61 36 8) = (h 36 8) ∧ (h61 46 3) = (h 46 3) ∧ (h61 46 4) = (h 46 4) ∧ (h61 49 4) = (h 49 4) ∧ (h61 49 5) = (h 49 5) ∧ (h61 64 0) = (h 64 0) ∧ (h61 76 0) = (h 76 0); omega)⟩
            · skip
              refine ov_blk (ls2 := [(0, ov_r 3), (1, ov_i w27), (2, ov_i v37)]) (st2 := [ov_i 59, ov_r 3]) (pc2 := 154) b_58_151_2 rfl rfl ?_
              refine ov_cV (as := [ov_i 59]) (st := []) (d2 := d - 1) d_58_154 lk_Reader_92 rfl (Nat.le_of_ble_eq_true rfl) (c := 6) (zb_3 I62) (zs_3 I62) ⟨by decide, rfl⟩ (by omega) (c_Reader_takeSign_3_k3_1_58 (d - 1) (by omega) U I62 (ov_kws hw (by decide +kernel)) 59 e64 (by omega)) ?_
              rintro _ z68 h69 ⟨v67, rfl, I70, f66⟩
              show ov_R u d ov_m58 157 [(0, ov_r 3), (1, ov_i w27), (2, ov_i v37)] [ov_i v67] z68 h69 (P_Reader_readLight_3_k3_1_58 F z h)
              have f71 : (v67 = 0 ∧ 1 ≤ (h69 3 2) ∨ v67 = 1) ∧ (h69 36 7) = (h61 36 7) ∧ (h69 1 1) = (h61 1 1) ∧ (h69 90 2) = (h61 90 2) ∧ (h69 0 10) = (h61 0 10) ∧ (h69 0 11) = (h61 0 11) ∧ (h69 0 12) = (h61 0 12) ∧ (h69 0 13) = (h61 0 13) ∧ (h69 3 1) = (h61 3 1) ∧ (h69 36 8) = (h61 36 8) ∧ (h69 46 3) = (h61 46 3) ∧ (h69 46 4) = (h61 46 4) ∧ (h69 49 4) = (h61 49 4) ∧ (h69 49 5) = (h61 49 5) ∧ (h69 64 0) = (h61 64 0) ∧ (h69 76 0) = (h61 76 0) := f66
              clear f66
              have e72 : h69 3 1 = 58 := by omega
              refine ov_ifeq (tgt := 164) d_58_157 (by decide) (by omega) (fun c73 => ?_) (fun c73 => ?_)
              · skip
                refine ov_blk (ls2 := [(0, ov_r 3), (1, ov_i w27), (2, ov_i v37)]) (st2 := [ov_i 0]) (pc2 := 165) b_58_164_1 rfl rfl ?_
                exact ov_retz (st := []) d_58_165 rfl (by omega) ⟨_, rfl, I70, (by show (0 = 0 ∧ 1 ≤ (h69 3 2) ∨ 0 = 1) ∧ (h69 36 7) = (h 36 7) ∧ (h69 1 1) = (h 1 1) ∧ (h69 90 2) = (h 90 2) ∧ (h69 0 10) = (h 0 10) ∧ (h69 0 11) = (h 0 11) ∧ (h69 0 12) = (h 0 12) ∧ (h69 0 13) = (h 0 13) ∧ (h69 3 1) = (h 3 1) ∧ (h69 36 8) = (h 36 8) ∧ (h69 46 3) = (h 46 3) ∧ (h69 46 4) = (h 46 4) ∧ (h69 49 4) = (h 49 4) ∧ (h69 49 5) = (h 49 5) ∧ (h69 64 0) = (h 64 0) ∧ (h69 76 0) = (h 76 0); omega)⟩
              · skip
                refine ov_blk (ls2 := [(0, ov_r 3), (1, ov_i w27), (2, ov_i v37)]) (st2 := [ov_i 1]) (pc2 := 161) b_58_160_1 rfl rfl ?_
                refine ov_goto (tgt := 165) d_58_161 (by decide) ?_
                exact ov_retz (st := []) d_58_165 rfl (by omega) ⟨_, rfl, I70, (by show (1 = 0 ∧ 1 ≤ (h69 3 2) ∨ 1 = 1) ∧ (h69 36 7) = (h 36 7) ∧ (h69 1 1) = (h 1 1) ∧ (h69 90 2) = (h 90 2) ∧ (h69 0 10) = (h 0 10) ∧ (h69 0 11) = (h 0 11) ∧ (h69 0 12) = (h 0 12) ∧ (h69 0 13) = (h 0 13) ∧ (h69 3 1) = (h 3 1) ∧ (h69 36 8) = (h 36 8) ∧ (h69 46 3) = (h 46 3) ∧ (h69 46 4) = (h 46 4) ∧ (h69 49 4) = (h 49 4) ∧ (h69 49 5) = (h 49 5) ∧ (h69 64 0) = (h 64 0) ∧ (h69 76 0) = (h 76 0); omega)⟩
        · skip
          refine ov_blk (ls2 := [(0, ov_r 3), (1, ov_i w27), (2, ov_i v37)]) (st2 := [ov_i 1, ov_r 3]) (pc2 := 101) b_58_99_2 rfl rfl ?_
          refine ov_cV (as := [ov_i 1]) (st := []) (d2 := d - 1) d_58_101 lk_Reader_58 rfl (Nat.le_of_ble_eq_true rfl) (c := 6) (zb_3 I33) (zs_3 I33) ⟨by decide, rfl⟩ (by omega) (c_Reader_fail_3_k3_1_58 (d - 1) (by omega) U I33 (ov_kws hw (by decide +kernel)) 1 e35 (by omega) (by omega)) ?_
          rintro _ z76 h77 ⟨v75, rfl, I78, f74⟩
          show ov_R u d ov_m58 104 [(0, ov_r 3), (1, ov_i w27), (2, ov_i v37)] [ov_i v75] z76 h77 (P_Reader_readLight_3_k3_1_58 F z h)
          have f79 : v75 = 0 ∧ 1 ≤ (h77 3 2) ∧ (h77 36 7) = (h32 36 7) ∧ (h77 1 1) = (h32 1 1) ∧ (h77 90 2) = (h32 90 2) ∧ (h77 0 10) = (h32 0 10) ∧ (h77 0 11) = (h32 0 11) ∧ (h77 0 12) = (h32 0 12) ∧ (h77 0 13) = (h32 0 13) ∧ (h77 3 1) = (h32 3 1) ∧ (h77 36 8) = (h32 36 8) ∧ (h77 46 3) = (h32 46 3) ∧ (h77 46 4) = (h32 46 4) ∧ (h77 49 4) = (h32 49 4) ∧ (h77 49 5) = (h32 49 5) ∧ (h77 64 0) = (h32 64 0) ∧ (h77 76 0) = (h32 76 0) := f74
          clear f74
          have e80 : h77 3 1 = 58 := by omega
          exact ov_retz (st := []) d_58_104 rfl (by omega) ⟨_, rfl, I78, (by show (v75 = 0 ∧ 1 ≤ (h77 3 2) ∨ v75 = 1) ∧ (h77 36 7) = (h 36 7) ∧ (h77 1 1) = (h 1 1) ∧ (h77 90 2) = (h 90 2) ∧ (h77 0 10) = (h 0 10) ∧ (h77 0 11) = (h 0 11) ∧ (h77 0 12) = (h 0 12) ∧ (h77 0 13) = (h 0 13) ∧ (h77 3 1) = (h 3 1) ∧ (h77 36 8) = (h 36 8) ∧ (h77 46 3) = (h 46 3) ∧ (h77 46 4) = (h 46 4) ∧ (h77 49 4) = (h 49 4) ∧ (h77 49 5) = (h 49 5) ∧ (h77 64 0) = (h 64 0) ∧ (h77 76 0) = (h 76 0); omega)⟩
      · skip
        refine ov_blk (ls2 := [(0, ov_r 3), (1, ov_i w27)]) (st2 := [ov_i 3, ov_r 3]) (pc2 := 78) b_58_76_2 rfl rfl ?_
        refine ov_cV (as := [ov_i 3]) (st := []) (d2 := d - 1) d_58_78 lk_Reader_58 rfl (Nat.le_of_ble_eq_true rfl) (c := 6) (zb_3 I22) (zs_3 I22) ⟨by decide, rfl⟩ (by omega) (c_Reader_fail_3_k3_1_58 (d - 1) (by omega) U I22 (ov_kws hw (by decide +kernel)) 3 e24 (by omega) (by omega)) ?_
        rintro _ z83 h84 ⟨v82, rfl, I85, f81⟩
        show ov_R u d ov_m58 81 [(0, ov_r 3), (1, ov_i w27)] [ov_i v82] z83 h84 (P_Reader_readLight_3_k3_1_58 F z h)
        have f86 : v82 = 0 ∧ 1 ≤ (h84 3 2) ∧ (h84 36 7) = (h21 36 7) ∧ (h84 1 1) = (h21 1 1) ∧ (h84 90 2) = (h21 90 2) ∧ (h84 0 10) = (h21 0 10) ∧ (h84 0 11) = (h21 0 11) ∧ (h84 0 12) = (h21 0 12) ∧ (h84 0 13) = (h21 0 13) ∧ (h84 3 1) = (h21 3 1) ∧ (h84 36 8) = (h21 36 8) ∧ (h84 46 3) = (h21 46 3) ∧ (h84 46 4) = (h21 46 4) ∧ (h84 49 4) = (h21 49 4) ∧ (h84 49 5) = (h21 49 5) ∧ (h84 64 0) = (h21 64 0) ∧ (h84 76 0) = (h21 76 0) := f81
        clear f81
        have e87 : h84 3 1 = 58 := by omega
        exact ov_retz (st := []) d_58_81 rfl (by omega) ⟨_, rfl, I85, (by show (v82 = 0 ∧ 1 ≤ (h84 3 2) ∨ v82 = 1) ∧ (h84 36 7) = (h 36 7) ∧ (h84 1 1) = (h 1 1) ∧ (h84 90 2) = (h 90 2) ∧ (h84 0 10) = (h 0 10) ∧ (h84 0 11) = (h 0 11) ∧ (h84 0 12) = (h 0 12) ∧ (h84 0 13) = (h 0 13) ∧ (h84 3 1) = (h 3 1) ∧ (h84 36 8) = (h 36 8) ∧ (h84 46 3) = (h 46 3) ∧ (h84 46 4) = (h 46 4) ∧ (h84 49 4) = (h 49 4) ∧ (h84 49 5) = (h 49 5) ∧ (h84 64 0) = (h 64 0) ∧ (h84 76 0) = (h 76 0); omega)⟩
    · skip
      refine ov_blk (ls2 := [(0, ov_r 3), (1, ov_i (h11 3 3))]) (st2 := [ov_i 0]) (pc2 := 49) b_58_48_1 rfl rfl ?_
      exact ov_retz (st := []) d_58_49 rfl (by omega) ⟨_, rfl, I22, (by show (0 = 0 ∧ 1 ≤ (h21 3 2) ∨ 0 = 1) ∧ (h21 36 7) = (h 36 7) ∧ (h21 1 1) = (h 1 1) ∧ (h21 90 2) = (h 90 2) ∧ (h21 0 10) = (h 0 10) ∧ (h21 0 11) = (h 0 11) ∧ (h21 0 12) = (h 0 12) ∧ (h21 0 13) = (h 0 13) ∧ (h21 3 1) = (h 3 1) ∧ (h21 36 8) = (h 36 8) ∧ (h21 46 3) = (h 46 3) ∧ (h21 46 4) = (h 46 4) ∧ (h21 49 4) = (h 49 4) ∧ (h21 49 5) = (h 49 5) ∧ (h21 64 0) = (h 64 0) ∧ (h21 76 0) = (h 76 0); omega)⟩
  · skip
    refine ov_blk (ls2 := [(0, ov_r 3)]) (st2 := [ov_i 0]) (pc2 := 25) b_58_24_1 rfl rfl ?_
    exact ov_retz (st := []) d_58_25 rfl (by omega) ⟨_, rfl, I12, (by show (0 = 0 ∧ 1 ≤ (h11 3 2) ∨ 0 = 1) ∧ (h11 36 7) = (h 36 7) ∧ (h11 1 1) = (h 1 1) ∧ (h11 90 2) = (h 90 2) ∧ (h11 0 10) = (h 0 10) ∧ (h11 0 11) = (h 0 11) ∧ (h11 0 12) = (h 0 12) ∧ (h11 0 13) = (h 0 13) ∧ (h11 3 1) = (h 3 1) ∧ (h11 36 8) = (h 36 8) ∧ (h11 46 3) = (h 46 3) ∧ (h11 46 4) = (h 46 4) ∧ (h11 49 4) = (h 49 4) ∧ (h11 49 5) = (h 49 5) ∧ (h11 64 0) = (h 64 0) ∧ (h11 76 0) = (h 76 0); omega)⟩
abbrev P_Reader_readLine_3_k3_1_58 (F : ov_H) (z : ov_Z) (h : ov_H)  : Option ov_V → ov_Z → ov_H → Prop := fun r0 z' h' => ∃ r : Int, r0 = some (ov_i r) ∧ ov_I F z' h' ∧ ((r = 0 ∧ 1 ≤ (h' 3 2) ∨ r = 1) ∧ (h' 36 7) = (h 36 7) ∧ (h' 1 1) = (h 1 1) ∧ (h' 90 2) = (h 90 2) ∧ (h' 0 10) = (h 0 10) ∧ (h' 0 11) = (h 0 11) ∧ (h' 0 12) = (h 0 12) ∧ (h' 0 13) = (h 0 13) ∧ (h' 3 1) = (h 3 1) ∧ (h' 36 8) = (h 36 8) ∧ (h' 46 3) = (h 46 3) ∧ (h' 46 4) = (h 46 4) ∧ (h' 49 4) = (h 49 4) ∧ (h' 49 5) = (h 49 5) ∧ (h' 76 0) = (h 76 0))
set_option maxHeartbeats 4000000 in
theorem c_Reader_readLine_3_k3_1_58 {u : ov_U} {F : ov_H} {z : ov_Z} {h : ov_H} (d : Nat) (hd : 41 ≤ d) (U : ov_cap u) (I : ov_I F z h) (hw : ov_kw 553114091835134836746 F) (k0 : h 3 1 = 58) : ov_T u d ov_m57 [ov_r 3] z h (P_Reader_readLine_3_k3_1_58 F z h) := by
  refine ov_en rfl (Nat.le_of_ble_eq_true rfl) ?_
  show ov_R u d ov_m57 0 [(0, ov_r 3)] [] z h (P_Reader_readLine_3_k3_1_58 F z h)
  refine ov_blk (ls2 := [(0, ov_r 3)]) (st2 := [ov_r 3]) (pc2 := 1) b_57_0_1 rfl rfl ?_
  refine ov_getf (v := ov_r 1) d_57_1 fl_Reader_9 (zb_3 I) (zs_3 I) (congrArg ov_r (rg_3_0 I)) ?_
  refine ov_ldc2 (n := 465624852596) d_57_4 kc_Reader_108 ?_
  refine ov_cV (as := [ov_l 465624852596]) (st := []) (d2 := d - 1) d_57_7 lk_Reader_110 rfl (Nat.le_of_ble_eq_true rfl) (c := 8) (zb_1 I) (zs_1 I) ⟨by decide, rfl⟩ (by omega) (c_Tape_isWord_1 (d - 1) (by omega) U I 465624852596) ?_
  rintro _ _ _ ⟨v2, rfl, rfl, rfl, f1⟩
  show ov_R u d ov_m57 10 [(0, ov_r 3)] [ov_i v2] z h (P_Reader_readLine_3_k3_1_58 F z h)
  have f3 : (v2 = 0 ∨ v2 = 1) ∧ (v2 = 1 → (h 1 2) = 2) := f1
  clear f1
  refine ov_ifeq (tgt := 18) d_57_10 (by decide) (by omega) (fun c4 => ?_) (fun c4 => ?_)
  · skip
    refine ov_blk (ls2 := [(0, ov_r 3)]) (st2 := [ov_r 3]) (pc2 := 19) b_57_18_1 rfl rfl ?_
    refine ov_getf (v := ov_r 1) d_57_19 fl_Reader_9 (zb_3 I) (zs_3 I) (congrArg ov_r (rg_3_0 I)) ?_
    refine ov_ldc2 (n := 6447474) d_57_22 kc_Reader_116 ?_
    refine ov_cV (as := [ov_l 6447474]) (st := []) (d2 := d - 1) d_57_25 lk_Reader_110 rfl (Nat.le_of_ble_eq_true rfl) (c := 8) (zb_1 I) (zs_1 I) ⟨by decide, rfl⟩ (by omega) (c_Tape_isWord_1 (d - 1) (by omega) U I 6447474) ?_
    rintro _ _ _ ⟨v6, rfl, rfl, rfl, f5⟩
    show ov_R u d ov_m57 28 [(0, ov_r 3)] [ov_i v6] z h (P_Reader_readLine_3_k3_1_58 F z h)
    have f7 : (v6 = 0 ∨ v6 = 1) ∧ (v6 = 1 → (h 1 2) = 2) := f5
    clear f5
    refine ov_ifeq (tgt := 36) d_57_28 (by decide) (by omega) (fun c8 => ?_) (fun c8 => ?_)
    · skip
      refine ov_blk (ls2 := [(0, ov_r 3)]) (st2 := [ov_r 3]) (pc2 := 37) b_57_36_1 rfl rfl ?_
      refine ov_getf (v := ov_r 1) d_57_37 fl_Reader_9 (zb_3 I) (zs_3 I) (congrArg ov_r (rg_3_0 I)) ?_
      refine ov_ldc2 (n := 1920298085) d_57_40 kc_Reader_121 ?_
      refine ov_cV (as := [ov_l 1920298085]) (st := []) (d2 := d - 1) d_57_43 lk_Reader_110 rfl (Nat.le_of_ble_eq_true rfl) (c := 8) (zb_1 I) (zs_1 I) ⟨by decide, rfl⟩ (by omega) (c_Tape_isWord_1 (d - 1) (by omega) U I 1920298085) ?_
      rintro _ _ _ ⟨v10, rfl, rfl, rfl, f9⟩
      show ov_R u d ov_m57 46 [(0, ov_r 3)] [ov_i v10] z h (P_Reader_readLine_3_k3_1_58 F z h)
      have f11 : (v10 = 0 ∨ v10 = 1) ∧ (v10 = 1 → (h 1 2) = 2) := f9
      clear f9
      refine ov_ifeq (tgt := 54) d_57_46 (by decide) (by omega) (fun c12 => ?_) (fun c12 => ?_)
      · skip
        refine ov_blk (ls2 := [(0, ov_r 3)]) (st2 := [ov_r 3]) (pc2 := 55) b_57_54_1 rfl rfl ?_
        refine ov_getf (v := ov_r 1) d_57_55 fl_Reader_9 (zb_3 I) (zs_3 I) (congrArg ov_r (rg_3_0 I)) ?_
        refine ov_ldc2 (n := 2002873451) d_57_58 kc_Reader_126 ?_
        refine ov_cV (as := [ov_l 2002873451]) (st := []) (d2 := d - 1) d_57_61 lk_Reader_110 rfl (Nat.le_of_ble_eq_true rfl) (c := 8) (zb_1 I) (zs_1 I) ⟨by decide, rfl⟩ (by omega) (c_Tape_isWord_1 (d - 1) (by omega) U I 2002873451) ?_
        rintro _ _ _ ⟨v14, rfl, rfl, rfl, f13⟩
        show ov_R u d ov_m57 64 [(0, ov_r 3)] [ov_i v14] z h (P_Reader_readLine_3_k3_1_58 F z h)
        have f15 : (v14 = 0 ∨ v14 = 1) ∧ (v14 = 1 → (h 1 2) = 2) := f13
        clear f13
        refine ov_ifeq (tgt := 76) d_57_64 (by decide) (by omega) (fun c16 => ?_) (fun c16 => ?_)
        · skip
          refine ov_blk (ls2 := [(0, ov_r 3)]) (st2 := [ov_r 3]) (pc2 := 77) b_57_76_1 rfl rfl ?_
          refine ov_getf (v := ov_r 1) d_57_77 fl_Reader_9 (zb_3 I) (zs_3 I) (congrArg ov_r (rg_3_0 I)) ?_
          refine ov_ldc2 (n := 7501166) d_57_80 kc_Reader_132 ?_
          refine ov_cV (as := [ov_l 7501166]) (st := []) (d2 := d - 1) d_57_83 lk_Reader_110 rfl (Nat.le_of_ble_eq_true rfl) (c := 8) (zb_1 I) (zs_1 I) ⟨by decide, rfl⟩ (by omega) (c_Tape_isWord_1 (d - 1) (by omega) U I 7501166) ?_
          rintro _ _ _ ⟨v18, rfl, rfl, rfl, f17⟩
          show ov_R u d ov_m57 86 [(0, ov_r 3)] [ov_i v18] z h (P_Reader_readLine_3_k3_1_58 F z h)
          have f19 : (v18 = 0 ∨ v18 = 1) ∧ (v18 = 1 → (h 1 2) = 2) := f17
          clear f17
          refine ov_ifeq (tgt := 98) d_57_86 (by decide) (by omega) (fun c20 => ?_) (fun c20 => ?_)
          · skip
            refine ov_blk (ls2 := [(0, ov_r 3)]) (st2 := [ov_r 3]) (pc2 := 99) b_57_98_1 rfl rfl ?_
            refine ov_getf (v := ov_r 1) d_57_99 fl_Reader_9 (zb_3 I) (zs_3 I) (congrArg ov_r (rg_3_0 I)) ?_
            refine ov_ldc2 (n := 1936486263) d_57_102 kc_Reader_134 ?_
            refine ov_cV (as := [ov_l 1936486263]) (st := []) (d2 := d - 1) d_57_105 lk_Reader_110 rfl (Nat.le_of_ble_eq_true rfl) (c := 8) (zb_1 I) (zs_1 I) ⟨by decide, rfl⟩ (by omega) (c_Tape_isWord_1 (d - 1) (by omega) U I 1936486263) ?_
            rintro _ _ _ ⟨v22, rfl, rfl, rfl, f21⟩
            show ov_R u d ov_m57 108 [(0, ov_r 3)] [ov_i v22] z h (P_Reader_readLine_3_k3_1_58 F z h)
            have f23 : (v22 = 0 ∨ v22 = 1) ∧ (v22 = 1 → (h 1 2) = 2) := f21
            clear f21
            refine ov_ifeq (tgt := 120) d_57_108 (by decide) (by omega) (fun c24 => ?_) (fun c24 => ?_)
            · skip
              refine ov_blk (ls2 := [(0, ov_r 3)]) (st2 := [ov_r 3]) (pc2 := 121) b_57_120_1 rfl rfl ?_
              refine ov_getf (v := ov_r 1) d_57_121 fl_Reader_9 (zb_3 I) (zs_3 I) (congrArg ov_r (rg_3_0 I)) ?_
              refine ov_ldc2 (n := 1920298611) d_57_124 kc_Reader_136 ?_
              refine ov_cV (as := [ov_l 1920298611]) (st := []) (d2 := d - 1) d_57_127 lk_Reader_110 rfl (Nat.le_of_ble_eq_true rfl) (c := 8) (zb_1 I) (zs_1 I) ⟨by decide, rfl⟩ (by omega) (c_Tape_isWord_1 (d - 1) (by omega) U I 1920298611) ?_
              rintro _ _ _ ⟨v26, rfl, rfl, rfl, f25⟩
              show ov_R u d ov_m57 130 [(0, ov_r 3)] [ov_i v26] z h (P_Reader_readLine_3_k3_1_58 F z h)
              have f27 : (v26 = 0 ∨ v26 = 1) ∧ (v26 = 1 → (h 1 2) = 2) := f25
              clear f25
              refine ov_ifeq (tgt := 142) d_57_130 (by decide) (by omega) (fun c28 => ?_) (fun c28 => ?_)
              · skip
                refine ov_blk (ls2 := [(0, ov_r 3)]) (st2 := [ov_r 3]) (pc2 := 143) b_57_142_1 rfl rfl ?_
                refine ov_getf (v := ov_r 1) d_57_143 fl_Reader_9 (zb_3 I) (zs_3 I) (congrArg ov_r (rg_3_0 I)) ?_
                refine ov_ldc2 (n := 426953501796) d_57_146 kc_Reader_138 ?_
                refine ov_cV (as := [ov_l 426953501796]) (st := []) (d2 := d - 1) d_57_149 lk_Reader_110 rfl (Nat.le_of_ble_eq_true rfl) (c := 8) (zb_1 I) (zs_1 I) ⟨by decide, rfl⟩ (by omega) (c_Tape_isWord_1 (d - 1) (by omega) U I 426953501796) ?_
                rintro _ _ _ ⟨v30, rfl, rfl, rfl, f29⟩
                show ov_R u d ov_m57 152 [(0, ov_r 3)] [ov_i v30] z h (P_Reader_readLine_3_k3_1_58 F z h)
                have f31 : (v30 = 0 ∨ v30 = 1) ∧ (v30 = 1 → (h 1 2) = 2) := f29
                clear f29
                refine ov_ifeq (tgt := 162) d_57_152 (by decide) (by omega) (fun c32 => ?_) (fun c32 => ?_)
                · skip
                  refine ov_blk (ls2 := [(0, ov_r 3)]) (st2 := [ov_i 1, ov_r 3]) (pc2 := 164) b_57_162_2 rfl rfl ?_
                  refine ov_cV (as := [ov_i 1]) (st := []) (d2 := d - 1) d_57_164 lk_Reader_58 rfl (Nat.le_of_ble_eq_true rfl) (c := 6) (zb_3 I) (zs_3 I) ⟨by decide, rfl⟩ (by omega) (c_Reader_fail_3_k3_1_58 (d - 1) (by omega) U I (ov_kws hw (by decide +kernel)) 1 k0 (by omega) (by omega)) ?_
                  rintro _ z35 h36 ⟨v34, rfl, I37, f33⟩
                  show ov_R u d ov_m57 167 [(0, ov_r 3)] [ov_i v34] z35 h36 (P_Reader_readLine_3_k3_1_58 F z h)
                  have f38 : v34 = 0 ∧ 1 ≤ (h36 3 2) ∧ (h36 36 7) = (h 36 7) ∧ (h36 1 1) = (h 1 1) ∧ (h36 90 2) = (h 90 2) ∧ (h36 0 10) = (h 0 10) ∧ (h36 0 11) = (h 0 11) ∧ (h36 0 12) = (h 0 12) ∧ (h36 0 13) = (h 0 13) ∧ (h36 3 1) = (h 3 1) ∧ (h36 36 8) = (h 36 8) ∧ (h36 46 3) = (h 46 3) ∧ (h36 46 4) = (h 46 4) ∧ (h36 49 4) = (h 49 4) ∧ (h36 49 5) = (h 49 5) ∧ (h36 64 0) = (h 64 0) ∧ (h36 76 0) = (h 76 0) := f33
                  clear f33
                  have e39 : h36 3 1 = 58 := by omega
                  exact ov_retz (st := []) d_57_167 rfl (by omega) ⟨_, rfl, I37, (by show (v34 = 0 ∧ 1 ≤ (h36 3 2) ∨ v34 = 1) ∧ (h36 36 7) = (h 36 7) ∧ (h36 1 1) = (h 1 1) ∧ (h36 90 2) = (h 90 2) ∧ (h36 0 10) = (h 0 10) ∧ (h36 0 11) = (h 0 11) ∧ (h36 0 12) = (h 0 12) ∧ (h36 0 13) = (h 0 13) ∧ (h36 3 1) = (h 3 1) ∧ (h36 36 8) = (h 36 8) ∧ (h36 46 3) = (h 46 3) ∧ (h36 46 4) = (h 46 4) ∧ (h36 49 4) = (h 49 4) ∧ (h36 49 5) = (h 49 5) ∧ (h36 76 0) = (h 76 0); omega)⟩
                · skip
                  refine ov_blk (ls2 := [(0, ov_r 3)]) (st2 := [ov_r 3]) (pc2 := 156) b_57_155_1 rfl rfl ?_
                  refine ov_cV (as := []) (st := []) (d2 := d - 1) d_57_156 lk_Reader_140 rfl (Nat.le_of_ble_eq_true rfl) (c := 6) (zb_3 I) (zs_3 I) ⟨by decide, rfl⟩ (by omega) (c_Reader_readChild_3_k3_1_58 (d - 1) (by omega) U I (ov_kws hw (by decide +kernel)) k0) ?_
                  rintro _ z42 h43 ⟨v41, rfl, I44, f40⟩
                  show ov_R u d ov_m57 159 [(0, ov_r 3)] [ov_i v41] z42 h43 (P_Reader_readLine_3_k3_1_58 F z h)
                  have f45 : (v41 = 0 ∧ 1 ≤ (h43 3 2) ∨ v41 = 1) ∧ (h43 36 7) = (h 36 7) ∧ (h43 1 1) = (h 1 1) ∧ (h43 90 2) = (h 90 2) ∧ (h43 0 10) = (h 0 10) ∧ (h43 0 11) = (h 0 11) ∧ (h43 0 12) = (h 0 12) ∧ (h43 0 13) = (h 0 13) ∧ (h43 3 1) = (h 3 1) ∧ (h43 36 8) = (h 36 8) ∧ (h43 46 3) = (h 46 3) ∧ (h43 46 4) = (h 46 4) ∧ (h43 49 4) = (h 49 4) ∧ (h43 49 5) = (h 49 5) ∧ (h43 64 0) = (h 64 0) ∧ (h43 76 0) = (h 76 0) := f40
                  clear f40
                  have e46 : h43 3 1 = 58 := by omega
                  refine ov_goto (tgt := 167) d_57_159 (by decide) ?_
                  exact ov_retz (st := []) d_57_167 rfl (by omega) ⟨_, rfl, I44, (by show (v41 = 0 ∧ 1 ≤ (h43 3 2) ∨ v41 = 1) ∧ (h43 36 7) = (h 36 7) ∧ (h43 1 1) = (h 1 1) ∧ (h43 90 2) = (h 90 2) ∧ (h43 0 10) = (h 0 10) ∧ (h43 0 11) = (h 0 11) ∧ (h43 0 12) = (h 0 12) ∧ (h43 0 13) = (h 0 13) ∧ (h43 3 1) = (h 3 1) ∧ (h43 36 8) = (h 36 8) ∧ (h43 46 3) = (h 46 3) ∧ (h43 46 4) = (h 46 4) ∧ (h43 49 4) = (h 49 4) ∧ (h43 49 5) = (h 49 5) ∧ (h43 76 0) = (h 76 0); omega)⟩
              · skip
                refine ov_blk (ls2 := [(0, ov_r 3)]) (st2 := [ov_i 9, ov_i 0, ov_i 3, ov_r 3]) (pc2 := 138) b_57_133_4 rfl rfl ?_
                refine ov_cV (as := [ov_i 3, ov_i 0, ov_i 9]) (st := []) (d2 := d - 1) d_57_138 lk_Reader_128 rfl (Nat.le_of_ble_eq_true rfl) (c := 6) (zb_3 I) (zs_3 I) ⟨by decide, rfl⟩ (by omega) (c_Reader_readSetting_3_k3_1_58 (d - 1) (by omega) U I (ov_kws hw (by decide +kernel)) 3 0 9 k0 (by omega) (by omega) (by omega) (by omega) (by omega)) ?_
                rintro _ z49 h50 ⟨v48, rfl, I51, f47⟩
                show ov_R u d ov_m57 141 [(0, ov_r 3)] [ov_i v48] z49 h50 (P_Reader_readLine_3_k3_1_58 F z h)
                have f52 : (v48 = 0 ∧ 1 ≤ (h50 3 2) ∨ v48 = 1) ∧ (h50 36 7) = (h 36 7) ∧ (h50 1 1) = (h 1 1) ∧ (h50 90 2) = (h 90 2) ∧ (h50 0 10) = (h 0 10) ∧ (h50 0 11) = (h 0 11) ∧ (h50 0 12) = (h 0 12) ∧ (h50 0 13) = (h 0 13) ∧ (h50 3 1) = (h 3 1) ∧ (h50 36 8) = (h 36 8) ∧ (h50 46 3) = (h 46 3) ∧ (h50 46 4) = (h 46 4) ∧ (h50 49 4) = (h 49 4) ∧ (h50 49 5) = (h 49 5) ∧ (h50 76 0) = (h 76 0) := f47
                clear f47
                have e53 : h50 3 1 = 58 := by omega
                exact ov_retz (st := []) d_57_141 rfl (by omega) ⟨_, rfl, I51, (by show (v48 = 0 ∧ 1 ≤ (h50 3 2) ∨ v48 = 1) ∧ (h50 36 7) = (h 36 7) ∧ (h50 1 1) = (h 1 1) ∧ (h50 90 2) = (h 90 2) ∧ (h50 0 10) = (h 0 10) ∧ (h50 0 11) = (h 0 11) ∧ (h50 0 12) = (h 0 12) ∧ (h50 0 13) = (h 0 13) ∧ (h50 3 1) = (h 3 1) ∧ (h50 36 8) = (h 36 8) ∧ (h50 46 3) = (h 46 3) ∧ (h50 46 4) = (h 46 4) ∧ (h50 49 4) = (h 49 4) ∧ (h50 49 5) = (h 49 5) ∧ (h50 76 0) = (h 76 0); omega)⟩
            · skip
              refine ov_blk (ls2 := [(0, ov_r 3)]) (st2 := [ov_i 30, ov_i 1, ov_i 2, ov_r 3]) (pc2 := 116) b_57_111_4 rfl rfl ?_
              refine ov_cV (as := [ov_i 2, ov_i 1, ov_i 30]) (st := []) (d2 := d - 1) d_57_116 lk_Reader_128 rfl (Nat.le_of_ble_eq_true rfl) (c := 6) (zb_3 I) (zs_3 I) ⟨by decide, rfl⟩ (by omega) (c_Reader_readSetting_3_k3_1_58 (d - 1) (by omega) U I (ov_kws hw (by decide +kernel)) 2 1 30 k0 (by omega) (by omega) (by omega) (by omega) (by omega)) ?_
              rintro _ z56 h57 ⟨v55, rfl, I58, f54⟩
              show ov_R u d ov_m57 119 [(0, ov_r 3)] [ov_i v55] z56 h57 (P_Reader_readLine_3_k3_1_58 F z h)
              have f59 : (v55 = 0 ∧ 1 ≤ (h57 3 2) ∨ v55 = 1) ∧ (h57 36 7) = (h 36 7) ∧ (h57 1 1) = (h 1 1) ∧ (h57 90 2) = (h 90 2) ∧ (h57 0 10) = (h 0 10) ∧ (h57 0 11) = (h 0 11) ∧ (h57 0 12) = (h 0 12) ∧ (h57 0 13) = (h 0 13) ∧ (h57 3 1) = (h 3 1) ∧ (h57 36 8) = (h 36 8) ∧ (h57 46 3) = (h 46 3) ∧ (h57 46 4) = (h 46 4) ∧ (h57 49 4) = (h 49 4) ∧ (h57 49 5) = (h 49 5) ∧ (h57 76 0) = (h 76 0) := f54
              clear f54
              have e60 : h57 3 1 = 58 := by omega
              exact ov_retz (st := []) d_57_119 rfl (by omega) ⟨_, rfl, I58, (by show (v55 = 0 ∧ 1 ≤ (h57 3 2) ∨ v55 = 1) ∧ (h57 36 7) = (h 36 7) ∧ (h57 1 1) = (h 1 1) ∧ (h57 90 2) = (h 90 2) ∧ (h57 0 10) = (h 0 10) ∧ (h57 0 11) = (h 0 11) ∧ (h57 0 12) = (h 0 12) ∧ (h57 0 13) = (h 0 13) ∧ (h57 3 1) = (h 3 1) ∧ (h57 36 8) = (h 36 8) ∧ (h57 46 3) = (h 46 3) ∧ (h57 46 4) = (h 46 4) ∧ (h57 49 4) = (h 49 4) ∧ (h57 49 5) = (h 49 5) ∧ (h57 76 0) = (h 76 0); omega)⟩
          · skip
            refine ov_blk (ls2 := [(0, ov_r 3)]) (st2 := [ov_i 30, ov_i 1, ov_i 1, ov_r 3]) (pc2 := 94) b_57_89_4 rfl rfl ?_
            refine ov_cV (as := [ov_i 1, ov_i 1, ov_i 30]) (st := []) (d2 := d - 1) d_57_94 lk_Reader_128 rfl (Nat.le_of_ble_eq_true rfl) (c := 6) (zb_3 I) (zs_3 I) ⟨by decide, rfl⟩ (by omega) (c_Reader_readSetting_3_k3_1_58 (d - 1) (by omega) U I (ov_kws hw (by decide +kernel)) 1 1 30 k0 (by omega) (by omega) (by omega) (by omega) (by omega)) ?_
            rintro _ z63 h64 ⟨v62, rfl, I65, f61⟩
            show ov_R u d ov_m57 97 [(0, ov_r 3)] [ov_i v62] z63 h64 (P_Reader_readLine_3_k3_1_58 F z h)
            have f66 : (v62 = 0 ∧ 1 ≤ (h64 3 2) ∨ v62 = 1) ∧ (h64 36 7) = (h 36 7) ∧ (h64 1 1) = (h 1 1) ∧ (h64 90 2) = (h 90 2) ∧ (h64 0 10) = (h 0 10) ∧ (h64 0 11) = (h 0 11) ∧ (h64 0 12) = (h 0 12) ∧ (h64 0 13) = (h 0 13) ∧ (h64 3 1) = (h 3 1) ∧ (h64 36 8) = (h 36 8) ∧ (h64 46 3) = (h 46 3) ∧ (h64 46 4) = (h 46 4) ∧ (h64 49 4) = (h 49 4) ∧ (h64 49 5) = (h 49 5) ∧ (h64 76 0) = (h 76 0) := f61
            clear f61
            have e67 : h64 3 1 = 58 := by omega
            exact ov_retz (st := []) d_57_97 rfl (by omega) ⟨_, rfl, I65, (by show (v62 = 0 ∧ 1 ≤ (h64 3 2) ∨ v62 = 1) ∧ (h64 36 7) = (h 36 7) ∧ (h64 1 1) = (h 1 1) ∧ (h64 90 2) = (h 90 2) ∧ (h64 0 10) = (h 0 10) ∧ (h64 0 11) = (h 0 11) ∧ (h64 0 12) = (h 0 12) ∧ (h64 0 13) = (h 0 13) ∧ (h64 3 1) = (h 3 1) ∧ (h64 36 8) = (h 36 8) ∧ (h64 46 3) = (h 46 3) ∧ (h64 46 4) = (h 46 4) ∧ (h64 49 4) = (h 49 4) ∧ (h64 49 5) = (h 49 5) ∧ (h64 76 0) = (h 76 0); omega)⟩
        · skip
          refine ov_blk (ls2 := [(0, ov_r 3)]) (st2 := [ov_i 30, ov_i 1, ov_i 0, ov_r 3]) (pc2 := 72) b_57_67_4 rfl rfl ?_
          refine ov_cV (as := [ov_i 0, ov_i 1, ov_i 30]) (st := []) (d2 := d - 1) d_57_72 lk_Reader_128 rfl (Nat.le_of_ble_eq_true rfl) (c := 6) (zb_3 I) (zs_3 I) ⟨by decide, rfl⟩ (by omega) (c_Reader_readSetting_3_k3_1_58 (d - 1) (by omega) U I (ov_kws hw (by decide +kernel)) 0 1 30 k0 (by omega) (by omega) (by omega) (by omega) (by omega)) ?_
          rintro _ z70 h71 ⟨v69, rfl, I72, f68⟩
          show ov_R u d ov_m57 75 [(0, ov_r 3)] [ov_i v69] z70 h71 (P_Reader_readLine_3_k3_1_58 F z h)
          have f73 : (v69 = 0 ∧ 1 ≤ (h71 3 2) ∨ v69 = 1) ∧ (h71 36 7) = (h 36 7) ∧ (h71 1 1) = (h 1 1) ∧ (h71 90 2) = (h 90 2) ∧ (h71 0 10) = (h 0 10) ∧ (h71 0 11) = (h 0 11) ∧ (h71 0 12) = (h 0 12) ∧ (h71 0 13) = (h 0 13) ∧ (h71 3 1) = (h 3 1) ∧ (h71 36 8) = (h 36 8) ∧ (h71 46 3) = (h 46 3) ∧ (h71 46 4) = (h 46 4) ∧ (h71 49 4) = (h 49 4) ∧ (h71 49 5) = (h 49 5) ∧ (h71 76 0) = (h 76 0) := f68
          clear f68
          have e74 : h71 3 1 = 58 := by omega
          exact ov_retz (st := []) d_57_75 rfl (by omega) ⟨_, rfl, I72, (by show (v69 = 0 ∧ 1 ≤ (h71 3 2) ∨ v69 = 1) ∧ (h71 36 7) = (h 36 7) ∧ (h71 1 1) = (h 1 1) ∧ (h71 90 2) = (h 90 2) ∧ (h71 0 10) = (h 0 10) ∧ (h71 0 11) = (h 0 11) ∧ (h71 0 12) = (h 0 12) ∧ (h71 0 13) = (h 0 13) ∧ (h71 3 1) = (h 3 1) ∧ (h71 36 8) = (h 36 8) ∧ (h71 46 3) = (h 46 3) ∧ (h71 46 4) = (h 46 4) ∧ (h71 49 4) = (h 49 4) ∧ (h71 49 5) = (h 49 5) ∧ (h71 76 0) = (h 76 0); omega)⟩
      · skip
        refine ov_blk (ls2 := [(0, ov_r 3)]) (st2 := [ov_r 3]) (pc2 := 50) b_57_49_1 rfl rfl ?_
        refine ov_cV (as := []) (st := []) (d2 := d - 1) d_57_50 lk_Reader_123 rfl (Nat.le_of_ble_eq_true rfl) (c := 6) (zb_3 I) (zs_3 I) ⟨by decide, rfl⟩ (by omega) (c_Reader_readRule_3_k3_1_58 (d - 1) (by omega) U I (ov_kws hw (by decide +kernel)) k0) ?_
        rintro _ z77 h78 ⟨v76, rfl, I79, f75⟩
        show ov_R u d ov_m57 53 [(0, ov_r 3)] [ov_i v76] z77 h78 (P_Reader_readLine_3_k3_1_58 F z h)
        have f80 : (v76 = 0 ∧ 1 ≤ (h78 3 2) ∨ v76 = 1) ∧ (h78 36 7) = (h 36 7) ∧ (h78 1 1) = (h 1 1) ∧ (h78 90 2) = (h 90 2) ∧ (h78 0 10) = (h 0 10) ∧ (h78 0 11) = (h 0 11) ∧ (h78 0 12) = (h 0 12) ∧ (h78 0 13) = (h 0 13) ∧ (h78 3 1) = (h 3 1) ∧ (h78 36 8) = (h 36 8) ∧ (h78 46 3) = (h 46 3) ∧ (h78 46 4) = (h 46 4) ∧ (h78 49 4) = (h 49 4) ∧ (h78 49 5) = (h 49 5) ∧ (h78 64 0) = (h 64 0) ∧ (h78 76 0) = (h 76 0) := f75
        clear f75
        have e81 : h78 3 1 = 58 := by omega
        exact ov_retz (st := []) d_57_53 rfl (by omega) ⟨_, rfl, I79, (by show (v76 = 0 ∧ 1 ≤ (h78 3 2) ∨ v76 = 1) ∧ (h78 36 7) = (h 36 7) ∧ (h78 1 1) = (h 1 1) ∧ (h78 90 2) = (h 90 2) ∧ (h78 0 10) = (h 0 10) ∧ (h78 0 11) = (h 0 11) ∧ (h78 0 12) = (h 0 12) ∧ (h78 0 13) = (h 0 13) ∧ (h78 3 1) = (h 3 1) ∧ (h78 36 8) = (h 36 8) ∧ (h78 46 3) = (h 46 3) ∧ (h78 46 4) = (h 46 4) ∧ (h78 49 4) = (h 49 4) ∧ (h78 49 5) = (h 49 5) ∧ (h78 76 0) = (h 76 0); omega)⟩
    · skip
      refine ov_blk (ls2 := [(0, ov_r 3)]) (st2 := [ov_r 3]) (pc2 := 32) b_57_31_1 rfl rfl ?_
      refine ov_cV (as := []) (st := []) (d2 := d - 1) d_57_32 lk_Reader_118 rfl (Nat.le_of_ble_eq_true rfl) (c := 6) (zb_3 I) (zs_3 I) ⟨by decide, rfl⟩ (by omega) (c_Reader_readBar_3_k3_1_58 (d - 1) (by omega) U I (ov_kws hw (by decide +kernel)) k0) ?_
      rintro _ z84 h85 ⟨v83, rfl, I86, f82⟩
      show ov_R u d ov_m57 35 [(0, ov_r 3)] [ov_i v83] z84 h85 (P_Reader_readLine_3_k3_1_58 F z h)
      have f87 : (v83 = 0 ∧ 1 ≤ (h85 3 2) ∨ v83 = 1) ∧ (h85 36 7) = (h 36 7) ∧ (h85 1 1) = (h 1 1) ∧ (h85 90 2) = (h 90 2) ∧ (h85 0 10) = (h 0 10) ∧ (h85 0 11) = (h 0 11) ∧ (h85 0 12) = (h 0 12) ∧ (h85 0 13) = (h 0 13) ∧ (h85 3 1) = (h 3 1) ∧ (h85 36 8) = (h 36 8) ∧ (h85 46 3) = (h 46 3) ∧ (h85 46 4) = (h 46 4) ∧ (h85 49 4) = (h 49 4) ∧ (h85 49 5) = (h 49 5) ∧ (h85 64 0) = (h 64 0) ∧ (h85 76 0) = (h 76 0) := f82
      clear f82
      have e88 : h85 3 1 = 58 := by omega
      exact ov_retz (st := []) d_57_35 rfl (by omega) ⟨_, rfl, I86, (by show (v83 = 0 ∧ 1 ≤ (h85 3 2) ∨ v83 = 1) ∧ (h85 36 7) = (h 36 7) ∧ (h85 1 1) = (h 1 1) ∧ (h85 90 2) = (h 90 2) ∧ (h85 0 10) = (h 0 10) ∧ (h85 0 11) = (h 0 11) ∧ (h85 0 12) = (h 0 12) ∧ (h85 0 13) = (h 0 13) ∧ (h85 3 1) = (h 3 1) ∧ (h85 36 8) = (h 36 8) ∧ (h85 46 3) = (h 46 3) ∧ (h85 46 4) = (h 46 4) ∧ (h85 49 4) = (h 49 4) ∧ (h85 49 5) = (h 49 5) ∧ (h85 76 0) = (h 76 0); omega)⟩
  · skip
    refine ov_blk (ls2 := [(0, ov_r 3)]) (st2 := [ov_r 3]) (pc2 := 14) b_57_13_1 rfl rfl ?_
    refine ov_cV (as := []) (st := []) (d2 := d - 1) d_57_14 lk_Reader_113 rfl (Nat.le_of_ble_eq_true rfl) (c := 6) (zb_3 I) (zs_3 I) ⟨by decide, rfl⟩ (by omega) (c_Reader_readLight_3_k3_1_58 (d - 1) (by omega) U I (ov_kws hw (by decide +kernel)) k0) ?_
    rintro _ z91 h92 ⟨v90, rfl, I93, f89⟩
    show ov_R u d ov_m57 17 [(0, ov_r 3)] [ov_i v90] z91 h92 (P_Reader_readLine_3_k3_1_58 F z h)
    have f94 : (v90 = 0 ∧ 1 ≤ (h92 3 2) ∨ v90 = 1) ∧ (h92 36 7) = (h 36 7) ∧ (h92 1 1) = (h 1 1) ∧ (h92 90 2) = (h 90 2) ∧ (h92 0 10) = (h 0 10) ∧ (h92 0 11) = (h 0 11) ∧ (h92 0 12) = (h 0 12) ∧ (h92 0 13) = (h 0 13) ∧ (h92 3 1) = (h 3 1) ∧ (h92 36 8) = (h 36 8) ∧ (h92 46 3) = (h 46 3) ∧ (h92 46 4) = (h 46 4) ∧ (h92 49 4) = (h 49 4) ∧ (h92 49 5) = (h 49 5) ∧ (h92 64 0) = (h 64 0) ∧ (h92 76 0) = (h 76 0) := f89
    clear f89
    have e95 : h92 3 1 = 58 := by omega
    exact ov_retz (st := []) d_57_17 rfl (by omega) ⟨_, rfl, I93, (by show (v90 = 0 ∧ 1 ≤ (h92 3 2) ∨ v90 = 1) ∧ (h92 36 7) = (h 36 7) ∧ (h92 1 1) = (h 1 1) ∧ (h92 90 2) = (h 90 2) ∧ (h92 0 10) = (h 0 10) ∧ (h92 0 11) = (h 0 11) ∧ (h92 0 12) = (h 0 12) ∧ (h92 0 13) = (h 0 13) ∧ (h92 3 1) = (h 3 1) ∧ (h92 36 8) = (h 36 8) ∧ (h92 46 3) = (h 46 3) ∧ (h92 46 4) = (h 46 4) ∧ (h92 49 4) = (h 49 4) ∧ (h92 49 5) = (h 49 5) ∧ (h92 76 0) = (h 76 0); omega)⟩
abbrev P_Reader_readSize_3_k3_1_58 (F : ov_H) (z : ov_Z) (h : ov_H)  : Option ov_V → ov_Z → ov_H → Prop := fun r0 z' h' => ∃ r : Int, r0 = some (ov_i r) ∧ ov_I F z' h' ∧ ((r = 0 ∧ 1 ≤ (h' 3 2) ∨ r = 1) ∧ (h' 36 7) = (h 36 7) ∧ (h' 1 1) = (h 1 1) ∧ (h' 90 2) = (h 90 2) ∧ (h' 0 10) = (h 0 10) ∧ (h' 0 11) = (h 0 11) ∧ (h' 0 12) = (h 0 12) ∧ (h' 0 13) = (h 0 13) ∧ (h' 3 1) = (h 3 1) ∧ (h' 36 8) = (h 36 8) ∧ (h' 46 3) = (h 46 3) ∧ (h' 46 4) = (h 46 4) ∧ (h' 49 4) = (h 49 4) ∧ (h' 49 5) = (h 49 5) ∧ (h' 64 0) = (h 64 0) ∧ (h' 76 0) = (h 76 0))
set_option maxHeartbeats 4000000 in
theorem c_Reader_readSize_3_k3_1_58 {u : ov_U} {F : ov_H} {z : ov_Z} {h : ov_H} (d : Nat) (hd : 6 ≤ d) (U : ov_cap u) (I : ov_I F z h) (hw : ov_kw 288230376151711754 F) (k0 : h 3 1 = 58) : ov_T u d ov_m49 [ov_r 3] z h (P_Reader_readSize_3_k3_1_58 F z h) := by
  refine ov_en rfl (Nat.le_of_ble_eq_true rfl) ?_
  show ov_R u d ov_m49 0 [(0, ov_r 3)] [] z h (P_Reader_readSize_3_k3_1_58 F z h)
  refine ov_blk (ls2 := [(0, ov_r 3)]) (st2 := [ov_r 3]) (pc2 := 1) b_49_0_1 rfl rfl ?_
  refine ov_ldc2 (n := 1953462126) d_49_1 kc_Reader_96 ?_
  refine ov_cV (as := [ov_l 1953462126]) (st := []) (d2 := d - 1) d_49_4 lk_Reader_98 rfl (Nat.le_of_ble_eq_true rfl) (c := 6) (zb_3 I) (zs_3 I) ⟨by decide, rfl⟩ (by omega) (c_Reader_takeWord_3_k3_1_58 (d - 1) (by omega) U I (ov_kws hw (by decide +kernel)) 1953462126 k0) ?_
  rintro _ z3 h4 ⟨v2, rfl, I5, f1⟩
  show ov_R u d ov_m49 7 [(0, ov_r 3)] [ov_i v2] z3 h4 (P_Reader_readSize_3_k3_1_58 F z h)
  have f6 : (v2 = 0 ∧ 1 ≤ (h4 3 2) ∨ v2 = 1) ∧ (h4 36 7) = (h 36 7) ∧ (h4 1 1) = (h 1 1) ∧ (h4 90 2) = (h 90 2) ∧ (h4 0 10) = (h 0 10) ∧ (h4 0 11) = (h 0 11) ∧ (h4 0 12) = (h 0 12) ∧ (h4 0 13) = (h 0 13) ∧ (h4 3 1) = (h 3 1) ∧ (h4 36 8) = (h 36 8) ∧ (h4 46 3) = (h 46 3) ∧ (h4 46 4) = (h 46 4) ∧ (h4 49 4) = (h 49 4) ∧ (h4 49 5) = (h 49 5) ∧ (h4 64 0) = (h 64 0) ∧ (h4 76 0) = (h 76 0) := f1
  clear f1
  have e7 : h4 3 1 = 58 := by omega
  refine ov_ifeq (tgt := 20) d_49_7 (by decide) (by omega) (fun c8 => ?_) (fun c8 => ?_)
  · skip
    refine ov_blk (ls2 := [(0, ov_r 3)]) (st2 := [ov_i 0]) (pc2 := 21) b_49_20_1 rfl rfl ?_
    exact ov_retz (st := []) d_49_21 rfl (by omega) ⟨_, rfl, I5, (by show (0 = 0 ∧ 1 ≤ (h4 3 2) ∨ 0 = 1) ∧ (h4 36 7) = (h 36 7) ∧ (h4 1 1) = (h 1 1) ∧ (h4 90 2) = (h 90 2) ∧ (h4 0 10) = (h 0 10) ∧ (h4 0 11) = (h 0 11) ∧ (h4 0 12) = (h 0 12) ∧ (h4 0 13) = (h 0 13) ∧ (h4 3 1) = (h 3 1) ∧ (h4 36 8) = (h 36 8) ∧ (h4 46 3) = (h 46 3) ∧ (h4 46 4) = (h 46 4) ∧ (h4 49 4) = (h 49 4) ∧ (h4 49 5) = (h 49 5) ∧ (h4 64 0) = (h 64 0) ∧ (h4 76 0) = (h 76 0); omega)⟩
  · skip
    refine ov_blk (ls2 := [(0, ov_r 3)]) (st2 := [ov_i 6, ov_i 1, ov_r 3]) (pc2 := 14) b_49_10_3 rfl rfl ?_
    refine ov_cV (as := [ov_i 1, ov_i 6]) (st := []) (d2 := d - 1) d_49_14 lk_Reader_78 rfl (Nat.le_of_ble_eq_true rfl) (c := 6) (zb_3 I5) (zs_3 I5) ⟨by decide, rfl⟩ (by omega) (c_Reader_takeNumber_3_k3_1_58 (d - 1) (by omega) U I5 (ov_kws hw (by decide +kernel)) 1 6 e7 (by omega) (by omega)) ?_
    rintro _ z11 h12 ⟨v10, rfl, I13, f9⟩
    show ov_R u d ov_m49 17 [(0, ov_r 3)] [ov_i v10] z11 h12 (P_Reader_readSize_3_k3_1_58 F z h)
    have f14 : (v10 = 0 ∧ 1 ≤ (h12 3 2) ∨ v10 = 1 ∧ (1 : Int) ≤ (h12 3 3) ∧ (h12 3 3) ≤ (6 : Int)) ∧ (h12 36 7) = (h4 36 7) ∧ (h12 1 1) = (h4 1 1) ∧ (h12 90 2) = (h4 90 2) ∧ (h12 0 10) = (h4 0 10) ∧ (h12 0 11) = (h4 0 11) ∧ (h12 0 12) = (h4 0 12) ∧ (h12 0 13) = (h4 0 13) ∧ (h12 3 1) = (h4 3 1) ∧ (h12 36 8) = (h4 36 8) ∧ (h12 46 3) = (h4 46 3) ∧ (h12 46 4) = (h4 46 4) ∧ (h12 49 4) = (h4 49 4) ∧ (h12 49 5) = (h4 49 5) ∧ (h12 64 0) = (h4 64 0) ∧ (h12 76 0) = (h4 76 0) := f9
    clear f9
    have e15 : h12 3 1 = 58 := by omega
    refine ov_ifne (tgt := 22) d_49_17 (by decide) (by omega) (fun c16 => ?_) (fun c16 => ?_)
    · skip
      refine ov_blk (ls2 := [(0, ov_r 3)]) (st2 := [ov_r 3]) (pc2 := 23) b_49_22_1 rfl rfl ?_
      refine ov_getf (v := ov_r 58) d_49_23 fl_Reader_15 (zb_3 I13) (zs_3 I13) (congrArg ov_r e15) ?_
      refine ov_blk (ls2 := [(0, ov_r 3)]) (st2 := [ov_r 3, ov_r 58]) (pc2 := 27) b_49_26_1 rfl rfl ?_
      refine ov_getf (v := ov_i (h12 3 3)) d_49_27 fl_Reader_81 (zb_3 I13) (zs_3 I13) rfl ?_
      have g17 := rg_3_3 I13
      refine ov_putf (x := (h12 3 3)) d_49_30 fl_Reader_102 (zb_58 I13) (zs_58 I13) rfl nk_0 rfl ?_
      have I18 := up_58_0 (x := (h12 3 3)) I13 (by omega) (hw 58 (by decide +kernel))
      refine ov_blk (ls2 := [(0, ov_r 3)]) (st2 := [ov_i 9, ov_i 1, ov_r 3]) (pc2 := 37) b_49_33_3 rfl rfl ?_
      refine ov_cV (as := [ov_i 1, ov_i 9]) (st := []) (d2 := d - 1) d_49_37 lk_Reader_78 rfl (Nat.le_of_ble_eq_true rfl) (c := 6) (zb_3 I18) (zs_3 I18) ⟨by decide, rfl⟩ (by omega) (c_Reader_takeNumber_3_k3_1_58 (d - 1) (by omega) U I18 (ov_kws hw (by decide +kernel)) 1 9 e15 (by omega) (by omega)) ?_
      rintro _ z21 h22 ⟨v20, rfl, I23, f19⟩
      show ov_R u d ov_m49 40 [(0, ov_r 3)] [ov_i v20] z21 h22 (P_Reader_readSize_3_k3_1_58 F z h)
      have f24 : (v20 = 0 ∧ 1 ≤ (h22 3 2) ∨ v20 = 1 ∧ (1 : Int) ≤ (h22 3 3) ∧ (h22 3 3) ≤ (9 : Int)) ∧ (h22 36 7) = (h12 36 7) ∧ (h22 1 1) = (h12 1 1) ∧ (h22 90 2) = (h12 90 2) ∧ (h22 0 10) = (h12 0 10) ∧ (h22 0 11) = (h12 0 11) ∧ (h22 0 12) = (h12 0 12) ∧ (h22 0 13) = (h12 0 13) ∧ (h22 3 1) = (h12 3 1) ∧ (h22 36 8) = (h12 36 8) ∧ (h22 46 3) = (h12 46 3) ∧ (h22 46 4) = (h12 46 4) ∧ (h22 49 4) = (h12 49 4) ∧ (h22 49 5) = (h12 49 5) ∧ (h22 64 0) = (h12 64 0) ∧ (h22 76 0) = (h12 76 0) := f19
      clear f19
      have e25 : h22 3 1 = 58 := by omega
      refine ov_ifne (tgt := 45) d_49_40 (by decide) (by omega) (fun c26 => ?_) (fun c26 => ?_)
      · skip
        refine ov_blk (ls2 := [(0, ov_r 3)]) (st2 := [ov_r 3]) (pc2 := 46) b_49_45_1 rfl rfl ?_
        refine ov_getf (v := ov_r 58) d_49_46 fl_Reader_15 (zb_3 I23) (zs_3 I23) (congrArg ov_r e25) ?_
        refine ov_blk (ls2 := [(0, ov_r 3)]) (st2 := [ov_r 3, ov_r 58]) (pc2 := 50) b_49_49_1 rfl rfl ?_
        refine ov_getf (v := ov_i (h22 3 3)) d_49_50 fl_Reader_81 (zb_3 I23) (zs_3 I23) rfl ?_
        have g27 := rg_3_3 I23
        refine ov_putf (x := (h22 3 3)) d_49_53 fl_Reader_105 (zb_58 I23) (zs_58 I23) rfl nk_0 rfl ?_
        have I28 := up_58_1 (x := (h22 3 3)) I23 (by omega) (hw 58 (by decide +kernel))
        refine ov_blk (ls2 := [(0, ov_r 3)]) (st2 := [ov_i 59, ov_r 3]) (pc2 := 59) b_49_56_2 rfl rfl ?_
        refine ov_cV (as := [ov_i 59]) (st := []) (d2 := d - 1) d_49_59 lk_Reader_92 rfl (Nat.le_of_ble_eq_true rfl) (c := 6) (zb_3 I28) (zs_3 I28) ⟨by decide, rfl⟩ (by omega) (c_Reader_takeSign_3_k3_1_58 (d - 1) (by omega) U I28 (ov_kws hw (by decide +kernel)) 59 e25 (by omega)) ?_
        rintro _ z31 h32 ⟨v30, rfl, I33, f29⟩
        show ov_R u d ov_m49 62 [(0, ov_r 3)] [ov_i v30] z31 h32 (P_Reader_readSize_3_k3_1_58 F z h)
        have f34 : (v30 = 0 ∧ 1 ≤ (h32 3 2) ∨ v30 = 1) ∧ (h32 36 7) = (h22 36 7) ∧ (h32 1 1) = (h22 1 1) ∧ (h32 90 2) = (h22 90 2) ∧ (h32 0 10) = (h22 0 10) ∧ (h32 0 11) = (h22 0 11) ∧ (h32 0 12) = (h22 0 12) ∧ (h32 0 13) = (h22 0 13) ∧ (h32 3 1) = (h22 3 1) ∧ (h32 36 8) = (h22 36 8) ∧ (h32 46 3) = (h22 46 3) ∧ (h32 46 4) = (h22 46 4) ∧ (h32 49 4) = (h22 49 4) ∧ (h32 49 5) = (h22 49 5) ∧ (h32 64 0) = (h22 64 0) ∧ (h32 76 0) = (h22 76 0) := f29
        clear f29
        have e35 : h32 3 1 = 58 := by omega
        exact ov_retz (st := []) d_49_62 rfl (by omega) ⟨_, rfl, I33, (by show (v30 = 0 ∧ 1 ≤ (h32 3 2) ∨ v30 = 1) ∧ (h32 36 7) = (h 36 7) ∧ (h32 1 1) = (h 1 1) ∧ (h32 90 2) = (h 90 2) ∧ (h32 0 10) = (h 0 10) ∧ (h32 0 11) = (h 0 11) ∧ (h32 0 12) = (h 0 12) ∧ (h32 0 13) = (h 0 13) ∧ (h32 3 1) = (h 3 1) ∧ (h32 36 8) = (h 36 8) ∧ (h32 46 3) = (h 46 3) ∧ (h32 46 4) = (h 46 4) ∧ (h32 49 4) = (h 49 4) ∧ (h32 49 5) = (h 49 5) ∧ (h32 64 0) = (h 64 0) ∧ (h32 76 0) = (h 76 0); omega)⟩
      · skip
        refine ov_blk (ls2 := [(0, ov_r 3)]) (st2 := [ov_i 0]) (pc2 := 44) b_49_43_1 rfl rfl ?_
        exact ov_retz (st := []) d_49_44 rfl (by omega) ⟨_, rfl, I23, (by show (0 = 0 ∧ 1 ≤ (h22 3 2) ∨ 0 = 1) ∧ (h22 36 7) = (h 36 7) ∧ (h22 1 1) = (h 1 1) ∧ (h22 90 2) = (h 90 2) ∧ (h22 0 10) = (h 0 10) ∧ (h22 0 11) = (h 0 11) ∧ (h22 0 12) = (h 0 12) ∧ (h22 0 13) = (h 0 13) ∧ (h22 3 1) = (h 3 1) ∧ (h22 36 8) = (h 36 8) ∧ (h22 46 3) = (h 46 3) ∧ (h22 46 4) = (h 46 4) ∧ (h22 49 4) = (h 49 4) ∧ (h22 49 5) = (h 49 5) ∧ (h22 64 0) = (h 64 0) ∧ (h22 76 0) = (h 76 0); omega)⟩
    · skip
      refine ov_blk (ls2 := [(0, ov_r 3)]) (st2 := [ov_i 0]) (pc2 := 21) b_49_20_1 rfl rfl ?_
      exact ov_retz (st := []) d_49_21 rfl (by omega) ⟨_, rfl, I13, (by show (0 = 0 ∧ 1 ≤ (h12 3 2) ∨ 0 = 1) ∧ (h12 36 7) = (h 36 7) ∧ (h12 1 1) = (h 1 1) ∧ (h12 90 2) = (h 90 2) ∧ (h12 0 10) = (h 0 10) ∧ (h12 0 11) = (h 0 11) ∧ (h12 0 12) = (h 0 12) ∧ (h12 0 13) = (h 0 13) ∧ (h12 3 1) = (h 3 1) ∧ (h12 36 8) = (h 36 8) ∧ (h12 46 3) = (h 46 3) ∧ (h12 46 4) = (h 46 4) ∧ (h12 49 4) = (h 49 4) ∧ (h12 49 5) = (h 49 5) ∧ (h12 64 0) = (h 64 0) ∧ (h12 76 0) = (h 76 0); omega)⟩
abbrev P_Reader_fail_3_k3_1_70 (F : ov_H) (z : ov_Z) (h : ov_H) (k : Int) : Option ov_V → ov_Z → ov_H → Prop := fun r0 z' h' => ∃ r : Int, r0 = some (ov_i r) ∧ ov_I F z' h' ∧ (r = 0 ∧ 1 ≤ (h' 3 2) ∧ (h' 36 7) = (h 36 7) ∧ (h' 1 1) = (h 1 1) ∧ (h' 90 2) = (h 90 2) ∧ (h' 0 10) = (h 0 10) ∧ (h' 0 11) = (h 0 11) ∧ (h' 0 12) = (h 0 12) ∧ (h' 0 13) = (h 0 13) ∧ (h' 3 1) = (h 3 1) ∧ (h' 36 8) = (h 36 8) ∧ (h' 46 3) = (h 46 3) ∧ (h' 46 4) = (h 46 4) ∧ (h' 49 4) = (h 49 4) ∧ (h' 49 5) = (h 49 5) ∧ (h' 64 0) = (h 64 0) ∧ (h' 76 0) = (h 76 0))
set_option maxHeartbeats 4000000 in
theorem c_Reader_fail_3_k3_1_70 {u : ov_U} {F : ov_H} {z : ov_Z} {h : ov_H} (d : Nat) (hd : 0 ≤ d) (U : ov_cap u) (I : ov_I F z h) (hw : ov_kw 8 F) (k : Int) (k0 : h 3 1 = 70) (g_k : ov_g k) (p0 : 1 ≤ k ∧ k ≤ 5) : ov_T u d ov_m52 [ov_r 3, ov_i k] z h (P_Reader_fail_3_k3_1_70 F z h k) := by
  refine ov_en rfl (Nat.le_of_ble_eq_true rfl) ?_
  show ov_R u d ov_m52 0 [(0, ov_r 3), (1, ov_i k)] [] z h (P_Reader_fail_3_k3_1_70 F z h k)
  refine ov_blk (ls2 := [(0, ov_r 3), (1, ov_i k)]) (st2 := [ov_r 3, ov_i 16, ov_i k, ov_r 3]) (pc2 := 5) b_52_0_4 rfl rfl ?_
  refine ov_getf (v := ov_r 1) d_52_5 fl_Reader_9 (zb_3 I) (zs_3 I) (congrArg ov_r (rg_3_0 I)) ?_
  refine ov_getf (v := ov_i (h 1 3)) d_52_8 fl_Reader_263 (zb_1 I) (zs_1 I) rfl ?_
  have g1 := rg_1_3 I
  refine ov_blk (ls2 := [(0, ov_r 3), (1, ov_i k)]) (st2 := [ov_i (k + (16 * (h 1 3))), ov_r 3]) (pc2 := 13) b_52_11_2 rfl rfl ?_
  refine ov_putf (x := (k + (16 * (h 1 3)))) d_52_13 fl_Reader_24 (zb_3 I) (zs_3 I) rfl nk_0 rfl ?_
  have I2 := up_3_2 (x := (k + (16 * (h 1 3)))) I (by omega) (hw 3 (by decide +kernel))
  refine ov_blk (ls2 := [(0, ov_r 3), (1, ov_i k)]) (st2 := [ov_i 0]) (pc2 := 17) b_52_16_1 rfl rfl ?_
  exact ov_retz (st := []) d_52_17 rfl (by omega) ⟨_, rfl, I2, (by show 0 = 0 ∧ 1 ≤ (k + (16 * (h 1 3))) ∧ (h 36 7) = (h 36 7) ∧ (h 1 1) = (h 1 1) ∧ (h 90 2) = (h 90 2) ∧ (h 0 10) = (h 0 10) ∧ (h 0 11) = (h 0 11) ∧ (h 0 12) = (h 0 12) ∧ (h 0 13) = (h 0 13) ∧ (h 3 1) = (h 3 1) ∧ (h 36 8) = (h 36 8) ∧ (h 46 3) = (h 46 3) ∧ (h 46 4) = (h 46 4) ∧ (h 49 4) = (h 49 4) ∧ (h 49 5) = (h 49 5) ∧ (h 64 0) = (h 64 0) ∧ (h 76 0) = (h 76 0); omega)⟩
abbrev P_Reader_isNumber_3_k3_1_70 (F : ov_H) (z : ov_Z) (h : ov_H) (a : Int) (b : Int) : Option ov_V → ov_Z → ov_H → Prop := fun r0 z' h' => ∃ r : Int, r0 = some (ov_i r) ∧ ov_I F z' h' ∧ ((r = 0 ∧ 1 ≤ (h' 3 2) ∨ r = 1 ∧ a ≤ (h' 1 4) ∧ (h' 1 4) ≤ b) ∧ (h' 36 7) = (h 36 7) ∧ (h' 1 1) = (h 1 1) ∧ (h' 90 2) = (h 90 2) ∧ (h' 0 10) = (h 0 10) ∧ (h' 0 11) = (h 0 11) ∧ (h' 0 12) = (h 0 12) ∧ (h' 0 13) = (h 0 13) ∧ (h' 3 1) = (h 3 1) ∧ (h' 36 8) = (h 36 8) ∧ (h' 46 3) = (h 46 3) ∧ (h' 46 4) = (h 46 4) ∧ (h' 49 4) = (h 49 4) ∧ (h' 49 5) = (h 49 5) ∧ (h' 64 0) = (h 64 0) ∧ (h' 76 0) = (h 76 0))
set_option maxHeartbeats 4000000 in
theorem c_Reader_isNumber_3_k3_1_70 {u : ov_U} {F : ov_H} {z : ov_Z} {h : ov_H} (d : Nat) (hd : 1 ≤ d) (U : ov_cap u) (I : ov_I F z h) (hw : ov_kw 8 F) (a : Int) (b : Int) (k0 : h 3 1 = 70) (g_a : ov_g a) (g_b : ov_g b) : ov_T u d ov_m54 [ov_r 3, ov_i a, ov_i b] z h (P_Reader_isNumber_3_k3_1_70 F z h a b) := by
  refine ov_en rfl (Nat.le_of_ble_eq_true rfl) ?_
  show ov_R u d ov_m54 0 [(0, ov_r 3), (1, ov_i a), (2, ov_i b)] [] z h (P_Reader_isNumber_3_k3_1_70 F z h a b)
  refine ov_blk (ls2 := [(0, ov_r 3), (1, ov_i a), (2, ov_i b)]) (st2 := [ov_r 3]) (pc2 := 1) b_54_0_1 rfl rfl ?_
  refine ov_getf (v := ov_r 1) d_54_1 fl_Reader_9 (zb_3 I) (zs_3 I) (congrArg ov_r (rg_3_0 I)) ?_
  refine ov_getf (v := ov_i (h 1 2)) d_54_4 fl_Reader_37 (zb_1 I) (zs_1 I) rfl ?_
  have g1 := rg_1_2 I
  refine ov_blk (ls2 := [(0, ov_r 3), (1, ov_i a), (2, ov_i b)]) (st2 := [ov_i 3, ov_i (h 1 2)]) (pc2 := 8) b_54_7_1 rfl rfl ?_
  refine ov_iceq (tgt := 17) d_54_8 (by decide) (by omega) (by omega) (fun c2 => ?_) (fun c2 => ?_)
  · skip
    refine ov_blk (ls2 := [(0, ov_r 3), (1, ov_i a), (2, ov_i b)]) (st2 := [ov_r 3]) (pc2 := 18) b_54_17_1 rfl rfl ?_
    refine ov_getf (v := ov_r 1) d_54_18 fl_Reader_9 (zb_3 I) (zs_3 I) (congrArg ov_r (rg_3_0 I)) ?_
    refine ov_getf (v := ov_i (h 1 4)) d_54_21 fl_Reader_146 (zb_1 I) (zs_1 I) rfl ?_
    have g3 := rg_1_4 I
    refine ov_blk (ls2 := [(0, ov_r 3), (1, ov_i a), (2, ov_i b)]) (st2 := [ov_i a, ov_i (h 1 4)]) (pc2 := 25) b_54_24_1 rfl rfl ?_
    refine ov_iclt (tgt := 39) d_54_25 (by decide) (by omega) (by omega) (fun c4 => ?_) (fun c4 => ?_)
    · skip
      refine ov_blk (ls2 := [(0, ov_r 3), (1, ov_i a), (2, ov_i b)]) (st2 := [ov_i 4, ov_r 3]) (pc2 := 41) b_54_39_2 rfl rfl ?_
      refine ov_cV (as := [ov_i 4]) (st := []) (d2 := d - 1) d_54_41 lk_Reader_58 rfl (Nat.le_of_ble_eq_true rfl) (c := 6) (zb_3 I) (zs_3 I) ⟨by decide, rfl⟩ (by omega) (c_Reader_fail_3_k3_1_70 (d - 1) (by omega) U I (ov_kws hw (by decide +kernel)) 4 k0 (by omega) (by omega)) ?_
      rintro _ z7 h8 ⟨v6, rfl, I9, f5⟩
      show ov_R u d ov_m54 44 [(0, ov_r 3), (1, ov_i a), (2, ov_i b)] [ov_i v6] z7 h8 (P_Reader_isNumber_3_k3_1_70 F z h a b)
      have f10 : v6 = 0 ∧ 1 ≤ (h8 3 2) ∧ (h8 36 7) = (h 36 7) ∧ (h8 1 1) = (h 1 1) ∧ (h8 90 2) = (h 90 2) ∧ (h8 0 10) = (h 0 10) ∧ (h8 0 11) = (h 0 11) ∧ (h8 0 12) = (h 0 12) ∧ (h8 0 13) = (h 0 13) ∧ (h8 3 1) = (h 3 1) ∧ (h8 36 8) = (h 36 8) ∧ (h8 46 3) = (h 46 3) ∧ (h8 46 4) = (h 46 4) ∧ (h8 49 4) = (h 49 4) ∧ (h8 49 5) = (h 49 5) ∧ (h8 64 0) = (h 64 0) ∧ (h8 76 0) = (h 76 0) := f5
      clear f5
      have e11 : h8 3 1 = 70 := by omega
      refine ov_ifeq (tgt := 51) d_54_44 (by decide) (by omega) (fun c12 => ?_) (fun c12 => ?_)
      · skip
        refine ov_blk (ls2 := [(0, ov_r 3), (1, ov_i a), (2, ov_i b)]) (st2 := [ov_i 0]) (pc2 := 52) b_54_51_1 rfl rfl ?_
        exact ov_retz (st := []) d_54_52 rfl (by omega) ⟨_, rfl, I9, (by show (0 = 0 ∧ 1 ≤ (h8 3 2) ∨ 0 = 1 ∧ a ≤ (h8 1 4) ∧ (h8 1 4) ≤ b) ∧ (h8 36 7) = (h 36 7) ∧ (h8 1 1) = (h 1 1) ∧ (h8 90 2) = (h 90 2) ∧ (h8 0 10) = (h 0 10) ∧ (h8 0 11) = (h 0 11) ∧ (h8 0 12) = (h 0 12) ∧ (h8 0 13) = (h 0 13) ∧ (h8 3 1) = (h 3 1) ∧ (h8 36 8) = (h 36 8) ∧ (h8 46 3) = (h 46 3) ∧ (h8 46 4) = (h 46 4) ∧ (h8 49 4) = (h 49 4) ∧ (h8 49 5) = (h 49 5) ∧ (h8 64 0) = (h 64 0) ∧ (h8 76 0) = (h 76 0); omega)⟩
      · skip
        refine ov_blk (ls2 := [(0, ov_r 3), (1, ov_i a), (2, ov_i b)]) (st2 := [ov_i 1]) (pc2 := 48) b_54_47_1 rfl rfl ?_
        refine ov_goto (tgt := 52) d_54_48 (by decide) ?_
        exact ov_retz (st := []) d_54_52 rfl (by omega) ⟨_, rfl, I9, (by show (1 = 0 ∧ 1 ≤ (h8 3 2) ∨ 1 = 1 ∧ a ≤ (h8 1 4) ∧ (h8 1 4) ≤ b) ∧ (h8 36 7) = (h 36 7) ∧ (h8 1 1) = (h 1 1) ∧ (h8 90 2) = (h 90 2) ∧ (h8 0 10) = (h 0 10) ∧ (h8 0 11) = (h 0 11) ∧ (h8 0 12) = (h 0 12) ∧ (h8 0 13) = (h 0 13) ∧ (h8 3 1) = (h 3 1) ∧ (h8 36 8) = (h 36 8) ∧ (h8 46 3) = (h 46 3) ∧ (h8 46 4) = (h 46 4) ∧ (h8 49 4) = (h 49 4) ∧ (h8 49 5) = (h 49 5) ∧ (h8 64 0) = (h 64 0) ∧ (h8 76 0) = (h 76 0); omega)⟩
    · skip
      refine ov_blk (ls2 := [(0, ov_r 3), (1, ov_i a), (2, ov_i b)]) (st2 := [ov_r 3]) (pc2 := 29) b_54_28_1 rfl rfl ?_
      refine ov_getf (v := ov_r 1) d_54_29 fl_Reader_9 (zb_3 I) (zs_3 I) (congrArg ov_r (rg_3_0 I)) ?_
      refine ov_getf (v := ov_i (h 1 4)) d_54_32 fl_Reader_146 (zb_1 I) (zs_1 I) rfl ?_
      refine ov_blk (ls2 := [(0, ov_r 3), (1, ov_i a), (2, ov_i b)]) (st2 := [ov_i b, ov_i (h 1 4)]) (pc2 := 36) b_54_35_1 rfl rfl ?_
      refine ov_icle (tgt := 47) d_54_36 (by decide) (by omega) (by omega) (fun c14 => ?_) (fun c14 => ?_)
      · skip
        refine ov_blk (ls2 := [(0, ov_r 3), (1, ov_i a), (2, ov_i b)]) (st2 := [ov_i 1]) (pc2 := 48) b_54_47_1 rfl rfl ?_
        refine ov_goto (tgt := 52) d_54_48 (by decide) ?_
        exact ov_retz (st := []) d_54_52 rfl (by omega) ⟨_, rfl, I, (by show (1 = 0 ∧ 1 ≤ (h 3 2) ∨ 1 = 1 ∧ a ≤ (h 1 4) ∧ (h 1 4) ≤ b) ∧ (h 36 7) = (h 36 7) ∧ (h 1 1) = (h 1 1) ∧ (h 90 2) = (h 90 2) ∧ (h 0 10) = (h 0 10) ∧ (h 0 11) = (h 0 11) ∧ (h 0 12) = (h 0 12) ∧ (h 0 13) = (h 0 13) ∧ (h 3 1) = (h 3 1) ∧ (h 36 8) = (h 36 8) ∧ (h 46 3) = (h 46 3) ∧ (h 46 4) = (h 46 4) ∧ (h 49 4) = (h 49 4) ∧ (h 49 5) = (h 49 5) ∧ (h 64 0) = (h 64 0) ∧ (h 76 0) = (h 76 0); omega)⟩
      · skip
        refine ov_blk (ls2 := [(0, ov_r 3), (1, ov_i a), (2, ov_i b)]) (st2 := [ov_i 4, ov_r 3]) (pc2 := 41) b_54_39_2 rfl rfl ?_
        refine ov_cV (as := [ov_i 4]) (st := []) (d2 := d - 1) d_54_41 lk_Reader_58 rfl (Nat.le_of_ble_eq_true rfl) (c := 6) (zb_3 I) (zs_3 I) ⟨by decide, rfl⟩ (by omega) (c_Reader_fail_3_k3_1_70 (d - 1) (by omega) U I (ov_kws hw (by decide +kernel)) 4 k0 (by omega) (by omega)) ?_
        rintro _ z17 h18 ⟨v16, rfl, I19, f15⟩
        show ov_R u d ov_m54 44 [(0, ov_r 3), (1, ov_i a), (2, ov_i b)] [ov_i v16] z17 h18 (P_Reader_isNumber_3_k3_1_70 F z h a b)
        have f20 : v16 = 0 ∧ 1 ≤ (h18 3 2) ∧ (h18 36 7) = (h 36 7) ∧ (h18 1 1) = (h 1 1) ∧ (h18 90 2) = (h 90 2) ∧ (h18 0 10) = (h 0 10) ∧ (h18 0 11) = (h 0 11) ∧ (h18 0 12) = (h 0 12) ∧ (h18 0 13) = (h 0 13) ∧ (h18 3 1) = (h 3 1) ∧ (h18 36 8) = (h 36 8) ∧ (h18 46 3) = (h 46 3) ∧ (h18 46 4) = (h 46 4) ∧ (h18 49 4) = (h 49 4) ∧ (h18 49 5) = (h 49 5) ∧ (h18 64 0) = (h 64 0) ∧ (h18 76 0) = (h 76 0) := f15
        clear f15
        have e21 : h18 3 1 = 70 := by omega
        refine ov_ifeq (tgt := 51) d_54_44 (by decide) (by omega) (fun c22 => ?_) (fun c22 => ?_)
        · skip
          refine ov_blk (ls2 := [(0, ov_r 3), (1, ov_i a), (2, ov_i b)]) (st2 := [ov_i 0]) (pc2 := 52) b_54_51_1 rfl rfl ?_
          exact ov_retz (st := []) d_54_52 rfl (by omega) ⟨_, rfl, I19, (by show (0 = 0 ∧ 1 ≤ (h18 3 2) ∨ 0 = 1 ∧ a ≤ (h18 1 4) ∧ (h18 1 4) ≤ b) ∧ (h18 36 7) = (h 36 7) ∧ (h18 1 1) = (h 1 1) ∧ (h18 90 2) = (h 90 2) ∧ (h18 0 10) = (h 0 10) ∧ (h18 0 11) = (h 0 11) ∧ (h18 0 12) = (h 0 12) ∧ (h18 0 13) = (h 0 13) ∧ (h18 3 1) = (h 3 1) ∧ (h18 36 8) = (h 36 8) ∧ (h18 46 3) = (h 46 3) ∧ (h18 46 4) = (h 46 4) ∧ (h18 49 4) = (h 49 4) ∧ (h18 49 5) = (h 49 5) ∧ (h18 64 0) = (h 64 0) ∧ (h18 76 0) = (h 76 0); omega)⟩
        · skip
          refine ov_blk (ls2 := [(0, ov_r 3), (1, ov_i a), (2, ov_i b)]) (st2 := [ov_i 1]) (pc2 := 48) b_54_47_1 rfl rfl ?_
          refine ov_goto (tgt := 52) d_54_48 (by decide) ?_
          exact ov_retz (st := []) d_54_52 rfl (by omega) ⟨_, rfl, I19, (by show (1 = 0 ∧ 1 ≤ (h18 3 2) ∨ 1 = 1 ∧ a ≤ (h18 1 4) ∧ (h18 1 4) ≤ b) ∧ (h18 36 7) = (h 36 7) ∧ (h18 1 1) = (h 1 1) ∧ (h18 90 2) = (h 90 2) ∧ (h18 0 10) = (h 0 10) ∧ (h18 0 11) = (h 0 11) ∧ (h18 0 12) = (h 0 12) ∧ (h18 0 13) = (h 0 13) ∧ (h18 3 1) = (h 3 1) ∧ (h18 36 8) = (h 36 8) ∧ (h18 46 3) = (h 46 3) ∧ (h18 46 4) = (h 46 4) ∧ (h18 49 4) = (h 49 4) ∧ (h18 49 5) = (h 49 5) ∧ (h18 64 0) = (h 64 0) ∧ (h18 76 0) = (h 76 0); omega)⟩
  · skip
    refine ov_blk (ls2 := [(0, ov_r 3), (1, ov_i a), (2, ov_i b)]) (st2 := [ov_i 1, ov_r 3]) (pc2 := 13) b_54_11_2 rfl rfl ?_
    refine ov_cV (as := [ov_i 1]) (st := []) (d2 := d - 1) d_54_13 lk_Reader_58 rfl (Nat.le_of_ble_eq_true rfl) (c := 6) (zb_3 I) (zs_3 I) ⟨by decide, rfl⟩ (by omega) (c_Reader_fail_3_k3_1_70 (d - 1) (by omega) U I (ov_kws hw (by decide +kernel)) 1 k0 (by omega) (by omega)) ?_
    rintro _ z25 h26 ⟨v24, rfl, I27, f23⟩
    show ov_R u d ov_m54 16 [(0, ov_r 3), (1, ov_i a), (2, ov_i b)] [ov_i v24] z25 h26 (P_Reader_isNumber_3_k3_1_70 F z h a b)
    have f28 : v24 = 0 ∧ 1 ≤ (h26 3 2) ∧ (h26 36 7) = (h 36 7) ∧ (h26 1 1) = (h 1 1) ∧ (h26 90 2) = (h 90 2) ∧ (h26 0 10) = (h 0 10) ∧ (h26 0 11) = (h 0 11) ∧ (h26 0 12) = (h 0 12) ∧ (h26 0 13) = (h 0 13) ∧ (h26 3 1) = (h 3 1) ∧ (h26 36 8) = (h 36 8) ∧ (h26 46 3) = (h 46 3) ∧ (h26 46 4) = (h 46 4) ∧ (h26 49 4) = (h 49 4) ∧ (h26 49 5) = (h 49 5) ∧ (h26 64 0) = (h 64 0) ∧ (h26 76 0) = (h 76 0) := f23
    clear f23
    have e29 : h26 3 1 = 70 := by omega
    exact ov_retz (st := []) d_54_16 rfl (by omega) ⟨_, rfl, I27, (by show (v24 = 0 ∧ 1 ≤ (h26 3 2) ∨ v24 = 1 ∧ a ≤ (h26 1 4) ∧ (h26 1 4) ≤ b) ∧ (h26 36 7) = (h 36 7) ∧ (h26 1 1) = (h 1 1) ∧ (h26 90 2) = (h 90 2) ∧ (h26 0 10) = (h 0 10) ∧ (h26 0 11) = (h 0 11) ∧ (h26 0 12) = (h 0 12) ∧ (h26 0 13) = (h 0 13) ∧ (h26 3 1) = (h 3 1) ∧ (h26 36 8) = (h 36 8) ∧ (h26 46 3) = (h 46 3) ∧ (h26 46 4) = (h 46 4) ∧ (h26 49 4) = (h 49 4) ∧ (h26 49 5) = (h 49 5) ∧ (h26 64 0) = (h 64 0) ∧ (h26 76 0) = (h 76 0); omega)⟩
abbrev P_Reader_takeNumber_3_k3_1_70 (F : ov_H) (z : ov_Z) (h : ov_H) (a : Int) (b : Int) : Option ov_V → ov_Z → ov_H → Prop := fun r0 z' h' => ∃ r : Int, r0 = some (ov_i r) ∧ ov_I F z' h' ∧ ((r = 0 ∧ 1 ≤ (h' 3 2) ∨ r = 1 ∧ a ≤ (h' 3 3) ∧ (h' 3 3) ≤ b) ∧ (h' 36 7) = (h 36 7) ∧ (h' 1 1) = (h 1 1) ∧ (h' 90 2) = (h 90 2) ∧ (h' 0 10) = (h 0 10) ∧ (h' 0 11) = (h 0 11) ∧ (h' 0 12) = (h 0 12) ∧ (h' 0 13) = (h 0 13) ∧ (h' 3 1) = (h 3 1) ∧ (h' 36 8) = (h 36 8) ∧ (h' 46 3) = (h 46 3) ∧ (h' 46 4) = (h 46 4) ∧ (h' 49 4) = (h 49 4) ∧ (h' 49 5) = (h 49 5) ∧ (h' 64 0) = (h 64 0) ∧ (h' 76 0) = (h 76 0))
set_option maxHeartbeats 4000000 in
theorem c_Reader_takeNumber_3_k3_1_70 {u : ov_U} {F : ov_H} {z : ov_Z} {h : ov_H} (d : Nat) (hd : 5 ≤ d) (U : ov_cap u) (I : ov_I F z h) (hw : ov_kw 10 F) (a : Int) (b : Int) (k0 : h 3 1 = 70) (g_a : ov_g a) (g_b : ov_g b) : ov_T u d ov_m53 [ov_r 3, ov_i a, ov_i b] z h (P_Reader_takeNumber_3_k3_1_70 F z h a b) := by
  refine ov_en rfl (Nat.le_of_ble_eq_true rfl) ?_
  show ov_R u d ov_m53 0 [(0, ov_r 3), (1, ov_i a), (2, ov_i b)] [] z h (P_Reader_takeNumber_3_k3_1_70 F z h a b)
  refine ov_blk (ls2 := [(0, ov_r 3), (1, ov_i a), (2, ov_i b)]) (st2 := [ov_i b, ov_i a, ov_r 3]) (pc2 := 3) b_53_0_3 rfl rfl ?_
  refine ov_cV (as := [ov_i a, ov_i b]) (st := []) (d2 := d - 1) d_53_3 lk_Reader_143 rfl (Nat.le_of_ble_eq_true rfl) (c := 6) (zb_3 I) (zs_3 I) ⟨by decide, rfl⟩ (by omega) (c_Reader_isNumber_3_k3_1_70 (d - 1) (by omega) U I (ov_kws hw (by decide +kernel)) a b k0 (by omega) (by omega)) ?_
  rintro _ z3 h4 ⟨v2, rfl, I5, f1⟩
  show ov_R u d ov_m53 6 [(0, ov_r 3), (1, ov_i a), (2, ov_i b)] [ov_i v2] z3 h4 (P_Reader_takeNumber_3_k3_1_70 F z h a b)
  have f6 : (v2 = 0 ∧ 1 ≤ (h4 3 2) ∨ v2 = 1 ∧ a ≤ (h4 1 4) ∧ (h4 1 4) ≤ b) ∧ (h4 36 7) = (h 36 7) ∧ (h4 1 1) = (h 1 1) ∧ (h4 90 2) = (h 90 2) ∧ (h4 0 10) = (h 0 10) ∧ (h4 0 11) = (h 0 11) ∧ (h4 0 12) = (h 0 12) ∧ (h4 0 13) = (h 0 13) ∧ (h4 3 1) = (h 3 1) ∧ (h4 36 8) = (h 36 8) ∧ (h4 46 3) = (h 46 3) ∧ (h4 46 4) = (h 46 4) ∧ (h4 49 4) = (h 49 4) ∧ (h4 49 5) = (h 49 5) ∧ (h4 64 0) = (h 64 0) ∧ (h4 76 0) = (h 76 0) := f1
  clear f1
  have e7 : h4 3 1 = 70 := by omega
  refine ov_ifne (tgt := 11) d_53_6 (by decide) (by omega) (fun c8 => ?_) (fun c8 => ?_)
  · skip
    refine ov_blk (ls2 := [(0, ov_r 3), (1, ov_i a), (2, ov_i b)]) (st2 := [ov_r 3, ov_r 3]) (pc2 := 13) b_53_11_2 rfl rfl ?_
    refine ov_getf (v := ov_r 1) d_53_13 fl_Reader_9 (zb_3 I5) (zs_3 I5) (congrArg ov_r (rg_3_0 I5)) ?_
    refine ov_getf (v := ov_i (h4 1 4)) d_53_16 fl_Reader_146 (zb_1 I5) (zs_1 I5) rfl ?_
    have g9 := rg_1_4 I5
    refine ov_putf (x := (h4 1 4)) d_53_19 fl_Reader_81 (zb_3 I5) (zs_3 I5) rfl nk_0 rfl ?_
    have I10 := up_3_3 (x := (h4 1 4)) I5 (by omega) (hw 3 (by decide +kernel))
    refine ov_blk (ls2 := [(0, ov_r 3), (1, ov_i a), (2, ov_i b)]) (st2 := [ov_r 3]) (pc2 := 23) b_53_22_1 rfl rfl ?_
    refine ov_getf (v := ov_r 1) d_53_23 fl_Reader_9 (zb_3 I10) (zs_3 I10) (congrArg ov_r (rg_3_0 I10)) ?_
    refine ov_cV (as := []) (st := []) (d2 := d - 1) d_53_26 lk_Reader_75 rfl (Nat.le_of_ble_eq_true rfl) (c := 8) (zb_1 I10) (zs_1 I10) ⟨by decide, rfl⟩ (by omega) (c_Tape_advance_1 (d - 1) (by omega) U I10 (ov_kws hw (by decide +kernel))) ?_
    rintro _ z12 h13 ⟨rfl, I14, f11⟩
    show ov_R u d ov_m53 29 [(0, ov_r 3), (1, ov_i a), (2, ov_i b)] [] z12 h13 (P_Reader_takeNumber_3_k3_1_70 F z h a b)
    have f15 : (h13 3 3) = (h4 1 4) ∧ (h13 36 7) = (h4 36 7) ∧ (h13 1 1) = (h4 1 1) ∧ (h13 90 2) = (h4 90 2) ∧ (h13 0 10) = (h4 0 10) ∧ (h13 0 11) = (h4 0 11) ∧ (h13 0 12) = (h4 0 12) ∧ (h13 0 13) = (h4 0 13) ∧ (h13 3 1) = (h4 3 1) ∧ (h13 36 8) = (h4 36 8) ∧ (h13 46 3) = (h4 46 3) ∧ (h13 46 4) = (h4 46 4) ∧ (h13 49 4) = (h4 49 4) ∧ (h13 49 5) = (h4 49 5) ∧ (h13 64 0) = (h4 64 0) ∧ (h13 76 0) = (h4 76 0) := f11
    clear f11
    have e16 : h13 3 1 = 70 := by omega
    refine ov_blk (ls2 := [(0, ov_r 3), (1, ov_i a), (2, ov_i b)]) (st2 := [ov_i 1]) (pc2 := 30) b_53_29_1 rfl rfl ?_
    exact ov_retz (st := []) d_53_30 rfl (by omega) ⟨_, rfl, I14, (by show (1 = 0 ∧ 1 ≤ (h13 3 2) ∨ 1 = 1 ∧ a ≤ (h13 3 3) ∧ (h13 3 3) ≤ b) ∧ (h13 36 7) = (h 36 7) ∧ (h13 1 1) = (h 1 1) ∧ (h13 90 2) = (h 90 2) ∧ (h13 0 10) = (h 0 10) ∧ (h13 0 11) = (h 0 11) ∧ (h13 0 12) = (h 0 12) ∧ (h13 0 13) = (h 0 13) ∧ (h13 3 1) = (h 3 1) ∧ (h13 36 8) = (h 36 8) ∧ (h13 46 3) = (h 46 3) ∧ (h13 46 4) = (h 46 4) ∧ (h13 49 4) = (h 49 4) ∧ (h13 49 5) = (h 49 5) ∧ (h13 64 0) = (h 64 0) ∧ (h13 76 0) = (h 76 0); omega)⟩
  · skip
    refine ov_blk (ls2 := [(0, ov_r 3), (1, ov_i a), (2, ov_i b)]) (st2 := [ov_i 0]) (pc2 := 10) b_53_9_1 rfl rfl ?_
    exact ov_retz (st := []) d_53_10 rfl (by omega) ⟨_, rfl, I5, (by show (0 = 0 ∧ 1 ≤ (h4 3 2) ∨ 0 = 1 ∧ a ≤ (h4 3 3) ∧ (h4 3 3) ≤ b) ∧ (h4 36 7) = (h 36 7) ∧ (h4 1 1) = (h 1 1) ∧ (h4 90 2) = (h 90 2) ∧ (h4 0 10) = (h 0 10) ∧ (h4 0 11) = (h 0 11) ∧ (h4 0 12) = (h 0 12) ∧ (h4 0 13) = (h 0 13) ∧ (h4 3 1) = (h 3 1) ∧ (h4 36 8) = (h 36 8) ∧ (h4 46 3) = (h 46 3) ∧ (h4 46 4) = (h 46 4) ∧ (h4 49 4) = (h 49 4) ∧ (h4 49 5) = (h 49 5) ∧ (h4 64 0) = (h 64 0) ∧ (h4 76 0) = (h 76 0); omega)⟩
abbrev P_Reader_takeSign_3_k3_1_70 (F : ov_H) (z : ov_Z) (h : ov_H) (c : Int) : Option ov_V → ov_Z → ov_H → Prop := fun r0 z' h' => ∃ r : Int, r0 = some (ov_i r) ∧ ov_I F z' h' ∧ ((r = 0 ∧ 1 ≤ (h' 3 2) ∨ r = 1) ∧ (h' 36 7) = (h 36 7) ∧ (h' 1 1) = (h 1 1) ∧ (h' 90 2) = (h 90 2) ∧ (h' 0 10) = (h 0 10) ∧ (h' 0 11) = (h 0 11) ∧ (h' 0 12) = (h 0 12) ∧ (h' 0 13) = (h 0 13) ∧ (h' 3 1) = (h 3 1) ∧ (h' 36 8) = (h 36 8) ∧ (h' 46 3) = (h 46 3) ∧ (h' 46 4) = (h 46 4) ∧ (h' 49 4) = (h 49 4) ∧ (h' 49 5) = (h 49 5) ∧ (h' 64 0) = (h 64 0) ∧ (h' 76 0) = (h 76 0))
set_option maxHeartbeats 4000000 in
theorem c_Reader_takeSign_3_k3_1_70 {u : ov_U} {F : ov_H} {z : ov_Z} {h : ov_H} (d : Nat) (hd : 5 ≤ d) (U : ov_cap u) (I : ov_I F z h) (hw : ov_kw 10 F) (c : Int) (k0 : h 3 1 = 70) (g_c : 0 ≤ c ∧ c ≤ 65535) : ov_T u d ov_m55 [ov_r 3, ov_i c] z h (P_Reader_takeSign_3_k3_1_70 F z h c) := by
  refine ov_en rfl (Nat.le_of_ble_eq_true rfl) ?_
  show ov_R u d ov_m55 0 [(0, ov_r 3), (1, ov_i c)] [] z h (P_Reader_takeSign_3_k3_1_70 F z h c)
  refine ov_blk (ls2 := [(0, ov_r 3), (1, ov_i c)]) (st2 := [ov_r 3]) (pc2 := 1) b_55_0_1 rfl rfl ?_
  refine ov_getf (v := ov_r 1) d_55_1 fl_Reader_9 (zb_3 I) (zs_3 I) (congrArg ov_r (rg_3_0 I)) ?_
  refine ov_blk (ls2 := [(0, ov_r 3), (1, ov_i c)]) (st2 := [ov_i c, ov_r 1]) (pc2 := 5) b_55_4_1 rfl rfl ?_
  refine ov_cV (as := [ov_i c]) (st := []) (d2 := d - 1) d_55_5 lk_Reader_231 rfl (Nat.le_of_ble_eq_true rfl) (c := 8) (zb_1 I) (zs_1 I) ⟨by decide, rfl⟩ (by omega) (c_Tape_isSign_1 (d - 1) (by omega) U I c (by omega)) ?_
  rintro _ _ _ ⟨v2, rfl, rfl, rfl, f1⟩
  show ov_R u d ov_m55 8 [(0, ov_r 3), (1, ov_i c)] [ov_i v2] z h (P_Reader_takeSign_3_k3_1_70 F z h c)
  have f3 : (v2 = 0 ∨ v2 = 1) := f1
  clear f1
  refine ov_ifne (tgt := 17) d_55_8 (by decide) (by omega) (fun c4 => ?_) (fun c4 => ?_)
  · skip
    refine ov_blk (ls2 := [(0, ov_r 3), (1, ov_i c)]) (st2 := [ov_r 3]) (pc2 := 18) b_55_17_1 rfl rfl ?_
    refine ov_getf (v := ov_r 1) d_55_18 fl_Reader_9 (zb_3 I) (zs_3 I) (congrArg ov_r (rg_3_0 I)) ?_
    refine ov_cV (as := []) (st := []) (d2 := d - 1) d_55_21 lk_Reader_75 rfl (Nat.le_of_ble_eq_true rfl) (c := 8) (zb_1 I) (zs_1 I) ⟨by decide, rfl⟩ (by omega) (c_Tape_advance_1 (d - 1) (by omega) U I (ov_kws hw (by decide +kernel))) ?_
    rintro _ z6 h7 ⟨rfl, I8, f5⟩
    show ov_R u d ov_m55 24 [(0, ov_r 3), (1, ov_i c)] [] z6 h7 (P_Reader_takeSign_3_k3_1_70 F z h c)
    have f9 : (h7 3 3) = (h 3 3) ∧ (h7 36 7) = (h 36 7) ∧ (h7 1 1) = (h 1 1) ∧ (h7 90 2) = (h 90 2) ∧ (h7 0 10) = (h 0 10) ∧ (h7 0 11) = (h 0 11) ∧ (h7 0 12) = (h 0 12) ∧ (h7 0 13) = (h 0 13) ∧ (h7 3 1) = (h 3 1) ∧ (h7 36 8) = (h 36 8) ∧ (h7 46 3) = (h 46 3) ∧ (h7 46 4) = (h 46 4) ∧ (h7 49 4) = (h 49 4) ∧ (h7 49 5) = (h 49 5) ∧ (h7 64 0) = (h 64 0) ∧ (h7 76 0) = (h 76 0) := f5
    clear f5
    have e10 : h7 3 1 = 70 := by omega
    refine ov_blk (ls2 := [(0, ov_r 3), (1, ov_i c)]) (st2 := [ov_i 1]) (pc2 := 25) b_55_24_1 rfl rfl ?_
    exact ov_retz (st := []) d_55_25 rfl (by omega) ⟨_, rfl, I8, (by show (1 = 0 ∧ 1 ≤ (h7 3 2) ∨ 1 = 1) ∧ (h7 36 7) = (h 36 7) ∧ (h7 1 1) = (h 1 1) ∧ (h7 90 2) = (h 90 2) ∧ (h7 0 10) = (h 0 10) ∧ (h7 0 11) = (h 0 11) ∧ (h7 0 12) = (h 0 12) ∧ (h7 0 13) = (h 0 13) ∧ (h7 3 1) = (h 3 1) ∧ (h7 36 8) = (h 36 8) ∧ (h7 46 3) = (h 46 3) ∧ (h7 46 4) = (h 46 4) ∧ (h7 49 4) = (h 49 4) ∧ (h7 49 5) = (h 49 5) ∧ (h7 64 0) = (h 64 0) ∧ (h7 76 0) = (h 76 0); omega)⟩
  · skip
    refine ov_blk (ls2 := [(0, ov_r 3), (1, ov_i c)]) (st2 := [ov_i 1, ov_r 3]) (pc2 := 13) b_55_11_2 rfl rfl ?_
    refine ov_cV (as := [ov_i 1]) (st := []) (d2 := d - 1) d_55_13 lk_Reader_58 rfl (Nat.le_of_ble_eq_true rfl) (c := 6) (zb_3 I) (zs_3 I) ⟨by decide, rfl⟩ (by omega) (c_Reader_fail_3_k3_1_70 (d - 1) (by omega) U I (ov_kws hw (by decide +kernel)) 1 k0 (by omega) (by omega)) ?_
    rintro _ z13 h14 ⟨v12, rfl, I15, f11⟩
    show ov_R u d ov_m55 16 [(0, ov_r 3), (1, ov_i c)] [ov_i v12] z13 h14 (P_Reader_takeSign_3_k3_1_70 F z h c)
    have f16 : v12 = 0 ∧ 1 ≤ (h14 3 2) ∧ (h14 36 7) = (h 36 7) ∧ (h14 1 1) = (h 1 1) ∧ (h14 90 2) = (h 90 2) ∧ (h14 0 10) = (h 0 10) ∧ (h14 0 11) = (h 0 11) ∧ (h14 0 12) = (h 0 12) ∧ (h14 0 13) = (h 0 13) ∧ (h14 3 1) = (h 3 1) ∧ (h14 36 8) = (h 36 8) ∧ (h14 46 3) = (h 46 3) ∧ (h14 46 4) = (h 46 4) ∧ (h14 49 4) = (h 49 4) ∧ (h14 49 5) = (h 49 5) ∧ (h14 64 0) = (h 64 0) ∧ (h14 76 0) = (h 76 0) := f11
    clear f11
    have e17 : h14 3 1 = 70 := by omega
    exact ov_retz (st := []) d_55_16 rfl (by omega) ⟨_, rfl, I15, (by show (v12 = 0 ∧ 1 ≤ (h14 3 2) ∨ v12 = 1) ∧ (h14 36 7) = (h 36 7) ∧ (h14 1 1) = (h 1 1) ∧ (h14 90 2) = (h 90 2) ∧ (h14 0 10) = (h 0 10) ∧ (h14 0 11) = (h 0 11) ∧ (h14 0 12) = (h 0 12) ∧ (h14 0 13) = (h 0 13) ∧ (h14 3 1) = (h 3 1) ∧ (h14 36 8) = (h 36 8) ∧ (h14 46 3) = (h 46 3) ∧ (h14 46 4) = (h 46 4) ∧ (h14 49 4) = (h 49 4) ∧ (h14 49 5) = (h 49 5) ∧ (h14 64 0) = (h 64 0) ∧ (h14 76 0) = (h 76 0); omega)⟩
abbrev P_Reader_takeWord_3_k3_1_70 (F : ov_H) (z : ov_Z) (h : ov_H) (w : Int) : Option ov_V → ov_Z → ov_H → Prop := fun r0 z' h' => ∃ r : Int, r0 = some (ov_i r) ∧ ov_I F z' h' ∧ ((r = 0 ∧ 1 ≤ (h' 3 2) ∨ r = 1) ∧ (h' 36 7) = (h 36 7) ∧ (h' 1 1) = (h 1 1) ∧ (h' 90 2) = (h 90 2) ∧ (h' 0 10) = (h 0 10) ∧ (h' 0 11) = (h 0 11) ∧ (h' 0 12) = (h 0 12) ∧ (h' 0 13) = (h 0 13) ∧ (h' 3 1) = (h 3 1) ∧ (h' 36 8) = (h 36 8) ∧ (h' 46 3) = (h 46 3) ∧ (h' 46 4) = (h 46 4) ∧ (h' 49 4) = (h 49 4) ∧ (h' 49 5) = (h 49 5) ∧ (h' 64 0) = (h 64 0) ∧ (h' 76 0) = (h 76 0))
set_option maxHeartbeats 4000000 in
theorem c_Reader_takeWord_3_k3_1_70 {u : ov_U} {F : ov_H} {z : ov_Z} {h : ov_H} (d : Nat) (hd : 5 ≤ d) (U : ov_cap u) (I : ov_I F z h) (hw : ov_kw 10 F) (w : Int) (k0 : h 3 1 = 70) : ov_T u d ov_m50 [ov_r 3, ov_l w] z h (P_Reader_takeWord_3_k3_1_70 F z h w) := by
  refine ov_en rfl (Nat.le_of_ble_eq_true rfl) ?_
  show ov_R u d ov_m50 0 [(0, ov_r 3), (1, ov_l w)] [] z h (P_Reader_takeWord_3_k3_1_70 F z h w)
  refine ov_blk (ls2 := [(0, ov_r 3), (1, ov_l w)]) (st2 := [ov_r 3]) (pc2 := 1) b_50_0_1 rfl rfl ?_
  refine ov_getf (v := ov_r 1) d_50_1 fl_Reader_9 (zb_3 I) (zs_3 I) (congrArg ov_r (rg_3_0 I)) ?_
  refine ov_blk (ls2 := [(0, ov_r 3), (1, ov_l w)]) (st2 := [ov_l w, ov_r 1]) (pc2 := 5) b_50_4_1 rfl rfl ?_
  refine ov_cV (as := [ov_l w]) (st := []) (d2 := d - 1) d_50_5 lk_Reader_110 rfl (Nat.le_of_ble_eq_true rfl) (c := 8) (zb_1 I) (zs_1 I) ⟨by decide, rfl⟩ (by omega) (c_Tape_isWord_1 (d - 1) (by omega) U I w) ?_
  rintro _ _ _ ⟨v2, rfl, rfl, rfl, f1⟩
  show ov_R u d ov_m50 8 [(0, ov_r 3), (1, ov_l w)] [ov_i v2] z h (P_Reader_takeWord_3_k3_1_70 F z h w)
  have f3 : (v2 = 0 ∨ v2 = 1) ∧ (v2 = 1 → (h 1 2) = 2) := f1
  clear f1
  refine ov_ifne (tgt := 17) d_50_8 (by decide) (by omega) (fun c4 => ?_) (fun c4 => ?_)
  · skip
    refine ov_blk (ls2 := [(0, ov_r 3), (1, ov_l w)]) (st2 := [ov_r 3]) (pc2 := 18) b_50_17_1 rfl rfl ?_
    refine ov_getf (v := ov_r 1) d_50_18 fl_Reader_9 (zb_3 I) (zs_3 I) (congrArg ov_r (rg_3_0 I)) ?_
    refine ov_cV (as := []) (st := []) (d2 := d - 1) d_50_21 lk_Reader_75 rfl (Nat.le_of_ble_eq_true rfl) (c := 8) (zb_1 I) (zs_1 I) ⟨by decide, rfl⟩ (by omega) (c_Tape_advance_1 (d - 1) (by omega) U I (ov_kws hw (by decide +kernel))) ?_
    rintro _ z6 h7 ⟨rfl, I8, f5⟩
    show ov_R u d ov_m50 24 [(0, ov_r 3), (1, ov_l w)] [] z6 h7 (P_Reader_takeWord_3_k3_1_70 F z h w)
    have f9 : (h7 3 3) = (h 3 3) ∧ (h7 36 7) = (h 36 7) ∧ (h7 1 1) = (h 1 1) ∧ (h7 90 2) = (h 90 2) ∧ (h7 0 10) = (h 0 10) ∧ (h7 0 11) = (h 0 11) ∧ (h7 0 12) = (h 0 12) ∧ (h7 0 13) = (h 0 13) ∧ (h7 3 1) = (h 3 1) ∧ (h7 36 8) = (h 36 8) ∧ (h7 46 3) = (h 46 3) ∧ (h7 46 4) = (h 46 4) ∧ (h7 49 4) = (h 49 4) ∧ (h7 49 5) = (h 49 5) ∧ (h7 64 0) = (h 64 0) ∧ (h7 76 0) = (h 76 0) := f5
    clear f5
    have e10 : h7 3 1 = 70 := by omega
    refine ov_blk (ls2 := [(0, ov_r 3), (1, ov_l w)]) (st2 := [ov_i 1]) (pc2 := 25) b_50_24_1 rfl rfl ?_
    exact ov_retz (st := []) d_50_25 rfl (by omega) ⟨_, rfl, I8, (by show (1 = 0 ∧ 1 ≤ (h7 3 2) ∨ 1 = 1) ∧ (h7 36 7) = (h 36 7) ∧ (h7 1 1) = (h 1 1) ∧ (h7 90 2) = (h 90 2) ∧ (h7 0 10) = (h 0 10) ∧ (h7 0 11) = (h 0 11) ∧ (h7 0 12) = (h 0 12) ∧ (h7 0 13) = (h 0 13) ∧ (h7 3 1) = (h 3 1) ∧ (h7 36 8) = (h 36 8) ∧ (h7 46 3) = (h 46 3) ∧ (h7 46 4) = (h 46 4) ∧ (h7 49 4) = (h 49 4) ∧ (h7 49 5) = (h 49 5) ∧ (h7 64 0) = (h 64 0) ∧ (h7 76 0) = (h 76 0); omega)⟩
  · skip
    refine ov_blk (ls2 := [(0, ov_r 3), (1, ov_l w)]) (st2 := [ov_i 1, ov_r 3]) (pc2 := 13) b_50_11_2 rfl rfl ?_
    refine ov_cV (as := [ov_i 1]) (st := []) (d2 := d - 1) d_50_13 lk_Reader_58 rfl (Nat.le_of_ble_eq_true rfl) (c := 6) (zb_3 I) (zs_3 I) ⟨by decide, rfl⟩ (by omega) (c_Reader_fail_3_k3_1_70 (d - 1) (by omega) U I (ov_kws hw (by decide +kernel)) 1 k0 (by omega) (by omega)) ?_
    rintro _ z13 h14 ⟨v12, rfl, I15, f11⟩
    show ov_R u d ov_m50 16 [(0, ov_r 3), (1, ov_l w)] [ov_i v12] z13 h14 (P_Reader_takeWord_3_k3_1_70 F z h w)
    have f16 : v12 = 0 ∧ 1 ≤ (h14 3 2) ∧ (h14 36 7) = (h 36 7) ∧ (h14 1 1) = (h 1 1) ∧ (h14 90 2) = (h 90 2) ∧ (h14 0 10) = (h 0 10) ∧ (h14 0 11) = (h 0 11) ∧ (h14 0 12) = (h 0 12) ∧ (h14 0 13) = (h 0 13) ∧ (h14 3 1) = (h 3 1) ∧ (h14 36 8) = (h 36 8) ∧ (h14 46 3) = (h 46 3) ∧ (h14 46 4) = (h 46 4) ∧ (h14 49 4) = (h 49 4) ∧ (h14 49 5) = (h 49 5) ∧ (h14 64 0) = (h 64 0) ∧ (h14 76 0) = (h 76 0) := f11
    clear f11
    have e17 : h14 3 1 = 70 := by omega
    exact ov_retz (st := []) d_50_16 rfl (by omega) ⟨_, rfl, I15, (by show (v12 = 0 ∧ 1 ≤ (h14 3 2) ∨ v12 = 1) ∧ (h14 36 7) = (h 36 7) ∧ (h14 1 1) = (h 1 1) ∧ (h14 90 2) = (h 90 2) ∧ (h14 0 10) = (h 0 10) ∧ (h14 0 11) = (h 0 11) ∧ (h14 0 12) = (h 0 12) ∧ (h14 0 13) = (h 0 13) ∧ (h14 3 1) = (h 3 1) ∧ (h14 36 8) = (h 36 8) ∧ (h14 46 3) = (h 46 3) ∧ (h14 46 4) = (h 46 4) ∧ (h14 49 4) = (h 49 4) ∧ (h14 49 5) = (h 49 5) ∧ (h14 64 0) = (h 64 0) ∧ (h14 76 0) = (h 76 0); omega)⟩
abbrev P_Reader_wayTold_3_k3_1_70 (F : ov_H) (z : ov_Z) (h : ov_H)  : Option ov_V → ov_Z → ov_H → Prop := fun r0 z' h' => ∃ r : Int, r0 = some (ov_i r) ∧ z = z' ∧ h = h' ∧ (-1 ≤ r ∧ r ≤ 1)
set_option maxHeartbeats 4000000 in
theorem c_Reader_wayTold_3_k3_1_70 {u : ov_U} {F : ov_H} {z : ov_Z} {h : ov_H} (d : Nat) (hd : 1 ≤ d) (U : ov_cap u) (I : ov_I F z h) (k0 : h 3 1 = 70) : ov_T u d ov_m65 [ov_r 3] z h (P_Reader_wayTold_3_k3_1_70 F z h) := by
  refine ov_en rfl (Nat.le_of_ble_eq_true rfl) ?_
  show ov_R u d ov_m65 0 [(0, ov_r 3)] [] z h (P_Reader_wayTold_3_k3_1_70 F z h)
  refine ov_blk (ls2 := [(0, ov_r 3)]) (st2 := [ov_r 3]) (pc2 := 1) b_65_0_1 rfl rfl ?_
  refine ov_getf (v := ov_r 1) d_65_1 fl_Reader_9 (zb_3 I) (zs_3 I) (congrArg ov_r (rg_3_0 I)) ?_
  refine ov_ldc2 (n := 1870030194) d_65_4 kc_Reader_177 ?_
  refine ov_cV (as := [ov_l 1870030194]) (st := []) (d2 := d - 1) d_65_7 lk_Reader_110 rfl (Nat.le_of_ble_eq_true rfl) (c := 8) (zb_1 I) (zs_1 I) ⟨by decide, rfl⟩ (by omega) (c_Tape_isWord_1 (d - 1) (by omega) U I 1870030194) ?_
  rintro _ _ _ ⟨v2, rfl, rfl, rfl, f1⟩
  show ov_R u d ov_m65 10 [(0, ov_r 3)] [ov_i v2] z h (P_Reader_wayTold_3_k3_1_70 F z h)
  have f3 : (v2 = 0 ∨ v2 = 1) ∧ (v2 = 1 → (h 1 2) = 2) := f1
  clear f1
  refine ov_ifeq (tgt := 15) d_65_10 (by decide) (by omega) (fun c4 => ?_) (fun c4 => ?_)
  · skip
    refine ov_blk (ls2 := [(0, ov_r 3)]) (st2 := [ov_r 3]) (pc2 := 16) b_65_15_1 rfl rfl ?_
    refine ov_getf (v := ov_r 1) d_65_16 fl_Reader_9 (zb_3 I) (zs_3 I) (congrArg ov_r (rg_3_0 I)) ?_
    refine ov_ldc2 (n := 28526) d_65_19 kc_Reader_249 ?_
    refine ov_cV (as := [ov_l 28526]) (st := []) (d2 := d - 1) d_65_22 lk_Reader_110 rfl (Nat.le_of_ble_eq_true rfl) (c := 8) (zb_1 I) (zs_1 I) ⟨by decide, rfl⟩ (by omega) (c_Tape_isWord_1 (d - 1) (by omega) U I 28526) ?_
    rintro _ _ _ ⟨v6, rfl, rfl, rfl, f5⟩
    show ov_R u d ov_m65 25 [(0, ov_r 3)] [ov_i v6] z h (P_Reader_wayTold_3_k3_1_70 F z h)
    have f7 : (v6 = 0 ∨ v6 = 1) ∧ (v6 = 1 → (h 1 2) = 2) := f5
    clear f5
    refine ov_ifeq (tgt := 32) d_65_25 (by decide) (by omega) (fun c8 => ?_) (fun c8 => ?_)
    · skip
      refine ov_blk (ls2 := [(0, ov_r 3)]) (st2 := [ov_i (-1)]) (pc2 := 33) b_65_32_1 rfl rfl ?_
      exact ov_reti (st := []) d_65_33 rfl ⟨_, rfl, rfl, rfl, (by show -1 ≤ (-1) ∧ (-1) ≤ 1; omega)⟩
    · skip
      refine ov_blk (ls2 := [(0, ov_r 3)]) (st2 := [ov_i 1]) (pc2 := 29) b_65_28_1 rfl rfl ?_
      refine ov_goto (tgt := 33) d_65_29 (by decide) ?_
      exact ov_reti (st := []) d_65_33 rfl ⟨_, rfl, rfl, rfl, (by show -1 ≤ 1 ∧ 1 ≤ 1; omega)⟩
  · skip
    refine ov_blk (ls2 := [(0, ov_r 3)]) (st2 := [ov_i 0]) (pc2 := 14) b_65_13_1 rfl rfl ?_
    exact ov_reti (st := []) d_65_14 rfl ⟨_, rfl, rfl, rfl, (by show -1 ≤ 0 ∧ 0 ≤ 1; omega)⟩
abbrev P_Reader_kindTold_3_k3_1_70 (F : ov_H) (z : ov_Z) (h : ov_H)  : Option ov_V → ov_Z → ov_H → Prop := fun r0 z' h' => ∃ r : Int, r0 = some (ov_i r) ∧ z = z' ∧ h = h' ∧ (-1 ≤ r ∧ r ≤ 3)
set_option maxHeartbeats 4000000 in
theorem c_Reader_kindTold_3_k3_1_70 {u : ov_U} {F : ov_H} {z : ov_Z} {h : ov_H} (d : Nat) (hd : 1 ≤ d) (U : ov_cap u) (I : ov_I F z h) (k0 : h 3 1 = 70) : ov_T u d ov_m59 [ov_r 3] z h (P_Reader_kindTold_3_k3_1_70 F z h) := by
  refine ov_en rfl (Nat.le_of_ble_eq_true rfl) ?_
  show ov_R u d ov_m59 0 [(0, ov_r 3)] [] z h (P_Reader_kindTold_3_k3_1_70 F z h)
  refine ov_blk (ls2 := [(0, ov_r 3)]) (st2 := [ov_r 3]) (pc2 := 1) b_59_0_1 rfl rfl ?_
  refine ov_getf (v := ov_r 1) d_59_1 fl_Reader_9 (zb_3 I) (zs_3 I) (congrArg ov_r (rg_3_0 I)) ?_
  refine ov_ldc2 (n := 427021001579) d_59_4 kc_Reader_251 ?_
  refine ov_cV (as := [ov_l 427021001579]) (st := []) (d2 := d - 1) d_59_7 lk_Reader_110 rfl (Nat.le_of_ble_eq_true rfl) (c := 8) (zb_1 I) (zs_1 I) ⟨by decide, rfl⟩ (by omega) (c_Tape_isWord_1 (d - 1) (by omega) U I 427021001579) ?_
  rintro _ _ _ ⟨v2, rfl, rfl, rfl, f1⟩
  show ov_R u d ov_m59 10 [(0, ov_r 3)] [ov_i v2] z h (P_Reader_kindTold_3_k3_1_70 F z h)
  have f3 : (v2 = 0 ∨ v2 = 1) ∧ (v2 = 1 → (h 1 2) = 2) := f1
  clear f1
  refine ov_ifeq (tgt := 15) d_59_10 (by decide) (by omega) (fun c4 => ?_) (fun c4 => ?_)
  · skip
    refine ov_blk (ls2 := [(0, ov_r 3)]) (st2 := [ov_r 3]) (pc2 := 16) b_59_15_1 rfl rfl ?_
    refine ov_getf (v := ov_r 1) d_59_16 fl_Reader_9 (zb_3 I) (zs_3 I) (congrArg ov_r (rg_3_0 I)) ?_
    refine ov_ldc2 (n := 114801865155950) d_59_19 kc_Reader_253 ?_
    refine ov_cV (as := [ov_l 114801865155950]) (st := []) (d2 := d - 1) d_59_22 lk_Reader_110 rfl (Nat.le_of_ble_eq_true rfl) (c := 8) (zb_1 I) (zs_1 I) ⟨by decide, rfl⟩ (by omega) (c_Tape_isWord_1 (d - 1) (by omega) U I 114801865155950) ?_
    rintro _ _ _ ⟨v6, rfl, rfl, rfl, f5⟩
    show ov_R u d ov_m59 25 [(0, ov_r 3)] [ov_i v6] z h (P_Reader_kindTold_3_k3_1_70 F z h)
    have f7 : (v6 = 0 ∨ v6 = 1) ∧ (v6 = 1 → (h 1 2) = 2) := f5
    clear f5
    refine ov_ifeq (tgt := 30) d_59_25 (by decide) (by omega) (fun c8 => ?_) (fun c8 => ?_)
    · skip
      refine ov_blk (ls2 := [(0, ov_r 3)]) (st2 := [ov_r 3]) (pc2 := 31) b_59_30_1 rfl rfl ?_
      refine ov_getf (v := ov_r 1) d_59_31 fl_Reader_9 (zb_3 I) (zs_3 I) (congrArg ov_r (rg_3_0 I)) ?_
      refine ov_ldc2 (n := 108256604483438) d_59_34 kc_Reader_255 ?_
      refine ov_cV (as := [ov_l 108256604483438]) (st := []) (d2 := d - 1) d_59_37 lk_Reader_110 rfl (Nat.le_of_ble_eq_true rfl) (c := 8) (zb_1 I) (zs_1 I) ⟨by decide, rfl⟩ (by omega) (c_Tape_isWord_1 (d - 1) (by omega) U I 108256604483438) ?_
      rintro _ _ _ ⟨v10, rfl, rfl, rfl, f9⟩
      show ov_R u d ov_m59 40 [(0, ov_r 3)] [ov_i v10] z h (P_Reader_kindTold_3_k3_1_70 F z h)
      have f11 : (v10 = 0 ∨ v10 = 1) ∧ (v10 = 1 → (h 1 2) = 2) := f9
      clear f9
      refine ov_ifeq (tgt := 45) d_59_40 (by decide) (by omega) (fun c12 => ?_) (fun c12 => ?_)
      · skip
        refine ov_blk (ls2 := [(0, ov_r 3)]) (st2 := [ov_r 3]) (pc2 := 46) b_59_45_1 rfl rfl ?_
        refine ov_getf (v := ov_r 1) d_59_46 fl_Reader_9 (zb_3 I) (zs_3 I) (congrArg ov_r (rg_3_0 I)) ?_
        refine ov_ldc2 (n := 123623862526821) d_59_49 kc_Reader_257 ?_
        refine ov_cV (as := [ov_l 123623862526821]) (st := []) (d2 := d - 1) d_59_52 lk_Reader_110 rfl (Nat.le_of_ble_eq_true rfl) (c := 8) (zb_1 I) (zs_1 I) ⟨by decide, rfl⟩ (by omega) (c_Tape_isWord_1 (d - 1) (by omega) U I 123623862526821) ?_
        rintro _ _ _ ⟨v14, rfl, rfl, rfl, f13⟩
        show ov_R u d ov_m59 55 [(0, ov_r 3)] [ov_i v14] z h (P_Reader_kindTold_3_k3_1_70 F z h)
        have f15 : (v14 = 0 ∨ v14 = 1) ∧ (v14 = 1 → (h 1 2) = 2) := f13
        clear f13
        refine ov_ifeq (tgt := 62) d_59_55 (by decide) (by omega) (fun c16 => ?_) (fun c16 => ?_)
        · skip
          refine ov_blk (ls2 := [(0, ov_r 3)]) (st2 := [ov_i (-1)]) (pc2 := 63) b_59_62_1 rfl rfl ?_
          exact ov_reti (st := []) d_59_63 rfl ⟨_, rfl, rfl, rfl, (by show -1 ≤ (-1) ∧ (-1) ≤ 3; omega)⟩
        · skip
          refine ov_blk (ls2 := [(0, ov_r 3)]) (st2 := [ov_i 3]) (pc2 := 59) b_59_58_1 rfl rfl ?_
          refine ov_goto (tgt := 63) d_59_59 (by decide) ?_
          exact ov_reti (st := []) d_59_63 rfl ⟨_, rfl, rfl, rfl, (by show -1 ≤ 3 ∧ 3 ≤ 3; omega)⟩
      · skip
        refine ov_blk (ls2 := [(0, ov_r 3)]) (st2 := [ov_i 2]) (pc2 := 44) b_59_43_1 rfl rfl ?_
        exact ov_reti (st := []) d_59_44 rfl ⟨_, rfl, rfl, rfl, (by show -1 ≤ 2 ∧ 2 ≤ 3; omega)⟩
    · skip
      refine ov_blk (ls2 := [(0, ov_r 3)]) (st2 := [ov_i 1]) (pc2 := 29) b_59_28_1 rfl rfl ?_
      exact ov_reti (st := []) d_59_29 rfl ⟨_, rfl, rfl, rfl, (by show -1 ≤ 1 ∧ 1 ≤ 3; omega)⟩
  · skip
    refine ov_blk (ls2 := [(0, ov_r 3)]) (st2 := [ov_i 0]) (pc2 := 14) b_59_13_1 rfl rfl ?_
    exact ov_reti (st := []) d_59_14 rfl ⟨_, rfl, rfl, rfl, (by show -1 ≤ 0 ∧ 0 ≤ 3; omega)⟩
abbrev P_Reader_plainPart_3_k3_1_70 (F : ov_H) (z : ov_Z) (h : ov_H)  : Option ov_V → ov_Z → ov_H → Prop := fun r0 z' h' => ∃ r : Int, r0 = some (ov_i r) ∧ z = z' ∧ h = h' ∧ (-2147483648 ≤ r ∧ r ≤ 2147483647)
set_option maxHeartbeats 4000000 in
theorem c_Reader_plainPart_3_k3_1_70 {u : ov_U} {F : ov_H} {z : ov_Z} {h : ov_H} (d : Nat) (hd : 2 ≤ d) (U : ov_cap u) (I : ov_I F z h) (k0 : h 3 1 = 70) : ov_T u d ov_m74 [ov_r 3] z h (P_Reader_plainPart_3_k3_1_70 F z h) := by
  refine ov_en rfl (Nat.le_of_ble_eq_true rfl) ?_
  show ov_R u d ov_m74 0 [(0, ov_r 3)] [] z h (P_Reader_plainPart_3_k3_1_70 F z h)
  refine ov_blk (ls2 := [(0, ov_r 3)]) (st2 := [ov_r 3]) (pc2 := 1) b_74_0_1 rfl rfl ?_
  refine ov_getf (v := ov_r 1) d_74_1 fl_Reader_9 (zb_3 I) (zs_3 I) (congrArg ov_r (rg_3_0 I)) ?_
  refine ov_getf (v := ov_i (h 1 2)) d_74_4 fl_Reader_37 (zb_1 I) (zs_1 I) rfl ?_
  have g1 := rg_1_2 I
  refine ov_blk (ls2 := [(0, ov_r 3)]) (st2 := [ov_i 3, ov_i (h 1 2)]) (pc2 := 8) b_74_7_1 rfl rfl ?_
  refine ov_icne (tgt := 22) d_74_8 (by decide) (by omega) (by omega) (fun c2 => ?_) (fun c2 => ?_)
  · skip
    refine ov_blk (ls2 := [(0, ov_r 3)]) (st2 := [ov_r 3]) (pc2 := 23) b_74_22_1 rfl rfl ?_
    refine ov_getf (v := ov_r 1) d_74_23 fl_Reader_9 (zb_3 I) (zs_3 I) (congrArg ov_r (rg_3_0 I)) ?_
    refine ov_ldc2 (n := 1818584692) d_74_26 kc_Reader_245 ?_
    refine ov_cV (as := [ov_l 1818584692]) (st := []) (d2 := d - 1) d_74_29 lk_Reader_110 rfl (Nat.le_of_ble_eq_true rfl) (c := 8) (zb_1 I) (zs_1 I) ⟨by decide, rfl⟩ (by omega) (c_Tape_isWord_1 (d - 1) (by omega) U I 1818584692) ?_
    rintro _ _ _ ⟨v4, rfl, rfl, rfl, f3⟩
    show ov_R u d ov_m74 32 [(0, ov_r 3)] [ov_i v4] z h (P_Reader_plainPart_3_k3_1_70 F z h)
    have f5 : (v4 = 0 ∨ v4 = 1) ∧ (v4 = 1 → (h 1 2) = 2) := f3
    clear f3
    refine ov_ifeq (tgt := 38) d_74_32 (by decide) (by omega) (fun c6 => ?_) (fun c6 => ?_)
    · skip
      refine ov_blk (ls2 := [(0, ov_r 3)]) (st2 := [ov_r 3]) (pc2 := 39) b_74_38_1 rfl rfl ?_
      refine ov_getf (v := ov_r 1) d_74_39 fl_Reader_9 (zb_3 I) (zs_3 I) (congrArg ov_r (rg_3_0 I)) ?_
      refine ov_ldc2 (n := 30064) d_74_42 kc_Reader_247 ?_
      refine ov_cV (as := [ov_l 30064]) (st := []) (d2 := d - 1) d_74_45 lk_Reader_110 rfl (Nat.le_of_ble_eq_true rfl) (c := 8) (zb_1 I) (zs_1 I) ⟨by decide, rfl⟩ (by omega) (c_Tape_isWord_1 (d - 1) (by omega) U I 30064) ?_
      rintro _ _ _ ⟨v8, rfl, rfl, rfl, f7⟩
      show ov_R u d ov_m74 48 [(0, ov_r 3)] [ov_i v8] z h (P_Reader_plainPart_3_k3_1_70 F z h)
      have f9 : (v8 = 0 ∨ v8 = 1) ∧ (v8 = 1 → (h 1 2) = 2) := f7
      clear f7
      refine ov_ifeq (tgt := 54) d_74_48 (by decide) (by omega) (fun c10 => ?_) (fun c10 => ?_)
      · skip
        refine ov_blk (ls2 := [(0, ov_r 3)]) (st2 := [ov_r 3]) (pc2 := 55) b_74_54_1 rfl rfl ?_
        refine ov_cV (as := []) (st := []) (d2 := d - 1) d_74_55 lk_Reader_54 rfl (Nat.le_of_ble_eq_true rfl) (c := 6) (zb_3 I) (zs_3 I) ⟨by decide, rfl⟩ (by omega) (c_Reader_wayTold_3_k3_1_70 (d - 1) (by omega) U I k0) ?_
        rintro _ _ _ ⟨v12, rfl, rfl, rfl, f11⟩
        show ov_R u d ov_m74 58 [(0, ov_r 3)] [ov_i v12] z h (P_Reader_plainPart_3_k3_1_70 F z h)
        have f13 : -1 ≤ v12 ∧ v12 ≤ 1 := f11
        clear f11
        refine ov_blk (ls2 := [(0, ov_r 3), (1, ov_i v12)]) (st2 := [ov_i (-1), ov_i v12]) (pc2 := 61) b_74_58_3 rfl rfl ?_
        refine ov_icne (tgt := 68) d_74_61 (by decide) (by omega) (by omega) (fun c14 => ?_) (fun c14 => ?_)
        · skip
          refine ov_blk (ls2 := [(0, ov_r 3), (1, ov_i v12)]) (st2 := [ov_i v12]) (pc2 := 69) b_74_68_1 rfl rfl ?_
          refine ov_ifne (tgt := 77) d_74_69 (by decide) (by omega) (fun c15 => ?_) (fun c15 => ?_)
          · skip
            refine ov_blk (ls2 := [(0, ov_r 3), (1, ov_i v12)]) (st2 := [ov_i 9]) (pc2 := 79) b_74_77_1 rfl rfl ?_
            exact ov_reti (st := []) d_74_79 rfl ⟨_, rfl, rfl, rfl, (by show -2147483648 ≤ 9 ∧ 9 ≤ 2147483647; omega)⟩
          · skip
            refine ov_blk (ls2 := [(0, ov_r 3), (1, ov_i v12)]) (st2 := [ov_i 8]) (pc2 := 74) b_74_72_1 rfl rfl ?_
            refine ov_goto (tgt := 79) d_74_74 (by decide) ?_
            exact ov_reti (st := []) d_74_79 rfl ⟨_, rfl, rfl, rfl, (by show -2147483648 ≤ 8 ∧ 8 ≤ 2147483647; omega)⟩
        · skip
          refine ov_blk (ls2 := [(0, ov_r 3), (1, ov_i v12)]) (st2 := [ov_i (-1)]) (pc2 := 65) b_74_64_1 rfl rfl ?_
          refine ov_goto (tgt := 79) d_74_65 (by decide) ?_
          exact ov_reti (st := []) d_74_79 rfl ⟨_, rfl, rfl, rfl, (by show -2147483648 ≤ (-1) ∧ (-1) ≤ 2147483647; omega)⟩
      · skip
        refine ov_blk (ls2 := [(0, ov_r 3)]) (st2 := [ov_i 11]) (pc2 := 53) b_74_51_1 rfl rfl ?_
        exact ov_reti (st := []) d_74_53 rfl ⟨_, rfl, rfl, rfl, (by show -2147483648 ≤ 11 ∧ 11 ≤ 2147483647; omega)⟩
    · skip
      refine ov_blk (ls2 := [(0, ov_r 3)]) (st2 := [ov_i 10]) (pc2 := 37) b_74_35_1 rfl rfl ?_
      exact ov_reti (st := []) d_74_37 rfl ⟨_, rfl, rfl, rfl, (by show -2147483648 ≤ 10 ∧ 10 ≤ 2147483647; omega)⟩
  · skip
    refine ov_blk (ls2 := [(0, ov_r 3)]) (st2 := [ov_r 3, ov_i 16]) (pc2 := 14) b_74_11_2 rfl rfl ?_
    refine ov_getf (v := ov_r 1) d_74_14 fl_Reader_9 (zb_3 I) (zs_3 I) (congrArg ov_r (rg_3_0 I)) ?_
    refine ov_getf (v := ov_i (h 1 4)) d_74_17 fl_Reader_146 (zb_1 I) (zs_1 I) rfl ?_
    have g16 := rg_1_4 I
    refine ov_blk (ls2 := [(0, ov_r 3)]) (st2 := [ov_i (16 + (h 1 4))]) (pc2 := 21) b_74_20_1 rfl rfl ?_
    refine ov_havw (fun w17 gw17 qw17 => ?_)
    exact ov_reti (st := []) d_74_21 rfl ⟨_, rfl, rfl, rfl, (by show -2147483648 ≤ w17 ∧ w17 ≤ 2147483647; omega)⟩
abbrev P_Reader_readPart_3_k3_1_70 (F : ov_H) (z : ov_Z) (h : ov_H) (dep : Int) : Option ov_V → ov_Z → ov_H → Prop := fun r0 z' h' => ∃ r : Int, r0 = some (ov_i r) ∧ ov_I F z' h' ∧ ((r = 0 ∧ 1 ≤ h' 3 2 ∨ r = 1) ∧ h' 36 7 = h 36 7 ∧ h' 1 1 = h 1 1 ∧ h' 90 2 = h 90 2 ∧ h' 0 10 = h 0 10 ∧ h' 0 11 = h 0 11 ∧ h' 0 12 = h 0 12 ∧ h' 0 13 = h 0 13 ∧ h' 3 1 = h 3 1 ∧ h' 36 8 = h 36 8 ∧ h' 46 3 = h 46 3 ∧ h' 46 4 = h 46 4 ∧ h' 49 4 = h 49 4 ∧ h' 49 5 = h 49 5 ∧ h' 64 0 = h 64 0 ∧ h' 76 0 = h 76 0)
abbrev P_Reader_readProduct_3_k3_1_70 (F : ov_H) (z : ov_Z) (h : ov_H) (dep : Int) : Option ov_V → ov_Z → ov_H → Prop := fun r0 z' h' => ∃ r : Int, r0 = some (ov_i r) ∧ ov_I F z' h' ∧ ((r = 0 ∧ 1 ≤ h' 3 2 ∨ r = 1) ∧ h' 36 7 = h 36 7 ∧ h' 1 1 = h 1 1 ∧ h' 90 2 = h 90 2 ∧ h' 0 10 = h 0 10 ∧ h' 0 11 = h 0 11 ∧ h' 0 12 = h 0 12 ∧ h' 0 13 = h 0 13 ∧ h' 3 1 = h 3 1 ∧ h' 36 8 = h 36 8 ∧ h' 46 3 = h 46 3 ∧ h' 46 4 = h 46 4 ∧ h' 49 4 = h 49 4 ∧ h' 49 5 = h 49 5 ∧ h' 64 0 = h 64 0 ∧ h' 76 0 = h 76 0)
abbrev P_Reader_readSum_3_k3_1_70 (F : ov_H) (z : ov_Z) (h : ov_H) (dep : Int) : Option ov_V → ov_Z → ov_H → Prop := fun r0 z' h' => ∃ r : Int, r0 = some (ov_i r) ∧ ov_I F z' h' ∧ ((r = 0 ∧ 1 ≤ h' 3 2 ∨ r = 1) ∧ h' 36 7 = h 36 7 ∧ h' 1 1 = h 1 1 ∧ h' 90 2 = h 90 2 ∧ h' 0 10 = h 0 10 ∧ h' 0 11 = h 0 11 ∧ h' 0 12 = h 0 12 ∧ h' 0 13 = h 0 13 ∧ h' 3 1 = h 3 1 ∧ h' 36 8 = h 36 8 ∧ h' 46 3 = h 46 3 ∧ h' 46 4 = h 46 4 ∧ h' 49 4 = h 49 4 ∧ h' 49 5 = h 49 5 ∧ h' 64 0 = h 64 0 ∧ h' 76 0 = h 76 0)
abbrev P_Reader_readTest_3_k3_1_70 (F : ov_H) (z : ov_Z) (h : ov_H) (dep : Int) : Option ov_V → ov_Z → ov_H → Prop := fun r0 z' h' => ∃ r : Int, r0 = some (ov_i r) ∧ ov_I F z' h' ∧ ((r = 0 ∧ 1 ≤ h' 3 2 ∨ r = 1) ∧ h' 36 7 = h 36 7 ∧ h' 1 1 = h 1 1 ∧ h' 90 2 = h 90 2 ∧ h' 0 10 = h 0 10 ∧ h' 0 11 = h 0 11 ∧ h' 0 12 = h 0 12 ∧ h' 0 13 = h 0 13 ∧ h' 3 1 = h 3 1 ∧ h' 36 8 = h 36 8 ∧ h' 46 3 = h 46 3 ∧ h' 46 4 = h 46 4 ∧ h' 49 4 = h 49 4 ∧ h' 49 5 = h 49 5 ∧ h' 64 0 = h 64 0 ∧ h' 76 0 = h 76 0)
abbrev P_Reader_readExpression_3_k3_1_70 (F : ov_H) (z : ov_Z) (h : ov_H) (dep : Int) : Option ov_V → ov_Z → ov_H → Prop := fun r0 z' h' => ∃ r : Int, r0 = some (ov_i r) ∧ ov_I F z' h' ∧ ((r = 0 ∧ 1 ≤ h' 3 2 ∨ r = 1) ∧ h' 36 7 = h 36 7 ∧ h' 1 1 = h 1 1 ∧ h' 90 2 = h 90 2 ∧ h' 0 10 = h 0 10 ∧ h' 0 11 = h 0 11 ∧ h' 0 12 = h 0 12 ∧ h' 0 13 = h 0 13 ∧ h' 3 1 = h 3 1 ∧ h' 36 8 = h 36 8 ∧ h' 46 3 = h 46 3 ∧ h' 46 4 = h 46 4 ∧ h' 49 4 = h 49 4 ∧ h' 49 5 = h 49 5 ∧ h' 64 0 = h 64 0 ∧ h' 76 0 = h 76 0)
set_option maxHeartbeats 4000000 in
theorem c_Reader_readPart_3_k3_1_70 {u : ov_U} {F : ov_H} (k : Nat) (HE : ∀ k' : Nat, k' + 1 = k → ∀ {z : ov_Z} {h : ov_H} (d : Nat) (hd : (10 + 5 * k' + 4) ≤ d) (U : ov_cap u) (I : ov_I F z h) (hw : ov_kw 1210106411235346586009610 F) (dep : Int) (k0 : h 3 1 = 70) (g_dep : ov_g dep) (p0 : 0 ≤ dep ∧ dep + (k' : Int) = 5), ov_T u d ov_m69 [ov_r 3, ov_i dep] z h (P_Reader_readExpression_3_k3_1_70 F z h dep)) (HP : ∀ k' : Nat, k' + 1 = k → ∀ {z : ov_Z} {h : ov_H} (d : Nat) (hd : (10 + 5 * k' + 0) ≤ d) (U : ov_cap u) (I : ov_I F z h) (hw : ov_kw 1210106411235346586009610 F) (dep : Int) (k0 : h 3 1 = 70) (g_dep : ov_g dep) (p0 : 0 ≤ dep ∧ dep + (k' : Int) = 5), ov_T u d ov_m73 [ov_r 3, ov_i dep] z h (P_Reader_readPart_3_k3_1_70 F z h dep)) {z : ov_Z} {h : ov_H} (d : Nat) (hd : (10 + 5 * k + 0) ≤ d) (U : ov_cap u) (I : ov_I F z h) (hw : ov_kw 1210106411235346586009610 F) (dep : Int) (k0 : h 3 1 = 70) (g_dep : ov_g dep) (p0 : 0 ≤ dep ∧ dep + (k : Int) = 5) : ov_T u d ov_m73 [ov_r 3, ov_i dep] z h (P_Reader_readPart_3_k3_1_70 F z h dep) := by
  refine ov_en rfl (Nat.le_of_ble_eq_true rfl) ?_
  show ov_R u d ov_m73 0 [(0, ov_r 3), (1, ov_i dep)] [] z h (P_Reader_readPart_3_k3_1_70 F z h dep)
  refine ov_blk (ls2 := [(0, ov_r 3), (1, ov_i dep)]) (st2 := [ov_r 3]) (pc2 := 1) b_73_0_1 rfl rfl ?_
  refine ov_cV (as := []) (st := []) (d2 := d - 1) d_73_1 lk_Reader_240 rfl (Nat.le_of_ble_eq_true rfl) (c := 6) (zb_3 I) (zs_3 I) ⟨by decide, rfl⟩ (by omega) (c_Reader_plainPart_3_k3_1_70 (d - 1) (by omega) U I k0) ?_
  rintro _ _ _ ⟨v2, rfl, rfl, rfl, f1⟩
  show ov_R u d ov_m73 4 [(0, ov_r 3), (1, ov_i dep)] [ov_i v2] z h (P_Reader_readPart_3_k3_1_70 F z h dep)
  have f3 : -2147483648 ≤ v2 ∧ v2 ≤ 2147483647 := f1
  clear f1
  refine ov_blk (ls2 := [(0, ov_r 3), (1, ov_i dep), (2, ov_i v2)]) (st2 := [ov_r 3]) (pc2 := 6) b_73_4_2 rfl rfl ?_
  refine ov_getf (v := ov_r 1) d_73_6 fl_Reader_9 (zb_3 I) (zs_3 I) (congrArg ov_r (rg_3_0 I)) ?_
  refine ov_ldc2 (n := 7237492) d_73_9 kc_Reader_243 ?_
  refine ov_cV (as := [ov_l 7237492]) (st := []) (d2 := d - 1) d_73_12 lk_Reader_110 rfl (Nat.le_of_ble_eq_true rfl) (c := 8) (zb_1 I) (zs_1 I) ⟨by decide, rfl⟩ (by omega) (c_Tape_isWord_1 (d - 1) (by omega) U I 7237492) ?_
  rintro _ _ _ ⟨v5, rfl, rfl, rfl, f4⟩
  show ov_R u d ov_m73 15 [(0, ov_r 3), (1, ov_i dep), (2, ov_i v2)] [ov_i v5] z h (P_Reader_readPart_3_k3_1_70 F z h dep)
  have f6 : (v5 = 0 ∨ v5 = 1) ∧ (v5 = 1 → (h 1 2) = 2) := f4
  clear f4
  refine ov_blk (ls2 := [(0, ov_r 3), (1, ov_i dep), (2, ov_i v2), (3, ov_i v5)]) (st2 := [ov_r 3]) (pc2 := 17) b_73_15_2 rfl rfl ?_
  refine ov_getf (v := ov_r 1) d_73_17 fl_Reader_9 (zb_3 I) (zs_3 I) (congrArg ov_r (rg_3_0 I)) ?_
  refine ov_blk (ls2 := [(0, ov_r 3), (1, ov_i dep), (2, ov_i v2), (3, ov_i v5)]) (st2 := [ov_i 40, ov_r 1]) (pc2 := 22) b_73_20_1 rfl rfl ?_
  refine ov_cV (as := [ov_i 40]) (st := []) (d2 := d - 1) d_73_22 lk_Reader_231 rfl (Nat.le_of_ble_eq_true rfl) (c := 8) (zb_1 I) (zs_1 I) ⟨by decide, rfl⟩ (by omega) (c_Tape_isSign_1 (d - 1) (by omega) U I 40 (by omega)) ?_
  rintro _ _ _ ⟨v8, rfl, rfl, rfl, f7⟩
  show ov_R u d ov_m73 25 [(0, ov_r 3), (1, ov_i dep), (2, ov_i v2), (3, ov_i v5)] [ov_i v8] z h (P_Reader_readPart_3_k3_1_70 F z h dep)
  have f9 : (v8 = 0 ∨ v8 = 1) := f7
  clear f7
  refine ov_blk (ls2 := [(0, ov_r 3), (1, ov_i dep), (2, ov_i v2), (3, ov_i v5), (4, ov_i v8)]) (st2 := [ov_i (-1), ov_i v2]) (pc2 := 29) b_73_25_3 rfl rfl ?_
  refine ov_icne (tgt := 47) d_73_29 (by decide) (by omega) (by omega) (fun c10 => ?_) (fun c10 => ?_)
  · skip
    refine ov_blk (ls2 := [(0, ov_r 3), (1, ov_i dep), (2, ov_i v2), (3, ov_i v5), (4, ov_i v8)]) (st2 := [ov_i 4, ov_i dep]) (pc2 := 49) b_73_47_2 rfl rfl ?_
    refine ov_icle (tgt := 58) d_73_49 (by decide) (by omega) (by omega) (fun c11 => ?_) (fun c11 => ?_)
    · skip
      refine ov_blk (ls2 := [(0, ov_r 3), (1, ov_i dep), (2, ov_i v2), (3, ov_i v5), (4, ov_i v8)]) (st2 := [ov_r 3]) (pc2 := 59) b_73_58_1 rfl rfl ?_
      refine ov_getf (v := ov_r 1) d_73_59 fl_Reader_9 (zb_3 I) (zs_3 I) (congrArg ov_r (rg_3_0 I)) ?_
      refine ov_cV (as := []) (st := []) (d2 := d - 1) d_73_62 lk_Reader_75 rfl (Nat.le_of_ble_eq_true rfl) (c := 8) (zb_1 I) (zs_1 I) ⟨by decide, rfl⟩ (by omega) (c_Tape_advance_1 (d - 1) (by omega) U I (ov_kws hw (by decide +kernel))) ?_
      rintro _ z13 h14 ⟨rfl, I15, f12⟩
      show ov_R u d ov_m73 65 [(0, ov_r 3), (1, ov_i dep), (2, ov_i v2), (3, ov_i v5), (4, ov_i v8)] [] z13 h14 (P_Reader_readPart_3_k3_1_70 F z h dep)
      have f16 : (h14 3 3) = (h 3 3) ∧ (h14 36 7) = (h 36 7) ∧ (h14 1 1) = (h 1 1) ∧ (h14 90 2) = (h 90 2) ∧ (h14 0 10) = (h 0 10) ∧ (h14 0 11) = (h 0 11) ∧ (h14 0 12) = (h 0 12) ∧ (h14 0 13) = (h 0 13) ∧ (h14 3 1) = (h 3 1) ∧ (h14 36 8) = (h 36 8) ∧ (h14 46 3) = (h 46 3) ∧ (h14 46 4) = (h 46 4) ∧ (h14 49 4) = (h 49 4) ∧ (h14 49 5) = (h 49 5) ∧ (h14 64 0) = (h 64 0) ∧ (h14 76 0) = (h 76 0) := f12
      clear f12
      have e17 : h14 3 1 = 70 := by omega
      refine ov_blk (ls2 := [(0, ov_r 3), (1, ov_i dep), (2, ov_i v2), (3, ov_i v5), (4, ov_i v8)]) (st2 := [ov_i v8]) (pc2 := 67) b_73_65_1 rfl rfl ?_
      refine ov_ifeq (tgt := 95) d_73_67 (by decide) (by omega) (fun c18 => ?_) (fun c18 => ?_)
      · skip
        refine ov_blk (ls2 := [(0, ov_r 3), (1, ov_i dep), (2, ov_i v2), (3, ov_i v5), (4, ov_i v8)]) (st2 := [ov_i v5]) (pc2 := 96) b_73_95_1 rfl rfl ?_
        refine ov_ifeq (tgt := 109) d_73_96 (by decide) (by omega) (fun c19 => ?_) (fun c19 => ?_)
        · skip
          refine ov_blk (ls2 := [(0, ov_r 3), (1, ov_i dep), (2, ov_i v2), (3, ov_i v5), (4, ov_i v8)]) (st2 := [ov_i 1]) (pc2 := 110) b_73_109_1 rfl rfl ?_
          refine ov_goto (tgt := 114) d_73_110 (by decide) ?_
          refine ov_blk (ls2 := [(0, ov_r 3), (1, ov_i dep), (2, ov_i v2), (3, ov_i v5), (4, ov_i v8), (5, ov_i 1)]) (st2 := [ov_r 3]) (pc2 := 117) b_73_114_2 rfl rfl ?_
          refine ov_getf (v := ov_r 70) d_73_117 fl_Reader_15 (zb_3 I15) (zs_3 I15) (congrArg ov_r e17) ?_
          refine ov_blk (ls2 := [(0, ov_r 3), (1, ov_i dep), (2, ov_i v2), (3, ov_i v5), (4, ov_i v8), (5, ov_i 1)]) (st2 := [ov_i v5, ov_r 70]) (pc2 := 121) b_73_120_1 rfl rfl ?_
          refine ov_ifeq (tgt := 128) d_73_121 (by decide) (by omega) (fun c20 => ?_) (fun c20 => ?_)
          · skip
            refine ov_blk (ls2 := [(0, ov_r 3), (1, ov_i dep), (2, ov_i v2), (3, ov_i v5), (4, ov_i v8), (5, ov_i 1)]) (st2 := [ov_i v2, ov_r 70]) (pc2 := 129) b_73_128_1 rfl rfl ?_
            refine ov_cV (as := [ov_i v2]) (st := []) (d2 := d - 1) d_73_129 lk_Reader_224 rfl (Nat.le_of_ble_eq_true rfl) (c := 9) (zb_70 I15) (zs_70 I15) ⟨by decide, rfl⟩ (by omega) (c_Town_addCode_70 (d - 1) (by omega) U I15 (ov_kws hw (by decide +kernel)) v2 (by omega)) ?_
            rintro _ z22 h23 ⟨rfl, I24, f21⟩
            show ov_R u d ov_m73 132 [(0, ov_r 3), (1, ov_i dep), (2, ov_i v2), (3, ov_i v5), (4, ov_i v8), (5, ov_i 1)] [] z22 h23 (P_Reader_readPart_3_k3_1_70 F z h dep)
            have f25 : (h23 3 2) = (h14 3 2) ∧ (h23 36 7) = (h14 36 7) ∧ (h23 1 1) = (h14 1 1) ∧ (h23 90 2) = (h14 90 2) ∧ (h23 0 10) = (h14 0 10) ∧ (h23 0 11) = (h14 0 11) ∧ (h23 0 12) = (h14 0 12) ∧ (h23 0 13) = (h14 0 13) ∧ (h23 3 1) = (h14 3 1) ∧ (h23 36 8) = (h14 36 8) ∧ (h23 46 3) = (h14 46 3) ∧ (h23 46 4) = (h14 46 4) ∧ (h23 49 4) = (h14 49 4) ∧ (h23 49 5) = (h14 49 5) ∧ (h23 64 0) = (h14 64 0) ∧ (h23 76 0) = (h14 76 0) := f21
            clear f21
            have e26 : h23 3 1 = 70 := by omega
            refine ov_blk (ls2 := [(0, ov_r 3), (1, ov_i dep), (2, ov_i v2), (3, ov_i v5), (4, ov_i v8), (5, ov_i 1)]) (st2 := [ov_i 1]) (pc2 := 134) b_73_132_1 rfl rfl ?_
            exact ov_retz (st := []) d_73_134 rfl (by omega) ⟨_, rfl, I24, (by show (1 = 0 ∧ 1 ≤ (h23 3 2) ∨ 1 = 1) ∧ (h23 36 7) = (h 36 7) ∧ (h23 1 1) = (h 1 1) ∧ (h23 90 2) = (h 90 2) ∧ (h23 0 10) = (h 0 10) ∧ (h23 0 11) = (h 0 11) ∧ (h23 0 12) = (h 0 12) ∧ (h23 0 13) = (h 0 13) ∧ (h23 3 1) = (h 3 1) ∧ (h23 36 8) = (h 36 8) ∧ (h23 46 3) = (h 46 3) ∧ (h23 46 4) = (h 46 4) ∧ (h23 49 4) = (h 49 4) ∧ (h23 49 5) = (h 49 5) ∧ (h23 64 0) = (h 64 0) ∧ (h23 76 0) = (h 76 0); omega)⟩
          · skip
            refine ov_blk (ls2 := [(0, ov_r 3), (1, ov_i dep), (2, ov_i v2), (3, ov_i v5), (4, ov_i v8), (5, ov_i 1)]) (st2 := [ov_i 0, ov_r 70]) (pc2 := 125) b_73_124_1 rfl rfl ?_
            refine ov_goto (tgt := 129) d_73_125 (by decide) ?_
            refine ov_cV (as := [ov_i 0]) (st := []) (d2 := d - 1) d_73_129 lk_Reader_224 rfl (Nat.le_of_ble_eq_true rfl) (c := 9) (zb_70 I15) (zs_70 I15) ⟨by decide, rfl⟩ (by omega) (c_Town_addCode_70 (d - 1) (by omega) U I15 (ov_kws hw (by decide +kernel)) 0 (by omega)) ?_
            rintro _ z28 h29 ⟨rfl, I30, f27⟩
            show ov_R u d ov_m73 132 [(0, ov_r 3), (1, ov_i dep), (2, ov_i v2), (3, ov_i v5), (4, ov_i v8), (5, ov_i 1)] [] z28 h29 (P_Reader_readPart_3_k3_1_70 F z h dep)
            have f31 : (h29 3 2) = (h14 3 2) ∧ (h29 36 7) = (h14 36 7) ∧ (h29 1 1) = (h14 1 1) ∧ (h29 90 2) = (h14 90 2) ∧ (h29 0 10) = (h14 0 10) ∧ (h29 0 11) = (h14 0 11) ∧ (h29 0 12) = (h14 0 12) ∧ (h29 0 13) = (h14 0 13) ∧ (h29 3 1) = (h14 3 1) ∧ (h29 36 8) = (h14 36 8) ∧ (h29 46 3) = (h14 46 3) ∧ (h29 46 4) = (h14 46 4) ∧ (h29 49 4) = (h14 49 4) ∧ (h29 49 5) = (h14 49 5) ∧ (h29 64 0) = (h14 64 0) ∧ (h29 76 0) = (h14 76 0) := f27
            clear f27
            have e32 : h29 3 1 = 70 := by omega
            refine ov_blk (ls2 := [(0, ov_r 3), (1, ov_i dep), (2, ov_i v2), (3, ov_i v5), (4, ov_i v8), (5, ov_i 1)]) (st2 := [ov_i 1]) (pc2 := 134) b_73_132_1 rfl rfl ?_
            exact ov_retz (st := []) d_73_134 rfl (by omega) ⟨_, rfl, I30, (by show (1 = 0 ∧ 1 ≤ (h29 3 2) ∨ 1 = 1) ∧ (h29 36 7) = (h 36 7) ∧ (h29 1 1) = (h 1 1) ∧ (h29 90 2) = (h 90 2) ∧ (h29 0 10) = (h 0 10) ∧ (h29 0 11) = (h 0 11) ∧ (h29 0 12) = (h 0 12) ∧ (h29 0 13) = (h 0 13) ∧ (h29 3 1) = (h 3 1) ∧ (h29 36 8) = (h 36 8) ∧ (h29 46 3) = (h 46 3) ∧ (h29 46 4) = (h 46 4) ∧ (h29 49 4) = (h 49 4) ∧ (h29 49 5) = (h 49 5) ∧ (h29 64 0) = (h 64 0) ∧ (h29 76 0) = (h 76 0); omega)⟩
        · skip
          refine ov_blk (ls2 := [(0, ov_r 3), (1, ov_i dep), (2, ov_i v2), (3, ov_i v5), (4, ov_i v8)]) (st2 := [ov_i (dep + 1), ov_r 3]) (pc2 := 103) b_73_99_4 rfl rfl ?_
          refine ov_cV (as := [ov_i (dep + 1)]) (st := []) (d2 := d - 1) d_73_103 lk_Reader_237 rfl (Nat.le_of_ble_eq_true rfl) (c := 6) (zb_3 I15) (zs_3 I15) ⟨by decide, rfl⟩ (by omega) (HP (k - 1) (by omega) (d - 1) (by omega) U I15 (ov_kws hw (by decide +kernel)) (dep + 1) e17 (by omega) (by omega)) ?_
          rintro _ z35 h36 ⟨v34, rfl, I37, f33⟩
          show ov_R u d ov_m73 106 [(0, ov_r 3), (1, ov_i dep), (2, ov_i v2), (3, ov_i v5), (4, ov_i v8)] [ov_i v34] z35 h36 (P_Reader_readPart_3_k3_1_70 F z h dep)
          have f38 : (v34 = 0 ∧ 1 ≤ (h36 3 2) ∨ v34 = 1) ∧ (h36 36 7) = (h14 36 7) ∧ (h36 1 1) = (h14 1 1) ∧ (h36 90 2) = (h14 90 2) ∧ (h36 0 10) = (h14 0 10) ∧ (h36 0 11) = (h14 0 11) ∧ (h36 0 12) = (h14 0 12) ∧ (h36 0 13) = (h14 0 13) ∧ (h36 3 1) = (h14 3 1) ∧ (h36 36 8) = (h14 36 8) ∧ (h36 46 3) = (h14 46 3) ∧ (h36 46 4) = (h14 46 4) ∧ (h36 49 4) = (h14 49 4) ∧ (h36 49 5) = (h14 49 5) ∧ (h36 64 0) = (h14 64 0) ∧ (h36 76 0) = (h14 76 0) := f33
          clear f33
          have e39 : h36 3 1 = 70 := by omega
          refine ov_ifeq (tgt := 113) d_73_106 (by decide) (by omega) (fun c40 => ?_) (fun c40 => ?_)
          · skip
            refine ov_blk (ls2 := [(0, ov_r 3), (1, ov_i dep), (2, ov_i v2), (3, ov_i v5), (4, ov_i v8), (5, ov_i 0)]) (st2 := [ov_r 3]) (pc2 := 117) b_73_113_3 rfl rfl ?_
            refine ov_getf (v := ov_r 70) d_73_117 fl_Reader_15 (zb_3 I37) (zs_3 I37) (congrArg ov_r e39) ?_
            refine ov_blk (ls2 := [(0, ov_r 3), (1, ov_i dep), (2, ov_i v2), (3, ov_i v5), (4, ov_i v8), (5, ov_i 0)]) (st2 := [ov_i v5, ov_r 70]) (pc2 := 121) b_73_120_1 rfl rfl ?_
            refine ov_ifeq (tgt := 128) d_73_121 (by decide) (by omega) (fun c41 => ?_) (fun c41 => ?_)
            · skip
              refine ov_blk (ls2 := [(0, ov_r 3), (1, ov_i dep), (2, ov_i v2), (3, ov_i v5), (4, ov_i v8), (5, ov_i 0)]) (st2 := [ov_i v2, ov_r 70]) (pc2 := 129) b_73_128_1 rfl rfl ?_
              refine ov_cV (as := [ov_i v2]) (st := []) (d2 := d - 1) d_73_129 lk_Reader_224 rfl (Nat.le_of_ble_eq_true rfl) (c := 9) (zb_70 I37) (zs_70 I37) ⟨by decide, rfl⟩ (by omega) (c_Town_addCode_70 (d - 1) (by omega) U I37 (ov_kws hw (by decide +kernel)) v2 (by omega)) ?_
              rintro _ z43 h44 ⟨rfl, I45, f42⟩
              show ov_R u d ov_m73 132 [(0, ov_r 3), (1, ov_i dep), (2, ov_i v2), (3, ov_i v5), (4, ov_i v8), (5, ov_i 0)] [] z43 h44 (P_Reader_readPart_3_k3_1_70 F z h dep)
              have f46 : (h44 3 2) = (h36 3 2) ∧ (h44 36 7) = (h36 36 7) ∧ (h44 1 1) = (h36 1 1) ∧ (h44 90 2) = (h36 90 2) ∧ (h44 0 10) = (h36 0 10) ∧ (h44 0 11) = (h36 0 11) ∧ (h44 0 12) = (h36 0 12) ∧ (h44 0 13) = (h36 0 13) ∧ (h44 3 1) = (h36 3 1) ∧ (h44 36 8) = (h36 36 8) ∧ (h44 46 3) = (h36 46 3) ∧ (h44 46 4) = (h36 46 4) ∧ (h44 49 4) = (h36 49 4) ∧ (h44 49 5) = (h36 49 5) ∧ (h44 64 0) = (h36 64 0) ∧ (h44 76 0) = (h36 76 0) := f42
              clear f42
              have e47 : h44 3 1 = 70 := by omega
              refine ov_blk (ls2 := [(0, ov_r 3), (1, ov_i dep), (2, ov_i v2), (3, ov_i v5), (4, ov_i v8), (5, ov_i 0)]) (st2 := [ov_i 0]) (pc2 := 134) b_73_132_1 rfl rfl ?_
              exact ov_retz (st := []) d_73_134 rfl (by omega) ⟨_, rfl, I45, (by show (0 = 0 ∧ 1 ≤ (h44 3 2) ∨ 0 = 1) ∧ (h44 36 7) = (h 36 7) ∧ (h44 1 1) = (h 1 1) ∧ (h44 90 2) = (h 90 2) ∧ (h44 0 10) = (h 0 10) ∧ (h44 0 11) = (h 0 11) ∧ (h44 0 12) = (h 0 12) ∧ (h44 0 13) = (h 0 13) ∧ (h44 3 1) = (h 3 1) ∧ (h44 36 8) = (h 36 8) ∧ (h44 46 3) = (h 46 3) ∧ (h44 46 4) = (h 46 4) ∧ (h44 49 4) = (h 49 4) ∧ (h44 49 5) = (h 49 5) ∧ (h44 64 0) = (h 64 0) ∧ (h44 76 0) = (h 76 0); omega)⟩
            · skip
              refine ov_blk (ls2 := [(0, ov_r 3), (1, ov_i dep), (2, ov_i v2), (3, ov_i v5), (4, ov_i v8), (5, ov_i 0)]) (st2 := [ov_i 0, ov_r 70]) (pc2 := 125) b_73_124_1 rfl rfl ?_
              refine ov_goto (tgt := 129) d_73_125 (by decide) ?_
              refine ov_cV (as := [ov_i 0]) (st := []) (d2 := d - 1) d_73_129 lk_Reader_224 rfl (Nat.le_of_ble_eq_true rfl) (c := 9) (zb_70 I37) (zs_70 I37) ⟨by decide, rfl⟩ (by omega) (c_Town_addCode_70 (d - 1) (by omega) U I37 (ov_kws hw (by decide +kernel)) 0 (by omega)) ?_
              rintro _ z49 h50 ⟨rfl, I51, f48⟩
              show ov_R u d ov_m73 132 [(0, ov_r 3), (1, ov_i dep), (2, ov_i v2), (3, ov_i v5), (4, ov_i v8), (5, ov_i 0)] [] z49 h50 (P_Reader_readPart_3_k3_1_70 F z h dep)
              have f52 : (h50 3 2) = (h36 3 2) ∧ (h50 36 7) = (h36 36 7) ∧ (h50 1 1) = (h36 1 1) ∧ (h50 90 2) = (h36 90 2) ∧ (h50 0 10) = (h36 0 10) ∧ (h50 0 11) = (h36 0 11) ∧ (h50 0 12) = (h36 0 12) ∧ (h50 0 13) = (h36 0 13) ∧ (h50 3 1) = (h36 3 1) ∧ (h50 36 8) = (h36 36 8) ∧ (h50 46 3) = (h36 46 3) ∧ (h50 46 4) = (h36 46 4) ∧ (h50 49 4) = (h36 49 4) ∧ (h50 49 5) = (h36 49 5) ∧ (h50 64 0) = (h36 64 0) ∧ (h50 76 0) = (h36 76 0) := f48
              clear f48
              have e53 : h50 3 1 = 70 := by omega
              refine ov_blk (ls2 := [(0, ov_r 3), (1, ov_i dep), (2, ov_i v2), (3, ov_i v5), (4, ov_i v8), (5, ov_i 0)]) (st2 := [ov_i 0]) (pc2 := 134) b_73_132_1 rfl rfl ?_
              exact ov_retz (st := []) d_73_134 rfl (by omega) ⟨_, rfl, I51, (by show (0 = 0 ∧ 1 ≤ (h50 3 2) ∨ 0 = 1) ∧ (h50 36 7) = (h 36 7) ∧ (h50 1 1) = (h 1 1) ∧ (h50 90 2) = (h 90 2) ∧ (h50 0 10) = (h 0 10) ∧ (h50 0 11) = (h 0 11) ∧ (h50 0 12) = (h 0 12) ∧ (h50 0 13) = (h 0 13) ∧ (h50 3 1) = (h 3 1) ∧ (h50 36 8) = (h 36 8) ∧ (h50 46 3) = (h 46 3) ∧ (h50 46 4) = (h 46 4) ∧ (h50 49 4) = (h 49 4) ∧ (h50 49 5) = (h 49 5) ∧ (h50 64 0) = (h 64 0) ∧ (h50 76 0) = (h 76 0); omega)⟩
          · skip
            refine ov_blk (ls2 := [(0, ov_r 3), (1, ov_i dep), (2, ov_i v2), (3, ov_i v5), (4, ov_i v8)]) (st2 := [ov_i 1]) (pc2 := 110) b_73_109_1 rfl rfl ?_
            refine ov_goto (tgt := 114) d_73_110 (by decide) ?_
            refine ov_blk (ls2 := [(0, ov_r 3), (1, ov_i dep), (2, ov_i v2), (3, ov_i v5), (4, ov_i v8), (5, ov_i 1)]) (st2 := [ov_r 3]) (pc2 := 117) b_73_114_2 rfl rfl ?_
            refine ov_getf (v := ov_r 70) d_73_117 fl_Reader_15 (zb_3 I37) (zs_3 I37) (congrArg ov_r e39) ?_
            refine ov_blk (ls2 := [(0, ov_r 3), (1, ov_i dep), (2, ov_i v2), (3, ov_i v5), (4, ov_i v8), (5, ov_i 1)]) (st2 := [ov_i v5, ov_r 70]) (pc2 := 121) b_73_120_1 rfl rfl ?_
            refine ov_ifeq (tgt := 128) d_73_121 (by decide) (by omega) (fun c54 => ?_) (fun c54 => ?_)
            · skip
              refine ov_blk (ls2 := [(0, ov_r 3), (1, ov_i dep), (2, ov_i v2), (3, ov_i v5), (4, ov_i v8), (5, ov_i 1)]) (st2 := [ov_i v2, ov_r 70]) (pc2 := 129) b_73_128_1 rfl rfl ?_
              refine ov_cV (as := [ov_i v2]) (st := []) (d2 := d - 1) d_73_129 lk_Reader_224 rfl (Nat.le_of_ble_eq_true rfl) (c := 9) (zb_70 I37) (zs_70 I37) ⟨by decide, rfl⟩ (by omega) (c_Town_addCode_70 (d - 1) (by omega) U I37 (ov_kws hw (by decide +kernel)) v2 (by omega)) ?_
              rintro _ z56 h57 ⟨rfl, I58, f55⟩
              show ov_R u d ov_m73 132 [(0, ov_r 3), (1, ov_i dep), (2, ov_i v2), (3, ov_i v5), (4, ov_i v8), (5, ov_i 1)] [] z56 h57 (P_Reader_readPart_3_k3_1_70 F z h dep)
              have f59 : (h57 3 2) = (h36 3 2) ∧ (h57 36 7) = (h36 36 7) ∧ (h57 1 1) = (h36 1 1) ∧ (h57 90 2) = (h36 90 2) ∧ (h57 0 10) = (h36 0 10) ∧ (h57 0 11) = (h36 0 11) ∧ (h57 0 12) = (h36 0 12) ∧ (h57 0 13) = (h36 0 13) ∧ (h57 3 1) = (h36 3 1) ∧ (h57 36 8) = (h36 36 8) ∧ (h57 46 3) = (h36 46 3) ∧ (h57 46 4) = (h36 46 4) ∧ (h57 49 4) = (h36 49 4) ∧ (h57 49 5) = (h36 49 5) ∧ (h57 64 0) = (h36 64 0) ∧ (h57 76 0) = (h36 76 0) := f55
              clear f55
              have e60 : h57 3 1 = 70 := by omega
              refine ov_blk (ls2 := [(0, ov_r 3), (1, ov_i dep), (2, ov_i v2), (3, ov_i v5), (4, ov_i v8), (5, ov_i 1)]) (st2 := [ov_i 1]) (pc2 := 134) b_73_132_1 rfl rfl ?_
              exact ov_retz (st := []) d_73_134 rfl (by omega) ⟨_, rfl, I58, (by show (1 = 0 ∧ 1 ≤ (h57 3 2) ∨ 1 = 1) ∧ (h57 36 7) = (h 36 7) ∧ (h57 1 1) = (h 1 1) ∧ (h57 90 2) = (h 90 2) ∧ (h57 0 10) = (h 0 10) ∧ (h57 0 11) = (h 0 11) ∧ (h57 0 12) = (h 0 12) ∧ (h57 0 13) = (h 0 13) ∧ (h57 3 1) = (h 3 1) ∧ (h57 36 8) = (h 36 8) ∧ (h57 46 3) = (h 46 3) ∧ (h57 46 4) = (h 46 4) ∧ (h57 49 4) = (h 49 4) ∧ (h57 49 5) = (h 49 5) ∧ (h57 64 0) = (h 64 0) ∧ (h57 76 0) = (h 76 0); omega)⟩
            · skip
              refine ov_blk (ls2 := [(0, ov_r 3), (1, ov_i dep), (2, ov_i v2), (3, ov_i v5), (4, ov_i v8), (5, ov_i 1)]) (st2 := [ov_i 0, ov_r 70]) (pc2 := 125) b_73_124_1 rfl rfl ?_
              refine ov_goto (tgt := 129) d_73_125 (by decide) ?_
              refine ov_cV (as := [ov_i 0]) (st := []) (d2 := d - 1) d_73_129 lk_Reader_224 rfl (Nat.le_of_ble_eq_true rfl) (c := 9) (zb_70 I37) (zs_70 I37) ⟨by decide, rfl⟩ (by omega) (c_Town_addCode_70 (d - 1) (by omega) U I37 (ov_kws hw (by decide +kernel)) 0 (by omega)) ?_
              rintro _ z62 h63 ⟨rfl, I64, f61⟩
              show ov_R u d ov_m73 132 [(0, ov_r 3), (1, ov_i dep), (2, ov_i v2), (3, ov_i v5), (4, ov_i v8), (5, ov_i 1)] [] z62 h63 (P_Reader_readPart_3_k3_1_70 F z h dep)
              have f65 : (h63 3 2) = (h36 3 2) ∧ (h63 36 7) = (h36 36 7) ∧ (h63 1 1) = (h36 1 1) ∧ (h63 90 2) = (h36 90 2) ∧ (h63 0 10) = (h36 0 10) ∧ (h63 0 11) = (h36 0 11) ∧ (h63 0 12) = (h36 0 12) ∧ (h63 0 13) = (h36 0 13) ∧ (h63 3 1) = (h36 3 1) ∧ (h63 36 8) = (h36 36 8) ∧ (h63 46 3) = (h36 46 3) ∧ (h63 46 4) = (h36 46 4) ∧ (h63 49 4) = (h36 49 4) ∧ (h63 49 5) = (h36 49 5) ∧ (h63 64 0) = (h36 64 0) ∧ (h63 76 0) = (h36 76 0) := f61
              clear f61
              have e66 : h63 3 1 = 70 := by omega
              refine ov_blk (ls2 := [(0, ov_r 3), (1, ov_i dep), (2, ov_i v2), (3, ov_i v5), (4, ov_i v8), (5, ov_i 1)]) (st2 := [ov_i 1]) (pc2 := 134) b_73_132_1 rfl rfl ?_
              exact ov_retz (st := []) d_73_134 rfl (by omega) ⟨_, rfl, I64, (by show (1 = 0 ∧ 1 ≤ (h63 3 2) ∨ 1 = 1) ∧ (h63 36 7) = (h 36 7) ∧ (h63 1 1) = (h 1 1) ∧ (h63 90 2) = (h 90 2) ∧ (h63 0 10) = (h 0 10) ∧ (h63 0 11) = (h 0 11) ∧ (h63 0 12) = (h 0 12) ∧ (h63 0 13) = (h 0 13) ∧ (h63 3 1) = (h 3 1) ∧ (h63 36 8) = (h 36 8) ∧ (h63 46 3) = (h 46 3) ∧ (h63 46 4) = (h 46 4) ∧ (h63 49 4) = (h 49 4) ∧ (h63 49 5) = (h 49 5) ∧ (h63 64 0) = (h 64 0) ∧ (h63 76 0) = (h 76 0); omega)⟩
      · skip
        refine ov_blk (ls2 := [(0, ov_r 3), (1, ov_i dep), (2, ov_i v2), (3, ov_i v5), (4, ov_i v8)]) (st2 := [ov_i (dep + 1), ov_r 3]) (pc2 := 74) b_73_70_4 rfl rfl ?_
        refine ov_cV (as := [ov_i (dep + 1)]) (st := []) (d2 := d - 1) d_73_74 lk_Reader_210 rfl (Nat.le_of_ble_eq_true rfl) (c := 6) (zb_3 I15) (zs_3 I15) ⟨by decide, rfl⟩ (by omega) (HE (k - 1) (by omega) (d - 1) (by omega) U I15 (ov_kws hw (by decide +kernel)) (dep + 1) e17 (by omega) (by omega)) ?_
        rintro _ z69 h70 ⟨v68, rfl, I71, f67⟩
        show ov_R u d ov_m73 77 [(0, ov_r 3), (1, ov_i dep), (2, ov_i v2), (3, ov_i v5), (4, ov_i v8)] [ov_i v68] z69 h70 (P_Reader_readPart_3_k3_1_70 F z h dep)
        have f72 : (v68 = 0 ∧ 1 ≤ (h70 3 2) ∨ v68 = 1) ∧ (h70 36 7) = (h14 36 7) ∧ (h70 1 1) = (h14 1 1) ∧ (h70 90 2) = (h14 90 2) ∧ (h70 0 10) = (h14 0 10) ∧ (h70 0 11) = (h14 0 11) ∧ (h70 0 12) = (h14 0 12) ∧ (h70 0 13) = (h14 0 13) ∧ (h70 3 1) = (h14 3 1) ∧ (h70 36 8) = (h14 36 8) ∧ (h70 46 3) = (h14 46 3) ∧ (h70 46 4) = (h14 46 4) ∧ (h70 49 4) = (h14 49 4) ∧ (h70 49 5) = (h14 49 5) ∧ (h70 64 0) = (h14 64 0) ∧ (h70 76 0) = (h14 76 0) := f67
        clear f67
        have e73 : h70 3 1 = 70 := by omega
        refine ov_ifeq (tgt := 93) d_73_77 (by decide) (by omega) (fun c74 => ?_) (fun c74 => ?_)
        · skip
          refine ov_blk (ls2 := [(0, ov_r 3), (1, ov_i dep), (2, ov_i v2), (3, ov_i v5), (4, ov_i v8)]) (st2 := [ov_i 0]) (pc2 := 94) b_73_93_1 rfl rfl ?_
          exact ov_retz (st := []) d_73_94 rfl (by omega) ⟨_, rfl, I71, (by show (0 = 0 ∧ 1 ≤ (h70 3 2) ∨ 0 = 1) ∧ (h70 36 7) = (h 36 7) ∧ (h70 1 1) = (h 1 1) ∧ (h70 90 2) = (h 90 2) ∧ (h70 0 10) = (h 0 10) ∧ (h70 0 11) = (h 0 11) ∧ (h70 0 12) = (h 0 12) ∧ (h70 0 13) = (h 0 13) ∧ (h70 3 1) = (h 3 1) ∧ (h70 36 8) = (h 36 8) ∧ (h70 46 3) = (h 46 3) ∧ (h70 46 4) = (h 46 4) ∧ (h70 49 4) = (h 49 4) ∧ (h70 49 5) = (h 49 5) ∧ (h70 64 0) = (h 64 0) ∧ (h70 76 0) = (h 76 0); omega)⟩
        · skip
          refine ov_blk (ls2 := [(0, ov_r 3), (1, ov_i dep), (2, ov_i v2), (3, ov_i v5), (4, ov_i v8)]) (st2 := [ov_i 41, ov_r 3]) (pc2 := 83) b_73_80_2 rfl rfl ?_
          refine ov_cV (as := [ov_i 41]) (st := []) (d2 := d - 1) d_73_83 lk_Reader_92 rfl (Nat.le_of_ble_eq_true rfl) (c := 6) (zb_3 I71) (zs_3 I71) ⟨by decide, rfl⟩ (by omega) (c_Reader_takeSign_3_k3_1_70 (d - 1) (by omega) U I71 (ov_kws hw (by decide +kernel)) 41 e73 (by omega)) ?_
          rintro _ z77 h78 ⟨v76, rfl, I79, f75⟩
          show ov_R u d ov_m73 86 [(0, ov_r 3), (1, ov_i dep), (2, ov_i v2), (3, ov_i v5), (4, ov_i v8)] [ov_i v76] z77 h78 (P_Reader_readPart_3_k3_1_70 F z h dep)
          have f80 : (v76 = 0 ∧ 1 ≤ (h78 3 2) ∨ v76 = 1) ∧ (h78 36 7) = (h70 36 7) ∧ (h78 1 1) = (h70 1 1) ∧ (h78 90 2) = (h70 90 2) ∧ (h78 0 10) = (h70 0 10) ∧ (h78 0 11) = (h70 0 11) ∧ (h78 0 12) = (h70 0 12) ∧ (h78 0 13) = (h70 0 13) ∧ (h78 3 1) = (h70 3 1) ∧ (h78 36 8) = (h70 36 8) ∧ (h78 46 3) = (h70 46 3) ∧ (h78 46 4) = (h70 46 4) ∧ (h78 49 4) = (h70 49 4) ∧ (h78 49 5) = (h70 49 5) ∧ (h78 64 0) = (h70 64 0) ∧ (h78 76 0) = (h70 76 0) := f75
          clear f75
          have e81 : h78 3 1 = 70 := by omega
          refine ov_ifeq (tgt := 93) d_73_86 (by decide) (by omega) (fun c82 => ?_) (fun c82 => ?_)
          · skip
            refine ov_blk (ls2 := [(0, ov_r 3), (1, ov_i dep), (2, ov_i v2), (3, ov_i v5), (4, ov_i v8)]) (st2 := [ov_i 0]) (pc2 := 94) b_73_93_1 rfl rfl ?_
            exact ov_retz (st := []) d_73_94 rfl (by omega) ⟨_, rfl, I79, (by show (0 = 0 ∧ 1 ≤ (h78 3 2) ∨ 0 = 1) ∧ (h78 36 7) = (h 36 7) ∧ (h78 1 1) = (h 1 1) ∧ (h78 90 2) = (h 90 2) ∧ (h78 0 10) = (h 0 10) ∧ (h78 0 11) = (h 0 11) ∧ (h78 0 12) = (h 0 12) ∧ (h78 0 13) = (h 0 13) ∧ (h78 3 1) = (h 3 1) ∧ (h78 36 8) = (h 36 8) ∧ (h78 46 3) = (h 46 3) ∧ (h78 46 4) = (h 46 4) ∧ (h78 49 4) = (h 49 4) ∧ (h78 49 5) = (h 49 5) ∧ (h78 64 0) = (h 64 0) ∧ (h78 76 0) = (h 76 0); omega)⟩
          · skip
            refine ov_blk (ls2 := [(0, ov_r 3), (1, ov_i dep), (2, ov_i v2), (3, ov_i v5), (4, ov_i v8)]) (st2 := [ov_i 1]) (pc2 := 90) b_73_89_1 rfl rfl ?_
            refine ov_goto (tgt := 94) d_73_90 (by decide) ?_
            exact ov_retz (st := []) d_73_94 rfl (by omega) ⟨_, rfl, I79, (by show (1 = 0 ∧ 1 ≤ (h78 3 2) ∨ 1 = 1) ∧ (h78 36 7) = (h 36 7) ∧ (h78 1 1) = (h 1 1) ∧ (h78 90 2) = (h 90 2) ∧ (h78 0 10) = (h 0 10) ∧ (h78 0 11) = (h 0 11) ∧ (h78 0 12) = (h 0 12) ∧ (h78 0 13) = (h 0 13) ∧ (h78 3 1) = (h 3 1) ∧ (h78 36 8) = (h 36 8) ∧ (h78 46 3) = (h 46 3) ∧ (h78 46 4) = (h 46 4) ∧ (h78 49 4) = (h 49 4) ∧ (h78 49 5) = (h 49 5) ∧ (h78 64 0) = (h 64 0) ∧ (h78 76 0) = (h 76 0); omega)⟩
    · skip
      refine ov_blk (ls2 := [(0, ov_r 3), (1, ov_i dep), (2, ov_i v2), (3, ov_i v5), (4, ov_i v8)]) (st2 := [ov_i 5, ov_r 3]) (pc2 := 54) b_73_52_2 rfl rfl ?_
      refine ov_cV (as := [ov_i 5]) (st := []) (d2 := d - 1) d_73_54 lk_Reader_58 rfl (Nat.le_of_ble_eq_true rfl) (c := 6) (zb_3 I) (zs_3 I) ⟨by decide, rfl⟩ (by omega) (c_Reader_fail_3_k3_1_70 (d - 1) (by omega) U I (ov_kws hw (by decide +kernel)) 5 k0 (by omega) (by omega)) ?_
      rintro _ z85 h86 ⟨v84, rfl, I87, f83⟩
      show ov_R u d ov_m73 57 [(0, ov_r 3), (1, ov_i dep), (2, ov_i v2), (3, ov_i v5), (4, ov_i v8)] [ov_i v84] z85 h86 (P_Reader_readPart_3_k3_1_70 F z h dep)
      have f88 : v84 = 0 ∧ 1 ≤ (h86 3 2) ∧ (h86 36 7) = (h 36 7) ∧ (h86 1 1) = (h 1 1) ∧ (h86 90 2) = (h 90 2) ∧ (h86 0 10) = (h 0 10) ∧ (h86 0 11) = (h 0 11) ∧ (h86 0 12) = (h 0 12) ∧ (h86 0 13) = (h 0 13) ∧ (h86 3 1) = (h 3 1) ∧ (h86 36 8) = (h 36 8) ∧ (h86 46 3) = (h 46 3) ∧ (h86 46 4) = (h 46 4) ∧ (h86 49 4) = (h 49 4) ∧ (h86 49 5) = (h 49 5) ∧ (h86 64 0) = (h 64 0) ∧ (h86 76 0) = (h 76 0) := f83
      clear f83
      have e89 : h86 3 1 = 70 := by omega
      exact ov_retz (st := []) d_73_57 rfl (by omega) ⟨_, rfl, I87, (by show (v84 = 0 ∧ 1 ≤ (h86 3 2) ∨ v84 = 1) ∧ (h86 36 7) = (h 36 7) ∧ (h86 1 1) = (h 1 1) ∧ (h86 90 2) = (h 90 2) ∧ (h86 0 10) = (h 0 10) ∧ (h86 0 11) = (h 0 11) ∧ (h86 0 12) = (h 0 12) ∧ (h86 0 13) = (h 0 13) ∧ (h86 3 1) = (h 3 1) ∧ (h86 36 8) = (h 36 8) ∧ (h86 46 3) = (h 46 3) ∧ (h86 46 4) = (h 46 4) ∧ (h86 49 4) = (h 49 4) ∧ (h86 49 5) = (h 49 5) ∧ (h86 64 0) = (h 64 0) ∧ (h86 76 0) = (h 76 0); omega)⟩
  · skip
    refine ov_blk (ls2 := [(0, ov_r 3), (1, ov_i dep), (2, ov_i v2), (3, ov_i v5), (4, ov_i v8)]) (st2 := [ov_i v5]) (pc2 := 33) b_73_32_1 rfl rfl ?_
    refine ov_ifne (tgt := 47) d_73_33 (by decide) (by omega) (fun c90 => ?_) (fun c90 => ?_)
    · skip
      refine ov_blk (ls2 := [(0, ov_r 3), (1, ov_i dep), (2, ov_i v2), (3, ov_i v5), (4, ov_i v8)]) (st2 := [ov_i 4, ov_i dep]) (pc2 := 49) b_73_47_2 rfl rfl ?_
      refine ov_icle (tgt := 58) d_73_49 (by decide) (by omega) (by omega) (fun c91 => ?_) (fun c91 => ?_)
      · skip
        refine ov_blk (ls2 := [(0, ov_r 3), (1, ov_i dep), (2, ov_i v2), (3, ov_i v5), (4, ov_i v8)]) (st2 := [ov_r 3]) (pc2 := 59) b_73_58_1 rfl rfl ?_
        refine ov_getf (v := ov_r 1) d_73_59 fl_Reader_9 (zb_3 I) (zs_3 I) (congrArg ov_r (rg_3_0 I)) ?_
        refine ov_cV (as := []) (st := []) (d2 := d - 1) d_73_62 lk_Reader_75 rfl (Nat.le_of_ble_eq_true rfl) (c := 8) (zb_1 I) (zs_1 I) ⟨by decide, rfl⟩ (by omega) (c_Tape_advance_1 (d - 1) (by omega) U I (ov_kws hw (by decide +kernel))) ?_
        rintro _ z93 h94 ⟨rfl, I95, f92⟩
        show ov_R u d ov_m73 65 [(0, ov_r 3), (1, ov_i dep), (2, ov_i v2), (3, ov_i v5), (4, ov_i v8)] [] z93 h94 (P_Reader_readPart_3_k3_1_70 F z h dep)
        have f96 : (h94 3 3) = (h 3 3) ∧ (h94 36 7) = (h 36 7) ∧ (h94 1 1) = (h 1 1) ∧ (h94 90 2) = (h 90 2) ∧ (h94 0 10) = (h 0 10) ∧ (h94 0 11) = (h 0 11) ∧ (h94 0 12) = (h 0 12) ∧ (h94 0 13) = (h 0 13) ∧ (h94 3 1) = (h 3 1) ∧ (h94 36 8) = (h 36 8) ∧ (h94 46 3) = (h 46 3) ∧ (h94 46 4) = (h 46 4) ∧ (h94 49 4) = (h 49 4) ∧ (h94 49 5) = (h 49 5) ∧ (h94 64 0) = (h 64 0) ∧ (h94 76 0) = (h 76 0) := f92
        clear f92
        have e97 : h94 3 1 = 70 := by omega
        refine ov_blk (ls2 := [(0, ov_r 3), (1, ov_i dep), (2, ov_i v2), (3, ov_i v5), (4, ov_i v8)]) (st2 := [ov_i v8]) (pc2 := 67) b_73_65_1 rfl rfl ?_
        refine ov_ifeq (tgt := 95) d_73_67 (by decide) (by omega) (fun c98 => ?_) (fun c98 => ?_)
        · skip
          refine ov_blk (ls2 := [(0, ov_r 3), (1, ov_i dep), (2, ov_i v2), (3, ov_i v5), (4, ov_i v8)]) (st2 := [ov_i v5]) (pc2 := 96) b_73_95_1 rfl rfl ?_
          refine ov_ifeq (tgt := 109) d_73_96 (by decide) (by omega) (fun c99 => ?_) (fun c99 => ?_)
          · skip
            refine ov_blk (ls2 := [(0, ov_r 3), (1, ov_i dep), (2, ov_i v2), (3, ov_i v5), (4, ov_i v8)]) (st2 := [ov_i 1]) (pc2 := 110) b_73_109_1 rfl rfl ?_
            refine ov_goto (tgt := 114) d_73_110 (by decide) ?_
            refine ov_blk (ls2 := [(0, ov_r 3), (1, ov_i dep), (2, ov_i v2), (3, ov_i v5), (4, ov_i v8), (5, ov_i 1)]) (st2 := [ov_r 3]) (pc2 := 117) b_73_114_2 rfl rfl ?_
            refine ov_getf (v := ov_r 70) d_73_117 fl_Reader_15 (zb_3 I95) (zs_3 I95) (congrArg ov_r e97) ?_
            refine ov_blk (ls2 := [(0, ov_r 3), (1, ov_i dep), (2, ov_i v2), (3, ov_i v5), (4, ov_i v8), (5, ov_i 1)]) (st2 := [ov_i v5, ov_r 70]) (pc2 := 121) b_73_120_1 rfl rfl ?_
            refine ov_ifeq (tgt := 128) d_73_121 (by decide) (by omega) (fun c100 => ?_) (fun c100 => ?_)
            · skip
              refine ov_blk (ls2 := [(0, ov_r 3), (1, ov_i dep), (2, ov_i v2), (3, ov_i v5), (4, ov_i v8), (5, ov_i 1)]) (st2 := [ov_i v2, ov_r 70]) (pc2 := 129) b_73_128_1 rfl rfl ?_
              refine ov_cV (as := [ov_i v2]) (st := []) (d2 := d - 1) d_73_129 lk_Reader_224 rfl (Nat.le_of_ble_eq_true rfl) (c := 9) (zb_70 I95) (zs_70 I95) ⟨by decide, rfl⟩ (by omega) (c_Town_addCode_70 (d - 1) (by omega) U I95 (ov_kws hw (by decide +kernel)) v2 (by omega)) ?_
              rintro _ z102 h103 ⟨rfl, I104, f101⟩
              show ov_R u d ov_m73 132 [(0, ov_r 3), (1, ov_i dep), (2, ov_i v2), (3, ov_i v5), (4, ov_i v8), (5, ov_i 1)] [] z102 h103 (P_Reader_readPart_3_k3_1_70 F z h dep)
              have f105 : (h103 3 2) = (h94 3 2) ∧ (h103 36 7) = (h94 36 7) ∧ (h103 1 1) = (h94 1 1) ∧ (h103 90 2) = (h94 90 2) ∧ (h103 0 10) = (h94 0 10) ∧ (h103 0 11) = (h94 0 11) ∧ (h103 0 12) = (h94 0 12) ∧ (h103 0 13) = (h94 0 13) ∧ (h103 3 1) = (h94 3 1) ∧ (h103 36 8) = (h94 36 8) ∧ (h103 46 3) = (h94 46 3) ∧ (h103 46 4) = (h94 46 4) ∧ (h103 49 4) = (h94 49 4) ∧ (h103 49 5) = (h94 49 5) ∧ (h103 64 0) = (h94 64 0) ∧ (h103 76 0) = (h94 76 0) := f101
              clear f101
              have e106 : h103 3 1 = 70 := by omega
              refine ov_blk (ls2 := [(0, ov_r 3), (1, ov_i dep), (2, ov_i v2), (3, ov_i v5), (4, ov_i v8), (5, ov_i 1)]) (st2 := [ov_i 1]) (pc2 := 134) b_73_132_1 rfl rfl ?_
              exact ov_retz (st := []) d_73_134 rfl (by omega) ⟨_, rfl, I104, (by show (1 = 0 ∧ 1 ≤ (h103 3 2) ∨ 1 = 1) ∧ (h103 36 7) = (h 36 7) ∧ (h103 1 1) = (h 1 1) ∧ (h103 90 2) = (h 90 2) ∧ (h103 0 10) = (h 0 10) ∧ (h103 0 11) = (h 0 11) ∧ (h103 0 12) = (h 0 12) ∧ (h103 0 13) = (h 0 13) ∧ (h103 3 1) = (h 3 1) ∧ (h103 36 8) = (h 36 8) ∧ (h103 46 3) = (h 46 3) ∧ (h103 46 4) = (h 46 4) ∧ (h103 49 4) = (h 49 4) ∧ (h103 49 5) = (h 49 5) ∧ (h103 64 0) = (h 64 0) ∧ (h103 76 0) = (h 76 0); omega)⟩
            · skip
              refine ov_blk (ls2 := [(0, ov_r 3), (1, ov_i dep), (2, ov_i v2), (3, ov_i v5), (4, ov_i v8), (5, ov_i 1)]) (st2 := [ov_i 0, ov_r 70]) (pc2 := 125) b_73_124_1 rfl rfl ?_
              refine ov_goto (tgt := 129) d_73_125 (by decide) ?_
              refine ov_cV (as := [ov_i 0]) (st := []) (d2 := d - 1) d_73_129 lk_Reader_224 rfl (Nat.le_of_ble_eq_true rfl) (c := 9) (zb_70 I95) (zs_70 I95) ⟨by decide, rfl⟩ (by omega) (c_Town_addCode_70 (d - 1) (by omega) U I95 (ov_kws hw (by decide +kernel)) 0 (by omega)) ?_
              rintro _ z108 h109 ⟨rfl, I110, f107⟩
              show ov_R u d ov_m73 132 [(0, ov_r 3), (1, ov_i dep), (2, ov_i v2), (3, ov_i v5), (4, ov_i v8), (5, ov_i 1)] [] z108 h109 (P_Reader_readPart_3_k3_1_70 F z h dep)
              have f111 : (h109 3 2) = (h94 3 2) ∧ (h109 36 7) = (h94 36 7) ∧ (h109 1 1) = (h94 1 1) ∧ (h109 90 2) = (h94 90 2) ∧ (h109 0 10) = (h94 0 10) ∧ (h109 0 11) = (h94 0 11) ∧ (h109 0 12) = (h94 0 12) ∧ (h109 0 13) = (h94 0 13) ∧ (h109 3 1) = (h94 3 1) ∧ (h109 36 8) = (h94 36 8) ∧ (h109 46 3) = (h94 46 3) ∧ (h109 46 4) = (h94 46 4) ∧ (h109 49 4) = (h94 49 4) ∧ (h109 49 5) = (h94 49 5) ∧ (h109 64 0) = (h94 64 0) ∧ (h109 76 0) = (h94 76 0) := f107
              clear f107
              have e112 : h109 3 1 = 70 := by omega
              refine ov_blk (ls2 := [(0, ov_r 3), (1, ov_i dep), (2, ov_i v2), (3, ov_i v5), (4, ov_i v8), (5, ov_i 1)]) (st2 := [ov_i 1]) (pc2 := 134) b_73_132_1 rfl rfl ?_
              exact ov_retz (st := []) d_73_134 rfl (by omega) ⟨_, rfl, I110, (by show (1 = 0 ∧ 1 ≤ (h109 3 2) ∨ 1 = 1) ∧ (h109 36 7) = (h 36 7) ∧ (h109 1 1) = (h 1 1) ∧ (h109 90 2) = (h 90 2) ∧ (h109 0 10) = (h 0 10) ∧ (h109 0 11) = (h 0 11) ∧ (h109 0 12) = (h 0 12) ∧ (h109 0 13) = (h 0 13) ∧ (h109 3 1) = (h 3 1) ∧ (h109 36 8) = (h 36 8) ∧ (h109 46 3) = (h 46 3) ∧ (h109 46 4) = (h 46 4) ∧ (h109 49 4) = (h 49 4) ∧ (h109 49 5) = (h 49 5) ∧ (h109 64 0) = (h 64 0) ∧ (h109 76 0) = (h 76 0); omega)⟩
          · skip
            refine ov_blk (ls2 := [(0, ov_r 3), (1, ov_i dep), (2, ov_i v2), (3, ov_i v5), (4, ov_i v8)]) (st2 := [ov_i (dep + 1), ov_r 3]) (pc2 := 103) b_73_99_4 rfl rfl ?_
            refine ov_cV (as := [ov_i (dep + 1)]) (st := []) (d2 := d - 1) d_73_103 lk_Reader_237 rfl (Nat.le_of_ble_eq_true rfl) (c := 6) (zb_3 I95) (zs_3 I95) ⟨by decide, rfl⟩ (by omega) (HP (k - 1) (by omega) (d - 1) (by omega) U I95 (ov_kws hw (by decide +kernel)) (dep + 1) e97 (by omega) (by omega)) ?_
            rintro _ z115 h116 ⟨v114, rfl, I117, f113⟩
            show ov_R u d ov_m73 106 [(0, ov_r 3), (1, ov_i dep), (2, ov_i v2), (3, ov_i v5), (4, ov_i v8)] [ov_i v114] z115 h116 (P_Reader_readPart_3_k3_1_70 F z h dep)
            have f118 : (v114 = 0 ∧ 1 ≤ (h116 3 2) ∨ v114 = 1) ∧ (h116 36 7) = (h94 36 7) ∧ (h116 1 1) = (h94 1 1) ∧ (h116 90 2) = (h94 90 2) ∧ (h116 0 10) = (h94 0 10) ∧ (h116 0 11) = (h94 0 11) ∧ (h116 0 12) = (h94 0 12) ∧ (h116 0 13) = (h94 0 13) ∧ (h116 3 1) = (h94 3 1) ∧ (h116 36 8) = (h94 36 8) ∧ (h116 46 3) = (h94 46 3) ∧ (h116 46 4) = (h94 46 4) ∧ (h116 49 4) = (h94 49 4) ∧ (h116 49 5) = (h94 49 5) ∧ (h116 64 0) = (h94 64 0) ∧ (h116 76 0) = (h94 76 0) := f113
            clear f113
            have e119 : h116 3 1 = 70 := by omega
            refine ov_ifeq (tgt := 113) d_73_106 (by decide) (by omega) (fun c120 => ?_) (fun c120 => ?_)
            · skip
              refine ov_blk (ls2 := [(0, ov_r 3), (1, ov_i dep), (2, ov_i v2), (3, ov_i v5), (4, ov_i v8), (5, ov_i 0)]) (st2 := [ov_r 3]) (pc2 := 117) b_73_113_3 rfl rfl ?_
              refine ov_getf (v := ov_r 70) d_73_117 fl_Reader_15 (zb_3 I117) (zs_3 I117) (congrArg ov_r e119) ?_
              refine ov_blk (ls2 := [(0, ov_r 3), (1, ov_i dep), (2, ov_i v2), (3, ov_i v5), (4, ov_i v8), (5, ov_i 0)]) (st2 := [ov_i v5, ov_r 70]) (pc2 := 121) b_73_120_1 rfl rfl ?_
              refine ov_ifeq (tgt := 128) d_73_121 (by decide) (by omega) (fun c121 => ?_) (fun c121 => ?_)
              · skip
                refine ov_blk (ls2 := [(0, ov_r 3), (1, ov_i dep), (2, ov_i v2), (3, ov_i v5), (4, ov_i v8), (5, ov_i 0)]) (st2 := [ov_i v2, ov_r 70]) (pc2 := 129) b_73_128_1 rfl rfl ?_
                refine ov_cV (as := [ov_i v2]) (st := []) (d2 := d - 1) d_73_129 lk_Reader_224 rfl (Nat.le_of_ble_eq_true rfl) (c := 9) (zb_70 I117) (zs_70 I117) ⟨by decide, rfl⟩ (by omega) (c_Town_addCode_70 (d - 1) (by omega) U I117 (ov_kws hw (by decide +kernel)) v2 (by omega)) ?_
                rintro _ z123 h124 ⟨rfl, I125, f122⟩
                show ov_R u d ov_m73 132 [(0, ov_r 3), (1, ov_i dep), (2, ov_i v2), (3, ov_i v5), (4, ov_i v8), (5, ov_i 0)] [] z123 h124 (P_Reader_readPart_3_k3_1_70 F z h dep)
                have f126 : (h124 3 2) = (h116 3 2) ∧ (h124 36 7) = (h116 36 7) ∧ (h124 1 1) = (h116 1 1) ∧ (h124 90 2) = (h116 90 2) ∧ (h124 0 10) = (h116 0 10) ∧ (h124 0 11) = (h116 0 11) ∧ (h124 0 12) = (h116 0 12) ∧ (h124 0 13) = (h116 0 13) ∧ (h124 3 1) = (h116 3 1) ∧ (h124 36 8) = (h116 36 8) ∧ (h124 46 3) = (h116 46 3) ∧ (h124 46 4) = (h116 46 4) ∧ (h124 49 4) = (h116 49 4) ∧ (h124 49 5) = (h116 49 5) ∧ (h124 64 0) = (h116 64 0) ∧ (h124 76 0) = (h116 76 0) := f122
                clear f122
                have e127 : h124 3 1 = 70 := by omega
                refine ov_blk (ls2 := [(0, ov_r 3), (1, ov_i dep), (2, ov_i v2), (3, ov_i v5), (4, ov_i v8), (5, ov_i 0)]) (st2 := [ov_i 0]) (pc2 := 134) b_73_132_1 rfl rfl ?_
                exact ov_retz (st := []) d_73_134 rfl (by omega) ⟨_, rfl, I125, (by show (0 = 0 ∧ 1 ≤ (h124 3 2) ∨ 0 = 1) ∧ (h124 36 7) = (h 36 7) ∧ (h124 1 1) = (h 1 1) ∧ (h124 90 2) = (h 90 2) ∧ (h124 0 10) = (h 0 10) ∧ (h124 0 11) = (h 0 11) ∧ (h124 0 12) = (h 0 12) ∧ (h124 0 13) = (h 0 13) ∧ (h124 3 1) = (h 3 1) ∧ (h124 36 8) = (h 36 8) ∧ (h124 46 3) = (h 46 3) ∧ (h124 46 4) = (h 46 4) ∧ (h124 49 4) = (h 49 4) ∧ (h124 49 5) = (h 49 5) ∧ (h124 64 0) = (h 64 0) ∧ (h124 76 0) = (h 76 0); omega)⟩
              · skip
                refine ov_blk (ls2 := [(0, ov_r 3), (1, ov_i dep), (2, ov_i v2), (3, ov_i v5), (4, ov_i v8), (5, ov_i 0)]) (st2 := [ov_i 0, ov_r 70]) (pc2 := 125) b_73_124_1 rfl rfl ?_
                refine ov_goto (tgt := 129) d_73_125 (by decide) ?_
                refine ov_cV (as := [ov_i 0]) (st := []) (d2 := d - 1) d_73_129 lk_Reader_224 rfl (Nat.le_of_ble_eq_true rfl) (c := 9) (zb_70 I117) (zs_70 I117) ⟨by decide, rfl⟩ (by omega) (c_Town_addCode_70 (d - 1) (by omega) U I117 (ov_kws hw (by decide +kernel)) 0 (by omega)) ?_
                rintro _ z129 h130 ⟨rfl, I131, f128⟩
                show ov_R u d ov_m73 132 [(0, ov_r 3), (1, ov_i dep), (2, ov_i v2), (3, ov_i v5), (4, ov_i v8), (5, ov_i 0)] [] z129 h130 (P_Reader_readPart_3_k3_1_70 F z h dep)
                have f132 : (h130 3 2) = (h116 3 2) ∧ (h130 36 7) = (h116 36 7) ∧ (h130 1 1) = (h116 1 1) ∧ (h130 90 2) = (h116 90 2) ∧ (h130 0 10) = (h116 0 10) ∧ (h130 0 11) = (h116 0 11) ∧ (h130 0 12) = (h116 0 12) ∧ (h130 0 13) = (h116 0 13) ∧ (h130 3 1) = (h116 3 1) ∧ (h130 36 8) = (h116 36 8) ∧ (h130 46 3) = (h116 46 3) ∧ (h130 46 4) = (h116 46 4) ∧ (h130 49 4) = (h116 49 4) ∧ (h130 49 5) = (h116 49 5) ∧ (h130 64 0) = (h116 64 0) ∧ (h130 76 0) = (h116 76 0) := f128
                clear f128
                have e133 : h130 3 1 = 70 := by omega
                refine ov_blk (ls2 := [(0, ov_r 3), (1, ov_i dep), (2, ov_i v2), (3, ov_i v5), (4, ov_i v8), (5, ov_i 0)]) (st2 := [ov_i 0]) (pc2 := 134) b_73_132_1 rfl rfl ?_
                exact ov_retz (st := []) d_73_134 rfl (by omega) ⟨_, rfl, I131, (by show (0 = 0 ∧ 1 ≤ (h130 3 2) ∨ 0 = 1) ∧ (h130 36 7) = (h 36 7) ∧ (h130 1 1) = (h 1 1) ∧ (h130 90 2) = (h 90 2) ∧ (h130 0 10) = (h 0 10) ∧ (h130 0 11) = (h 0 11) ∧ (h130 0 12) = (h 0 12) ∧ (h130 0 13) = (h 0 13) ∧ (h130 3 1) = (h 3 1) ∧ (h130 36 8) = (h 36 8) ∧ (h130 46 3) = (h 46 3) ∧ (h130 46 4) = (h 46 4) ∧ (h130 49 4) = (h 49 4) ∧ (h130 49 5) = (h 49 5) ∧ (h130 64 0) = (h 64 0) ∧ (h130 76 0) = (h 76 0); omega)⟩
            · skip
              refine ov_blk (ls2 := [(0, ov_r 3), (1, ov_i dep), (2, ov_i v2), (3, ov_i v5), (4, ov_i v8)]) (st2 := [ov_i 1]) (pc2 := 110) b_73_109_1 rfl rfl ?_
              refine ov_goto (tgt := 114) d_73_110 (by decide) ?_
              refine ov_blk (ls2 := [(0, ov_r 3), (1, ov_i dep), (2, ov_i v2), (3, ov_i v5), (4, ov_i v8), (5, ov_i 1)]) (st2 := [ov_r 3]) (pc2 := 117) b_73_114_2 rfl rfl ?_
              refine ov_getf (v := ov_r 70) d_73_117 fl_Reader_15 (zb_3 I117) (zs_3 I117) (congrArg ov_r e119) ?_
              refine ov_blk (ls2 := [(0, ov_r 3), (1, ov_i dep), (2, ov_i v2), (3, ov_i v5), (4, ov_i v8), (5, ov_i 1)]) (st2 := [ov_i v5, ov_r 70]) (pc2 := 121) b_73_120_1 rfl rfl ?_
              refine ov_ifeq (tgt := 128) d_73_121 (by decide) (by omega) (fun c134 => ?_) (fun c134 => ?_)
              · skip
                refine ov_blk (ls2 := [(0, ov_r 3), (1, ov_i dep), (2, ov_i v2), (3, ov_i v5), (4, ov_i v8), (5, ov_i 1)]) (st2 := [ov_i v2, ov_r 70]) (pc2 := 129) b_73_128_1 rfl rfl ?_
                refine ov_cV (as := [ov_i v2]) (st := []) (d2 := d - 1) d_73_129 lk_Reader_224 rfl (Nat.le_of_ble_eq_true rfl) (c := 9) (zb_70 I117) (zs_70 I117) ⟨by decide, rfl⟩ (by omega) (c_Town_addCode_70 (d - 1) (by omega) U I117 (ov_kws hw (by decide +kernel)) v2 (by omega)) ?_
                rintro _ z136 h137 ⟨rfl, I138, f135⟩
                show ov_R u d ov_m73 132 [(0, ov_r 3), (1, ov_i dep), (2, ov_i v2), (3, ov_i v5), (4, ov_i v8), (5, ov_i 1)] [] z136 h137 (P_Reader_readPart_3_k3_1_70 F z h dep)
                have f139 : (h137 3 2) = (h116 3 2) ∧ (h137 36 7) = (h116 36 7) ∧ (h137 1 1) = (h116 1 1) ∧ (h137 90 2) = (h116 90 2) ∧ (h137 0 10) = (h116 0 10) ∧ (h137 0 11) = (h116 0 11) ∧ (h137 0 12) = (h116 0 12) ∧ (h137 0 13) = (h116 0 13) ∧ (h137 3 1) = (h116 3 1) ∧ (h137 36 8) = (h116 36 8) ∧ (h137 46 3) = (h116 46 3) ∧ (h137 46 4) = (h116 46 4) ∧ (h137 49 4) = (h116 49 4) ∧ (h137 49 5) = (h116 49 5) ∧ (h137 64 0) = (h116 64 0) ∧ (h137 76 0) = (h116 76 0) := f135
                clear f135
                have e140 : h137 3 1 = 70 := by omega
                refine ov_blk (ls2 := [(0, ov_r 3), (1, ov_i dep), (2, ov_i v2), (3, ov_i v5), (4, ov_i v8), (5, ov_i 1)]) (st2 := [ov_i 1]) (pc2 := 134) b_73_132_1 rfl rfl ?_
                exact ov_retz (st := []) d_73_134 rfl (by omega) ⟨_, rfl, I138, (by show (1 = 0 ∧ 1 ≤ (h137 3 2) ∨ 1 = 1) ∧ (h137 36 7) = (h 36 7) ∧ (h137 1 1) = (h 1 1) ∧ (h137 90 2) = (h 90 2) ∧ (h137 0 10) = (h 0 10) ∧ (h137 0 11) = (h 0 11) ∧ (h137 0 12) = (h 0 12) ∧ (h137 0 13) = (h 0 13) ∧ (h137 3 1) = (h 3 1) ∧ (h137 36 8) = (h 36 8) ∧ (h137 46 3) = (h 46 3) ∧ (h137 46 4) = (h 46 4) ∧ (h137 49 4) = (h 49 4) ∧ (h137 49 5) = (h 49 5) ∧ (h137 64 0) = (h 64 0) ∧ (h137 76 0) = (h 76 0); omega)⟩
              · skip
                refine ov_blk (ls2 := [(0, ov_r 3), (1, ov_i dep), (2, ov_i v2), (3, ov_i v5), (4, ov_i v8), (5, ov_i 1)]) (st2 := [ov_i 0, ov_r 70]) (pc2 := 125) b_73_124_1 rfl rfl ?_
                refine ov_goto (tgt := 129) d_73_125 (by decide) ?_
                refine ov_cV (as := [ov_i 0]) (st := []) (d2 := d - 1) d_73_129 lk_Reader_224 rfl (Nat.le_of_ble_eq_true rfl) (c := 9) (zb_70 I117) (zs_70 I117) ⟨by decide, rfl⟩ (by omega) (c_Town_addCode_70 (d - 1) (by omega) U I117 (ov_kws hw (by decide +kernel)) 0 (by omega)) ?_
                rintro _ z142 h143 ⟨rfl, I144, f141⟩
                show ov_R u d ov_m73 132 [(0, ov_r 3), (1, ov_i dep), (2, ov_i v2), (3, ov_i v5), (4, ov_i v8), (5, ov_i 1)] [] z142 h143 (P_Reader_readPart_3_k3_1_70 F z h dep)
                have f145 : (h143 3 2) = (h116 3 2) ∧ (h143 36 7) = (h116 36 7) ∧ (h143 1 1) = (h116 1 1) ∧ (h143 90 2) = (h116 90 2) ∧ (h143 0 10) = (h116 0 10) ∧ (h143 0 11) = (h116 0 11) ∧ (h143 0 12) = (h116 0 12) ∧ (h143 0 13) = (h116 0 13) ∧ (h143 3 1) = (h116 3 1) ∧ (h143 36 8) = (h116 36 8) ∧ (h143 46 3) = (h116 46 3) ∧ (h143 46 4) = (h116 46 4) ∧ (h143 49 4) = (h116 49 4) ∧ (h143 49 5) = (h116 49 5) ∧ (h143 64 0) = (h116 64 0) ∧ (h143 76 0) = (h116 76 0) := f141
                clear f141
                have e146 : h143 3 1 = 70 := by omega
                refine ov_blk (ls2 := [(0, ov_r 3), (1, ov_i dep), (2, ov_i v2), (3, ov_i v5), (4, ov_i v8), (5, ov_i 1)]) (st2 := [ov_i 1]) (pc2 := 134) b_73_132_1 rfl rfl ?_
                exact ov_retz (st := []) d_73_134 rfl (by omega) ⟨_, rfl, I144, (by show (1 = 0 ∧ 1 ≤ (h143 3 2) ∨ 1 = 1) ∧ (h143 36 7) = (h 36 7) ∧ (h143 1 1) = (h 1 1) ∧ (h143 90 2) = (h 90 2) ∧ (h143 0 10) = (h 0 10) ∧ (h143 0 11) = (h 0 11) ∧ (h143 0 12) = (h 0 12) ∧ (h143 0 13) = (h 0 13) ∧ (h143 3 1) = (h 3 1) ∧ (h143 36 8) = (h 36 8) ∧ (h143 46 3) = (h 46 3) ∧ (h143 46 4) = (h 46 4) ∧ (h143 49 4) = (h 49 4) ∧ (h143 49 5) = (h 49 5) ∧ (h143 64 0) = (h 64 0) ∧ (h143 76 0) = (h 76 0); omega)⟩
        · skip
          refine ov_blk (ls2 := [(0, ov_r 3), (1, ov_i dep), (2, ov_i v2), (3, ov_i v5), (4, ov_i v8)]) (st2 := [ov_i (dep + 1), ov_r 3]) (pc2 := 74) b_73_70_4 rfl rfl ?_
          refine ov_cV (as := [ov_i (dep + 1)]) (st := []) (d2 := d - 1) d_73_74 lk_Reader_210 rfl (Nat.le_of_ble_eq_true rfl) (c := 6) (zb_3 I95) (zs_3 I95) ⟨by decide, rfl⟩ (by omega) (HE (k - 1) (by omega) (d - 1) (by omega) U I95 (ov_kws hw (by decide +kernel)) (dep + 1) e97 (by omega) (by omega)) ?_
          rintro _ z149 h150 ⟨v148, rfl, I151, f147⟩
          show ov_R u d ov_m73 77 [(0, ov_r 3), (1, ov_i dep), (2, ov_i v2), (3, ov_i v5), (4, ov_i v8)] [ov_i v148] z149 h150 (P_Reader_readPart_3_k3_1_70 F z h dep)
          have f152 : (v148 = 0 ∧ 1 ≤ (h150 3 2) ∨ v148 = 1) ∧ (h150 36 7) = (h94 36 7) ∧ (h150 1 1) = (h94 1 1) ∧ (h150 90 2) = (h94 90 2) ∧ (h150 0 10) = (h94 0 10) ∧ (h150 0 11) = (h94 0 11) ∧ (h150 0 12) = (h94 0 12) ∧ (h150 0 13) = (h94 0 13) ∧ (h150 3 1) = (h94 3 1) ∧ (h150 36 8) = (h94 36 8) ∧ (h150 46 3) = (h94 46 3) ∧ (h150 46 4) = (h94 46 4) ∧ (h150 49 4) = (h94 49 4) ∧ (h150 49 5) = (h94 49 5) ∧ (h150 64 0) = (h94 64 0) ∧ (h150 76 0) = (h94 76 0) := f147
          clear f147
          have e153 : h150 3 1 = 70 := by omega
          refine ov_ifeq (tgt := 93) d_73_77 (by decide) (by omega) (fun c154 => ?_) (fun c154 => ?_)
          · skip
            refine ov_blk (ls2 := [(0, ov_r 3), (1, ov_i dep), (2, ov_i v2), (3, ov_i v5), (4, ov_i v8)]) (st2 := [ov_i 0]) (pc2 := 94) b_73_93_1 rfl rfl ?_
            exact ov_retz (st := []) d_73_94 rfl (by omega) ⟨_, rfl, I151, (by show (0 = 0 ∧ 1 ≤ (h150 3 2) ∨ 0 = 1) ∧ (h150 36 7) = (h 36 7) ∧ (h150 1 1) = (h 1 1) ∧ (h150 90 2) = (h 90 2) ∧ (h150 0 10) = (h 0 10) ∧ (h150 0 11) = (h 0 11) ∧ (h150 0 12) = (h 0 12) ∧ (h150 0 13) = (h 0 13) ∧ (h150 3 1) = (h 3 1) ∧ (h150 36 8) = (h 36 8) ∧ (h150 46 3) = (h 46 3) ∧ (h150 46 4) = (h 46 4) ∧ (h150 49 4) = (h 49 4) ∧ (h150 49 5) = (h 49 5) ∧ (h150 64 0) = (h 64 0) ∧ (h150 76 0) = (h 76 0); omega)⟩
          · skip
            refine ov_blk (ls2 := [(0, ov_r 3), (1, ov_i dep), (2, ov_i v2), (3, ov_i v5), (4, ov_i v8)]) (st2 := [ov_i 41, ov_r 3]) (pc2 := 83) b_73_80_2 rfl rfl ?_
            refine ov_cV (as := [ov_i 41]) (st := []) (d2 := d - 1) d_73_83 lk_Reader_92 rfl (Nat.le_of_ble_eq_true rfl) (c := 6) (zb_3 I151) (zs_3 I151) ⟨by decide, rfl⟩ (by omega) (c_Reader_takeSign_3_k3_1_70 (d - 1) (by omega) U I151 (ov_kws hw (by decide +kernel)) 41 e153 (by omega)) ?_
            rintro _ z157 h158 ⟨v156, rfl, I159, f155⟩
            show ov_R u d ov_m73 86 [(0, ov_r 3), (1, ov_i dep), (2, ov_i v2), (3, ov_i v5), (4, ov_i v8)] [ov_i v156] z157 h158 (P_Reader_readPart_3_k3_1_70 F z h dep)
            have f160 : (v156 = 0 ∧ 1 ≤ (h158 3 2) ∨ v156 = 1) ∧ (h158 36 7) = (h150 36 7) ∧ (h158 1 1) = (h150 1 1) ∧ (h158 90 2) = (h150 90 2) ∧ (h158 0 10) = (h150 0 10) ∧ (h158 0 11) = (h150 0 11) ∧ (h158 0 12) = (h150 0 12) ∧ (h158 0 13) = (h150 0 13) ∧ (h158 3 1) = (h150 3 1) ∧ (h158 36 8) = (h150 36 8) ∧ (h158 46 3) = (h150 46 3) ∧ (h158 46 4) = (h150 46 4) ∧ (h158 49 4) = (h150 49 4) ∧ (h158 49 5) = (h150 49 5) ∧ (h158 64 0) = (h150 64 0) ∧ (h158 76 0) = (h150 76 0) := f155
            clear f155
            have e161 : h158 3 1 = 70 := by omega
            refine ov_ifeq (tgt := 93) d_73_86 (by decide) (by omega) (fun c162 => ?_) (fun c162 => ?_)
            · skip
              refine ov_blk (ls2 := [(0, ov_r 3), (1, ov_i dep), (2, ov_i v2), (3, ov_i v5), (4, ov_i v8)]) (st2 := [ov_i 0]) (pc2 := 94) b_73_93_1 rfl rfl ?_
              exact ov_retz (st := []) d_73_94 rfl (by omega) ⟨_, rfl, I159, (by show (0 = 0 ∧ 1 ≤ (h158 3 2) ∨ 0 = 1) ∧ (h158 36 7) = (h 36 7) ∧ (h158 1 1) = (h 1 1) ∧ (h158 90 2) = (h 90 2) ∧ (h158 0 10) = (h 0 10) ∧ (h158 0 11) = (h 0 11) ∧ (h158 0 12) = (h 0 12) ∧ (h158 0 13) = (h 0 13) ∧ (h158 3 1) = (h 3 1) ∧ (h158 36 8) = (h 36 8) ∧ (h158 46 3) = (h 46 3) ∧ (h158 46 4) = (h 46 4) ∧ (h158 49 4) = (h 49 4) ∧ (h158 49 5) = (h 49 5) ∧ (h158 64 0) = (h 64 0) ∧ (h158 76 0) = (h 76 0); omega)⟩
            · skip
              refine ov_blk (ls2 := [(0, ov_r 3), (1, ov_i dep), (2, ov_i v2), (3, ov_i v5), (4, ov_i v8)]) (st2 := [ov_i 1]) (pc2 := 90) b_73_89_1 rfl rfl ?_
              refine ov_goto (tgt := 94) d_73_90 (by decide) ?_
              exact ov_retz (st := []) d_73_94 rfl (by omega) ⟨_, rfl, I159, (by show (1 = 0 ∧ 1 ≤ (h158 3 2) ∨ 1 = 1) ∧ (h158 36 7) = (h 36 7) ∧ (h158 1 1) = (h 1 1) ∧ (h158 90 2) = (h 90 2) ∧ (h158 0 10) = (h 0 10) ∧ (h158 0 11) = (h 0 11) ∧ (h158 0 12) = (h 0 12) ∧ (h158 0 13) = (h 0 13) ∧ (h158 3 1) = (h 3 1) ∧ (h158 36 8) = (h 36 8) ∧ (h158 46 3) = (h 46 3) ∧ (h158 46 4) = (h 46 4) ∧ (h158 49 4) = (h 49 4) ∧ (h158 49 5) = (h 49 5) ∧ (h158 64 0) = (h 64 0) ∧ (h158 76 0) = (h 76 0); omega)⟩
      · skip
        refine ov_blk (ls2 := [(0, ov_r 3), (1, ov_i dep), (2, ov_i v2), (3, ov_i v5), (4, ov_i v8)]) (st2 := [ov_i 5, ov_r 3]) (pc2 := 54) b_73_52_2 rfl rfl ?_
        refine ov_cV (as := [ov_i 5]) (st := []) (d2 := d - 1) d_73_54 lk_Reader_58 rfl (Nat.le_of_ble_eq_true rfl) (c := 6) (zb_3 I) (zs_3 I) ⟨by decide, rfl⟩ (by omega) (c_Reader_fail_3_k3_1_70 (d - 1) (by omega) U I (ov_kws hw (by decide +kernel)) 5 k0 (by omega) (by omega)) ?_
        rintro _ z165 h166 ⟨v164, rfl, I167, f163⟩
        show ov_R u d ov_m73 57 [(0, ov_r 3), (1, ov_i dep), (2, ov_i v2), (3, ov_i v5), (4, ov_i v8)] [ov_i v164] z165 h166 (P_Reader_readPart_3_k3_1_70 F z h dep)
        have f168 : v164 = 0 ∧ 1 ≤ (h166 3 2) ∧ (h166 36 7) = (h 36 7) ∧ (h166 1 1) = (h 1 1) ∧ (h166 90 2) = (h 90 2) ∧ (h166 0 10) = (h 0 10) ∧ (h166 0 11) = (h 0 11) ∧ (h166 0 12) = (h 0 12) ∧ (h166 0 13) = (h 0 13) ∧ (h166 3 1) = (h 3 1) ∧ (h166 36 8) = (h 36 8) ∧ (h166 46 3) = (h 46 3) ∧ (h166 46 4) = (h 46 4) ∧ (h166 49 4) = (h 49 4) ∧ (h166 49 5) = (h 49 5) ∧ (h166 64 0) = (h 64 0) ∧ (h166 76 0) = (h 76 0) := f163
        clear f163
        have e169 : h166 3 1 = 70 := by omega
        exact ov_retz (st := []) d_73_57 rfl (by omega) ⟨_, rfl, I167, (by show (v164 = 0 ∧ 1 ≤ (h166 3 2) ∨ v164 = 1) ∧ (h166 36 7) = (h 36 7) ∧ (h166 1 1) = (h 1 1) ∧ (h166 90 2) = (h 90 2) ∧ (h166 0 10) = (h 0 10) ∧ (h166 0 11) = (h 0 11) ∧ (h166 0 12) = (h 0 12) ∧ (h166 0 13) = (h 0 13) ∧ (h166 3 1) = (h 3 1) ∧ (h166 36 8) = (h 36 8) ∧ (h166 46 3) = (h 46 3) ∧ (h166 46 4) = (h 46 4) ∧ (h166 49 4) = (h 49 4) ∧ (h166 49 5) = (h 49 5) ∧ (h166 64 0) = (h 64 0) ∧ (h166 76 0) = (h 76 0); omega)⟩
    · skip
      refine ov_blk (ls2 := [(0, ov_r 3), (1, ov_i dep), (2, ov_i v2), (3, ov_i v5), (4, ov_i v8)]) (st2 := [ov_i v8]) (pc2 := 38) b_73_36_1 rfl rfl ?_
      refine ov_ifne (tgt := 47) d_73_38 (by decide) (by omega) (fun c170 => ?_) (fun c170 => ?_)
      · skip
        refine ov_blk (ls2 := [(0, ov_r 3), (1, ov_i dep), (2, ov_i v2), (3, ov_i v5), (4, ov_i v8)]) (st2 := [ov_i 4, ov_i dep]) (pc2 := 49) b_73_47_2 rfl rfl ?_
        refine ov_icle (tgt := 58) d_73_49 (by decide) (by omega) (by omega) (fun c171 => ?_) (fun c171 => ?_)
        · skip
          refine ov_blk (ls2 := [(0, ov_r 3), (1, ov_i dep), (2, ov_i v2), (3, ov_i v5), (4, ov_i v8)]) (st2 := [ov_r 3]) (pc2 := 59) b_73_58_1 rfl rfl ?_
          refine ov_getf (v := ov_r 1) d_73_59 fl_Reader_9 (zb_3 I) (zs_3 I) (congrArg ov_r (rg_3_0 I)) ?_
          refine ov_cV (as := []) (st := []) (d2 := d - 1) d_73_62 lk_Reader_75 rfl (Nat.le_of_ble_eq_true rfl) (c := 8) (zb_1 I) (zs_1 I) ⟨by decide, rfl⟩ (by omega) (c_Tape_advance_1 (d - 1) (by omega) U I (ov_kws hw (by decide +kernel))) ?_
          rintro _ z173 h174 ⟨rfl, I175, f172⟩
          show ov_R u d ov_m73 65 [(0, ov_r 3), (1, ov_i dep), (2, ov_i v2), (3, ov_i v5), (4, ov_i v8)] [] z173 h174 (P_Reader_readPart_3_k3_1_70 F z h dep)
          have f176 : (h174 3 3) = (h 3 3) ∧ (h174 36 7) = (h 36 7) ∧ (h174 1 1) = (h 1 1) ∧ (h174 90 2) = (h 90 2) ∧ (h174 0 10) = (h 0 10) ∧ (h174 0 11) = (h 0 11) ∧ (h174 0 12) = (h 0 12) ∧ (h174 0 13) = (h 0 13) ∧ (h174 3 1) = (h 3 1) ∧ (h174 36 8) = (h 36 8) ∧ (h174 46 3) = (h 46 3) ∧ (h174 46 4) = (h 46 4) ∧ (h174 49 4) = (h 49 4) ∧ (h174 49 5) = (h 49 5) ∧ (h174 64 0) = (h 64 0) ∧ (h174 76 0) = (h 76 0) := f172
          clear f172
          have e177 : h174 3 1 = 70 := by omega
          refine ov_blk (ls2 := [(0, ov_r 3), (1, ov_i dep), (2, ov_i v2), (3, ov_i v5), (4, ov_i v8)]) (st2 := [ov_i v8]) (pc2 := 67) b_73_65_1 rfl rfl ?_
          refine ov_ifeq (tgt := 95) d_73_67 (by decide) (by omega) (fun c178 => ?_) (fun c178 => ?_)
          · skip
            refine ov_blk (ls2 := [(0, ov_r 3), (1, ov_i dep), (2, ov_i v2), (3, ov_i v5), (4, ov_i v8)]) (st2 := [ov_i v5]) (pc2 := 96) b_73_95_1 rfl rfl ?_
            refine ov_ifeq (tgt := 109) d_73_96 (by decide) (by omega) (fun c179 => ?_) (fun c179 => ?_)
            · skip
              refine ov_blk (ls2 := [(0, ov_r 3), (1, ov_i dep), (2, ov_i v2), (3, ov_i v5), (4, ov_i v8)]) (st2 := [ov_i 1]) (pc2 := 110) b_73_109_1 rfl rfl ?_
              refine ov_goto (tgt := 114) d_73_110 (by decide) ?_
              refine ov_blk (ls2 := [(0, ov_r 3), (1, ov_i dep), (2, ov_i v2), (3, ov_i v5), (4, ov_i v8), (5, ov_i 1)]) (st2 := [ov_r 3]) (pc2 := 117) b_73_114_2 rfl rfl ?_
              refine ov_getf (v := ov_r 70) d_73_117 fl_Reader_15 (zb_3 I175) (zs_3 I175) (congrArg ov_r e177) ?_
              refine ov_blk (ls2 := [(0, ov_r 3), (1, ov_i dep), (2, ov_i v2), (3, ov_i v5), (4, ov_i v8), (5, ov_i 1)]) (st2 := [ov_i v5, ov_r 70]) (pc2 := 121) b_73_120_1 rfl rfl ?_
              refine ov_ifeq (tgt := 128) d_73_121 (by decide) (by omega) (fun c180 => ?_) (fun c180 => ?_)
              · skip
                refine ov_blk (ls2 := [(0, ov_r 3), (1, ov_i dep), (2, ov_i v2), (3, ov_i v5), (4, ov_i v8), (5, ov_i 1)]) (st2 := [ov_i v2, ov_r 70]) (pc2 := 129) b_73_128_1 rfl rfl ?_
                refine ov_cV (as := [ov_i v2]) (st := []) (d2 := d - 1) d_73_129 lk_Reader_224 rfl (Nat.le_of_ble_eq_true rfl) (c := 9) (zb_70 I175) (zs_70 I175) ⟨by decide, rfl⟩ (by omega) (c_Town_addCode_70 (d - 1) (by omega) U I175 (ov_kws hw (by decide +kernel)) v2 (by omega)) ?_
                rintro _ z182 h183 ⟨rfl, I184, f181⟩
                show ov_R u d ov_m73 132 [(0, ov_r 3), (1, ov_i dep), (2, ov_i v2), (3, ov_i v5), (4, ov_i v8), (5, ov_i 1)] [] z182 h183 (P_Reader_readPart_3_k3_1_70 F z h dep)
                have f185 : (h183 3 2) = (h174 3 2) ∧ (h183 36 7) = (h174 36 7) ∧ (h183 1 1) = (h174 1 1) ∧ (h183 90 2) = (h174 90 2) ∧ (h183 0 10) = (h174 0 10) ∧ (h183 0 11) = (h174 0 11) ∧ (h183 0 12) = (h174 0 12) ∧ (h183 0 13) = (h174 0 13) ∧ (h183 3 1) = (h174 3 1) ∧ (h183 36 8) = (h174 36 8) ∧ (h183 46 3) = (h174 46 3) ∧ (h183 46 4) = (h174 46 4) ∧ (h183 49 4) = (h174 49 4) ∧ (h183 49 5) = (h174 49 5) ∧ (h183 64 0) = (h174 64 0) ∧ (h183 76 0) = (h174 76 0) := f181
                clear f181
                have e186 : h183 3 1 = 70 := by omega
                refine ov_blk (ls2 := [(0, ov_r 3), (1, ov_i dep), (2, ov_i v2), (3, ov_i v5), (4, ov_i v8), (5, ov_i 1)]) (st2 := [ov_i 1]) (pc2 := 134) b_73_132_1 rfl rfl ?_
                exact ov_retz (st := []) d_73_134 rfl (by omega) ⟨_, rfl, I184, (by show (1 = 0 ∧ 1 ≤ (h183 3 2) ∨ 1 = 1) ∧ (h183 36 7) = (h 36 7) ∧ (h183 1 1) = (h 1 1) ∧ (h183 90 2) = (h 90 2) ∧ (h183 0 10) = (h 0 10) ∧ (h183 0 11) = (h 0 11) ∧ (h183 0 12) = (h 0 12) ∧ (h183 0 13) = (h 0 13) ∧ (h183 3 1) = (h 3 1) ∧ (h183 36 8) = (h 36 8) ∧ (h183 46 3) = (h 46 3) ∧ (h183 46 4) = (h 46 4) ∧ (h183 49 4) = (h 49 4) ∧ (h183 49 5) = (h 49 5) ∧ (h183 64 0) = (h 64 0) ∧ (h183 76 0) = (h 76 0); omega)⟩
              · skip
                refine ov_blk (ls2 := [(0, ov_r 3), (1, ov_i dep), (2, ov_i v2), (3, ov_i v5), (4, ov_i v8), (5, ov_i 1)]) (st2 := [ov_i 0, ov_r 70]) (pc2 := 125) b_73_124_1 rfl rfl ?_
                refine ov_goto (tgt := 129) d_73_125 (by decide) ?_
                refine ov_cV (as := [ov_i 0]) (st := []) (d2 := d - 1) d_73_129 lk_Reader_224 rfl (Nat.le_of_ble_eq_true rfl) (c := 9) (zb_70 I175) (zs_70 I175) ⟨by decide, rfl⟩ (by omega) (c_Town_addCode_70 (d - 1) (by omega) U I175 (ov_kws hw (by decide +kernel)) 0 (by omega)) ?_
                rintro _ z188 h189 ⟨rfl, I190, f187⟩
                show ov_R u d ov_m73 132 [(0, ov_r 3), (1, ov_i dep), (2, ov_i v2), (3, ov_i v5), (4, ov_i v8), (5, ov_i 1)] [] z188 h189 (P_Reader_readPart_3_k3_1_70 F z h dep)
                have f191 : (h189 3 2) = (h174 3 2) ∧ (h189 36 7) = (h174 36 7) ∧ (h189 1 1) = (h174 1 1) ∧ (h189 90 2) = (h174 90 2) ∧ (h189 0 10) = (h174 0 10) ∧ (h189 0 11) = (h174 0 11) ∧ (h189 0 12) = (h174 0 12) ∧ (h189 0 13) = (h174 0 13) ∧ (h189 3 1) = (h174 3 1) ∧ (h189 36 8) = (h174 36 8) ∧ (h189 46 3) = (h174 46 3) ∧ (h189 46 4) = (h174 46 4) ∧ (h189 49 4) = (h174 49 4) ∧ (h189 49 5) = (h174 49 5) ∧ (h189 64 0) = (h174 64 0) ∧ (h189 76 0) = (h174 76 0) := f187
                clear f187
                have e192 : h189 3 1 = 70 := by omega
                refine ov_blk (ls2 := [(0, ov_r 3), (1, ov_i dep), (2, ov_i v2), (3, ov_i v5), (4, ov_i v8), (5, ov_i 1)]) (st2 := [ov_i 1]) (pc2 := 134) b_73_132_1 rfl rfl ?_
                exact ov_retz (st := []) d_73_134 rfl (by omega) ⟨_, rfl, I190, (by show (1 = 0 ∧ 1 ≤ (h189 3 2) ∨ 1 = 1) ∧ (h189 36 7) = (h 36 7) ∧ (h189 1 1) = (h 1 1) ∧ (h189 90 2) = (h 90 2) ∧ (h189 0 10) = (h 0 10) ∧ (h189 0 11) = (h 0 11) ∧ (h189 0 12) = (h 0 12) ∧ (h189 0 13) = (h 0 13) ∧ (h189 3 1) = (h 3 1) ∧ (h189 36 8) = (h 36 8) ∧ (h189 46 3) = (h 46 3) ∧ (h189 46 4) = (h 46 4) ∧ (h189 49 4) = (h 49 4) ∧ (h189 49 5) = (h 49 5) ∧ (h189 64 0) = (h 64 0) ∧ (h189 76 0) = (h 76 0); omega)⟩
            · skip
              refine ov_blk (ls2 := [(0, ov_r 3), (1, ov_i dep), (2, ov_i v2), (3, ov_i v5), (4, ov_i v8)]) (st2 := [ov_i (dep + 1), ov_r 3]) (pc2 := 103) b_73_99_4 rfl rfl ?_
              refine ov_cV (as := [ov_i (dep + 1)]) (st := []) (d2 := d - 1) d_73_103 lk_Reader_237 rfl (Nat.le_of_ble_eq_true rfl) (c := 6) (zb_3 I175) (zs_3 I175) ⟨by decide, rfl⟩ (by omega) (HP (k - 1) (by omega) (d - 1) (by omega) U I175 (ov_kws hw (by decide +kernel)) (dep + 1) e177 (by omega) (by omega)) ?_
              rintro _ z195 h196 ⟨v194, rfl, I197, f193⟩
              show ov_R u d ov_m73 106 [(0, ov_r 3), (1, ov_i dep), (2, ov_i v2), (3, ov_i v5), (4, ov_i v8)] [ov_i v194] z195 h196 (P_Reader_readPart_3_k3_1_70 F z h dep)
              have f198 : (v194 = 0 ∧ 1 ≤ (h196 3 2) ∨ v194 = 1) ∧ (h196 36 7) = (h174 36 7) ∧ (h196 1 1) = (h174 1 1) ∧ (h196 90 2) = (h174 90 2) ∧ (h196 0 10) = (h174 0 10) ∧ (h196 0 11) = (h174 0 11) ∧ (h196 0 12) = (h174 0 12) ∧ (h196 0 13) = (h174 0 13) ∧ (h196 3 1) = (h174 3 1) ∧ (h196 36 8) = (h174 36 8) ∧ (h196 46 3) = (h174 46 3) ∧ (h196 46 4) = (h174 46 4) ∧ (h196 49 4) = (h174 49 4) ∧ (h196 49 5) = (h174 49 5) ∧ (h196 64 0) = (h174 64 0) ∧ (h196 76 0) = (h174 76 0) := f193
              clear f193
              have e199 : h196 3 1 = 70 := by omega
              refine ov_ifeq (tgt := 113) d_73_106 (by decide) (by omega) (fun c200 => ?_) (fun c200 => ?_)
              · skip
                refine ov_blk (ls2 := [(0, ov_r 3), (1, ov_i dep), (2, ov_i v2), (3, ov_i v5), (4, ov_i v8), (5, ov_i 0)]) (st2 := [ov_r 3]) (pc2 := 117) b_73_113_3 rfl rfl ?_
                refine ov_getf (v := ov_r 70) d_73_117 fl_Reader_15 (zb_3 I197) (zs_3 I197) (congrArg ov_r e199) ?_
                refine ov_blk (ls2 := [(0, ov_r 3), (1, ov_i dep), (2, ov_i v2), (3, ov_i v5), (4, ov_i v8), (5, ov_i 0)]) (st2 := [ov_i v5, ov_r 70]) (pc2 := 121) b_73_120_1 rfl rfl ?_
                refine ov_ifeq (tgt := 128) d_73_121 (by decide) (by omega) (fun c201 => ?_) (fun c201 => ?_)
                · skip
                  refine ov_blk (ls2 := [(0, ov_r 3), (1, ov_i dep), (2, ov_i v2), (3, ov_i v5), (4, ov_i v8), (5, ov_i 0)]) (st2 := [ov_i v2, ov_r 70]) (pc2 := 129) b_73_128_1 rfl rfl ?_
                  refine ov_cV (as := [ov_i v2]) (st := []) (d2 := d - 1) d_73_129 lk_Reader_224 rfl (Nat.le_of_ble_eq_true rfl) (c := 9) (zb_70 I197) (zs_70 I197) ⟨by decide, rfl⟩ (by omega) (c_Town_addCode_70 (d - 1) (by omega) U I197 (ov_kws hw (by decide +kernel)) v2 (by omega)) ?_
                  rintro _ z203 h204 ⟨rfl, I205, f202⟩
                  show ov_R u d ov_m73 132 [(0, ov_r 3), (1, ov_i dep), (2, ov_i v2), (3, ov_i v5), (4, ov_i v8), (5, ov_i 0)] [] z203 h204 (P_Reader_readPart_3_k3_1_70 F z h dep)
                  have f206 : (h204 3 2) = (h196 3 2) ∧ (h204 36 7) = (h196 36 7) ∧ (h204 1 1) = (h196 1 1) ∧ (h204 90 2) = (h196 90 2) ∧ (h204 0 10) = (h196 0 10) ∧ (h204 0 11) = (h196 0 11) ∧ (h204 0 12) = (h196 0 12) ∧ (h204 0 13) = (h196 0 13) ∧ (h204 3 1) = (h196 3 1) ∧ (h204 36 8) = (h196 36 8) ∧ (h204 46 3) = (h196 46 3) ∧ (h204 46 4) = (h196 46 4) ∧ (h204 49 4) = (h196 49 4) ∧ (h204 49 5) = (h196 49 5) ∧ (h204 64 0) = (h196 64 0) ∧ (h204 76 0) = (h196 76 0) := f202
                  clear f202
                  have e207 : h204 3 1 = 70 := by omega
                  refine ov_blk (ls2 := [(0, ov_r 3), (1, ov_i dep), (2, ov_i v2), (3, ov_i v5), (4, ov_i v8), (5, ov_i 0)]) (st2 := [ov_i 0]) (pc2 := 134) b_73_132_1 rfl rfl ?_
                  exact ov_retz (st := []) d_73_134 rfl (by omega) ⟨_, rfl, I205, (by show (0 = 0 ∧ 1 ≤ (h204 3 2) ∨ 0 = 1) ∧ (h204 36 7) = (h 36 7) ∧ (h204 1 1) = (h 1 1) ∧ (h204 90 2) = (h 90 2) ∧ (h204 0 10) = (h 0 10) ∧ (h204 0 11) = (h 0 11) ∧ (h204 0 12) = (h 0 12) ∧ (h204 0 13) = (h 0 13) ∧ (h204 3 1) = (h 3 1) ∧ (h204 36 8) = (h 36 8) ∧ (h204 46 3) = (h 46 3) ∧ (h204 46 4) = (h 46 4) ∧ (h204 49 4) = (h 49 4) ∧ (h204 49 5) = (h 49 5) ∧ (h204 64 0) = (h 64 0) ∧ (h204 76 0) = (h 76 0); omega)⟩
                · skip
                  refine ov_blk (ls2 := [(0, ov_r 3), (1, ov_i dep), (2, ov_i v2), (3, ov_i v5), (4, ov_i v8), (5, ov_i 0)]) (st2 := [ov_i 0, ov_r 70]) (pc2 := 125) b_73_124_1 rfl rfl ?_
                  refine ov_goto (tgt := 129) d_73_125 (by decide) ?_
                  refine ov_cV (as := [ov_i 0]) (st := []) (d2 := d - 1) d_73_129 lk_Reader_224 rfl (Nat.le_of_ble_eq_true rfl) (c := 9) (zb_70 I197) (zs_70 I197) ⟨by decide, rfl⟩ (by omega) (c_Town_addCode_70 (d - 1) (by omega) U I197 (ov_kws hw (by decide +kernel)) 0 (by omega)) ?_
                  rintro _ z209 h210 ⟨rfl, I211, f208⟩
                  show ov_R u d ov_m73 132 [(0, ov_r 3), (1, ov_i dep), (2, ov_i v2), (3, ov_i v5), (4, ov_i v8), (5, ov_i 0)] [] z209 h210 (P_Reader_readPart_3_k3_1_70 F z h dep)
                  have f212 : (h210 3 2) = (h196 3 2) ∧ (h210 36 7) = (h196 36 7) ∧ (h210 1 1) = (h196 1 1) ∧ (h210 90 2) = (h196 90 2) ∧ (h210 0 10) = (h196 0 10) ∧ (h210 0 11) = (h196 0 11) ∧ (h210 0 12) = (h196 0 12) ∧ (h210 0 13) = (h196 0 13) ∧ (h210 3 1) = (h196 3 1) ∧ (h210 36 8) = (h196 36 8) ∧ (h210 46 3) = (h196 46 3) ∧ (h210 46 4) = (h196 46 4) ∧ (h210 49 4) = (h196 49 4) ∧ (h210 49 5) = (h196 49 5) ∧ (h210 64 0) = (h196 64 0) ∧ (h210 76 0) = (h196 76 0) := f208
                  clear f208
                  have e213 : h210 3 1 = 70 := by omega
                  refine ov_blk (ls2 := [(0, ov_r 3), (1, ov_i dep), (2, ov_i v2), (3, ov_i v5), (4, ov_i v8), (5, ov_i 0)]) (st2 := [ov_i 0]) (pc2 := 134) b_73_132_1 rfl rfl ?_
                  exact ov_retz (st := []) d_73_134 rfl (by omega) ⟨_, rfl, I211, (by show (0 = 0 ∧ 1 ≤ (h210 3 2) ∨ 0 = 1) ∧ (h210 36 7) = (h 36 7) ∧ (h210 1 1) = (h 1 1) ∧ (h210 90 2) = (h 90 2) ∧ (h210 0 10) = (h 0 10) ∧ (h210 0 11) = (h 0 11) ∧ (h210 0 12) = (h 0 12) ∧ (h210 0 13) = (h 0 13) ∧ (h210 3 1) = (h 3 1) ∧ (h210 36 8) = (h 36 8) ∧ (h210 46 3) = (h 46 3) ∧ (h210 46 4) = (h 46 4) ∧ (h210 49 4) = (h 49 4) ∧ (h210 49 5) = (h 49 5) ∧ (h210 64 0) = (h 64 0) ∧ (h210 76 0) = (h 76 0); omega)⟩
              · skip
                refine ov_blk (ls2 := [(0, ov_r 3), (1, ov_i dep), (2, ov_i v2), (3, ov_i v5), (4, ov_i v8)]) (st2 := [ov_i 1]) (pc2 := 110) b_73_109_1 rfl rfl ?_
                refine ov_goto (tgt := 114) d_73_110 (by decide) ?_
                refine ov_blk (ls2 := [(0, ov_r 3), (1, ov_i dep), (2, ov_i v2), (3, ov_i v5), (4, ov_i v8), (5, ov_i 1)]) (st2 := [ov_r 3]) (pc2 := 117) b_73_114_2 rfl rfl ?_
                refine ov_getf (v := ov_r 70) d_73_117 fl_Reader_15 (zb_3 I197) (zs_3 I197) (congrArg ov_r e199) ?_
                refine ov_blk (ls2 := [(0, ov_r 3), (1, ov_i dep), (2, ov_i v2), (3, ov_i v5), (4, ov_i v8), (5, ov_i 1)]) (st2 := [ov_i v5, ov_r 70]) (pc2 := 121) b_73_120_1 rfl rfl ?_
                refine ov_ifeq (tgt := 128) d_73_121 (by decide) (by omega) (fun c214 => ?_) (fun c214 => ?_)
                · skip
                  refine ov_blk (ls2 := [(0, ov_r 3), (1, ov_i dep), (2, ov_i v2), (3, ov_i v5), (4, ov_i v8), (5, ov_i 1)]) (st2 := [ov_i v2, ov_r 70]) (pc2 := 129) b_73_128_1 rfl rfl ?_
                  refine ov_cV (as := [ov_i v2]) (st := []) (d2 := d - 1) d_73_129 lk_Reader_224 rfl (Nat.le_of_ble_eq_true rfl) (c := 9) (zb_70 I197) (zs_70 I197) ⟨by decide, rfl⟩ (by omega) (c_Town_addCode_70 (d - 1) (by omega) U I197 (ov_kws hw (by decide +kernel)) v2 (by omega)) ?_
                  rintro _ z216 h217 ⟨rfl, I218, f215⟩
                  show ov_R u d ov_m73 132 [(0, ov_r 3), (1, ov_i dep), (2, ov_i v2), (3, ov_i v5), (4, ov_i v8), (5, ov_i 1)] [] z216 h217 (P_Reader_readPart_3_k3_1_70 F z h dep)
                  have f219 : (h217 3 2) = (h196 3 2) ∧ (h217 36 7) = (h196 36 7) ∧ (h217 1 1) = (h196 1 1) ∧ (h217 90 2) = (h196 90 2) ∧ (h217 0 10) = (h196 0 10) ∧ (h217 0 11) = (h196 0 11) ∧ (h217 0 12) = (h196 0 12) ∧ (h217 0 13) = (h196 0 13) ∧ (h217 3 1) = (h196 3 1) ∧ (h217 36 8) = (h196 36 8) ∧ (h217 46 3) = (h196 46 3) ∧ (h217 46 4) = (h196 46 4) ∧ (h217 49 4) = (h196 49 4) ∧ (h217 49 5) = (h196 49 5) ∧ (h217 64 0) = (h196 64 0) ∧ (h217 76 0) = (h196 76 0) := f215
                  clear f215
                  have e220 : h217 3 1 = 70 := by omega
                  refine ov_blk (ls2 := [(0, ov_r 3), (1, ov_i dep), (2, ov_i v2), (3, ov_i v5), (4, ov_i v8), (5, ov_i 1)]) (st2 := [ov_i 1]) (pc2 := 134) b_73_132_1 rfl rfl ?_
                  exact ov_retz (st := []) d_73_134 rfl (by omega) ⟨_, rfl, I218, (by show (1 = 0 ∧ 1 ≤ (h217 3 2) ∨ 1 = 1) ∧ (h217 36 7) = (h 36 7) ∧ (h217 1 1) = (h 1 1) ∧ (h217 90 2) = (h 90 2) ∧ (h217 0 10) = (h 0 10) ∧ (h217 0 11) = (h 0 11) ∧ (h217 0 12) = (h 0 12) ∧ (h217 0 13) = (h 0 13) ∧ (h217 3 1) = (h 3 1) ∧ (h217 36 8) = (h 36 8) ∧ (h217 46 3) = (h 46 3) ∧ (h217 46 4) = (h 46 4) ∧ (h217 49 4) = (h 49 4) ∧ (h217 49 5) = (h 49 5) ∧ (h217 64 0) = (h 64 0) ∧ (h217 76 0) = (h 76 0); omega)⟩
                · skip
                  refine ov_blk (ls2 := [(0, ov_r 3), (1, ov_i dep), (2, ov_i v2), (3, ov_i v5), (4, ov_i v8), (5, ov_i 1)]) (st2 := [ov_i 0, ov_r 70]) (pc2 := 125) b_73_124_1 rfl rfl ?_
                  refine ov_goto (tgt := 129) d_73_125 (by decide) ?_
                  refine ov_cV (as := [ov_i 0]) (st := []) (d2 := d - 1) d_73_129 lk_Reader_224 rfl (Nat.le_of_ble_eq_true rfl) (c := 9) (zb_70 I197) (zs_70 I197) ⟨by decide, rfl⟩ (by omega) (c_Town_addCode_70 (d - 1) (by omega) U I197 (ov_kws hw (by decide +kernel)) 0 (by omega)) ?_
                  rintro _ z222 h223 ⟨rfl, I224, f221⟩
                  show ov_R u d ov_m73 132 [(0, ov_r 3), (1, ov_i dep), (2, ov_i v2), (3, ov_i v5), (4, ov_i v8), (5, ov_i 1)] [] z222 h223 (P_Reader_readPart_3_k3_1_70 F z h dep)
                  have f225 : (h223 3 2) = (h196 3 2) ∧ (h223 36 7) = (h196 36 7) ∧ (h223 1 1) = (h196 1 1) ∧ (h223 90 2) = (h196 90 2) ∧ (h223 0 10) = (h196 0 10) ∧ (h223 0 11) = (h196 0 11) ∧ (h223 0 12) = (h196 0 12) ∧ (h223 0 13) = (h196 0 13) ∧ (h223 3 1) = (h196 3 1) ∧ (h223 36 8) = (h196 36 8) ∧ (h223 46 3) = (h196 46 3) ∧ (h223 46 4) = (h196 46 4) ∧ (h223 49 4) = (h196 49 4) ∧ (h223 49 5) = (h196 49 5) ∧ (h223 64 0) = (h196 64 0) ∧ (h223 76 0) = (h196 76 0) := f221
                  clear f221
                  have e226 : h223 3 1 = 70 := by omega
                  refine ov_blk (ls2 := [(0, ov_r 3), (1, ov_i dep), (2, ov_i v2), (3, ov_i v5), (4, ov_i v8), (5, ov_i 1)]) (st2 := [ov_i 1]) (pc2 := 134) b_73_132_1 rfl rfl ?_
                  exact ov_retz (st := []) d_73_134 rfl (by omega) ⟨_, rfl, I224, (by show (1 = 0 ∧ 1 ≤ (h223 3 2) ∨ 1 = 1) ∧ (h223 36 7) = (h 36 7) ∧ (h223 1 1) = (h 1 1) ∧ (h223 90 2) = (h 90 2) ∧ (h223 0 10) = (h 0 10) ∧ (h223 0 11) = (h 0 11) ∧ (h223 0 12) = (h 0 12) ∧ (h223 0 13) = (h 0 13) ∧ (h223 3 1) = (h 3 1) ∧ (h223 36 8) = (h 36 8) ∧ (h223 46 3) = (h 46 3) ∧ (h223 46 4) = (h 46 4) ∧ (h223 49 4) = (h 49 4) ∧ (h223 49 5) = (h 49 5) ∧ (h223 64 0) = (h 64 0) ∧ (h223 76 0) = (h 76 0); omega)⟩
          · skip
            refine ov_blk (ls2 := [(0, ov_r 3), (1, ov_i dep), (2, ov_i v2), (3, ov_i v5), (4, ov_i v8)]) (st2 := [ov_i (dep + 1), ov_r 3]) (pc2 := 74) b_73_70_4 rfl rfl ?_
            refine ov_cV (as := [ov_i (dep + 1)]) (st := []) (d2 := d - 1) d_73_74 lk_Reader_210 rfl (Nat.le_of_ble_eq_true rfl) (c := 6) (zb_3 I175) (zs_3 I175) ⟨by decide, rfl⟩ (by omega) (HE (k - 1) (by omega) (d - 1) (by omega) U I175 (ov_kws hw (by decide +kernel)) (dep + 1) e177 (by omega) (by omega)) ?_
            rintro _ z229 h230 ⟨v228, rfl, I231, f227⟩
            show ov_R u d ov_m73 77 [(0, ov_r 3), (1, ov_i dep), (2, ov_i v2), (3, ov_i v5), (4, ov_i v8)] [ov_i v228] z229 h230 (P_Reader_readPart_3_k3_1_70 F z h dep)
            have f232 : (v228 = 0 ∧ 1 ≤ (h230 3 2) ∨ v228 = 1) ∧ (h230 36 7) = (h174 36 7) ∧ (h230 1 1) = (h174 1 1) ∧ (h230 90 2) = (h174 90 2) ∧ (h230 0 10) = (h174 0 10) ∧ (h230 0 11) = (h174 0 11) ∧ (h230 0 12) = (h174 0 12) ∧ (h230 0 13) = (h174 0 13) ∧ (h230 3 1) = (h174 3 1) ∧ (h230 36 8) = (h174 36 8) ∧ (h230 46 3) = (h174 46 3) ∧ (h230 46 4) = (h174 46 4) ∧ (h230 49 4) = (h174 49 4) ∧ (h230 49 5) = (h174 49 5) ∧ (h230 64 0) = (h174 64 0) ∧ (h230 76 0) = (h174 76 0) := f227
            clear f227
            have e233 : h230 3 1 = 70 := by omega
            refine ov_ifeq (tgt := 93) d_73_77 (by decide) (by omega) (fun c234 => ?_) (fun c234 => ?_)
            · skip
              refine ov_blk (ls2 := [(0, ov_r 3), (1, ov_i dep), (2, ov_i v2), (3, ov_i v5), (4, ov_i v8)]) (st2 := [ov_i 0]) (pc2 := 94) b_73_93_1 rfl rfl ?_
              exact ov_retz (st := []) d_73_94 rfl (by omega) ⟨_, rfl, I231, (by show (0 = 0 ∧ 1 ≤ (h230 3 2) ∨ 0 = 1) ∧ (h230 36 7) = (h 36 7) ∧ (h230 1 1) = (h 1 1) ∧ (h230 90 2) = (h 90 2) ∧ (h230 0 10) = (h 0 10) ∧ (h230 0 11) = (h 0 11) ∧ (h230 0 12) = (h 0 12) ∧ (h230 0 13) = (h 0 13) ∧ (h230 3 1) = (h 3 1) ∧ (h230 36 8) = (h 36 8) ∧ (h230 46 3) = (h 46 3) ∧ (h230 46 4) = (h 46 4) ∧ (h230 49 4) = (h 49 4) ∧ (h230 49 5) = (h 49 5) ∧ (h230 64 0) = (h 64 0) ∧ (h230 76 0) = (h 76 0); omega)⟩
            · skip
              refine ov_blk (ls2 := [(0, ov_r 3), (1, ov_i dep), (2, ov_i v2), (3, ov_i v5), (4, ov_i v8)]) (st2 := [ov_i 41, ov_r 3]) (pc2 := 83) b_73_80_2 rfl rfl ?_
              refine ov_cV (as := [ov_i 41]) (st := []) (d2 := d - 1) d_73_83 lk_Reader_92 rfl (Nat.le_of_ble_eq_true rfl) (c := 6) (zb_3 I231) (zs_3 I231) ⟨by decide, rfl⟩ (by omega) (c_Reader_takeSign_3_k3_1_70 (d - 1) (by omega) U I231 (ov_kws hw (by decide +kernel)) 41 e233 (by omega)) ?_
              rintro _ z237 h238 ⟨v236, rfl, I239, f235⟩
              show ov_R u d ov_m73 86 [(0, ov_r 3), (1, ov_i dep), (2, ov_i v2), (3, ov_i v5), (4, ov_i v8)] [ov_i v236] z237 h238 (P_Reader_readPart_3_k3_1_70 F z h dep)
              have f240 : (v236 = 0 ∧ 1 ≤ (h238 3 2) ∨ v236 = 1) ∧ (h238 36 7) = (h230 36 7) ∧ (h238 1 1) = (h230 1 1) ∧ (h238 90 2) = (h230 90 2) ∧ (h238 0 10) = (h230 0 10) ∧ (h238 0 11) = (h230 0 11) ∧ (h238 0 12) = (h230 0 12) ∧ (h238 0 13) = (h230 0 13) ∧ (h238 3 1) = (h230 3 1) ∧ (h238 36 8) = (h230 36 8) ∧ (h238 46 3) = (h230 46 3) ∧ (h238 46 4) = (h230 46 4) ∧ (h238 49 4) = (h230 49 4) ∧ (h238 49 5) = (h230 49 5) ∧ (h238 64 0) = (h230 64 0) ∧ (h238 76 0) = (h230 76 0) := f235
              clear f235
              have e241 : h238 3 1 = 70 := by omega
              refine ov_ifeq (tgt := 93) d_73_86 (by decide) (by omega) (fun c242 => ?_) (fun c242 => ?_)
              · skip
                refine ov_blk (ls2 := [(0, ov_r 3), (1, ov_i dep), (2, ov_i v2), (3, ov_i v5), (4, ov_i v8)]) (st2 := [ov_i 0]) (pc2 := 94) b_73_93_1 rfl rfl ?_
                exact ov_retz (st := []) d_73_94 rfl (by omega) ⟨_, rfl, I239, (by show (0 = 0 ∧ 1 ≤ (h238 3 2) ∨ 0 = 1) ∧ (h238 36 7) = (h 36 7) ∧ (h238 1 1) = (h 1 1) ∧ (h238 90 2) = (h 90 2) ∧ (h238 0 10) = (h 0 10) ∧ (h238 0 11) = (h 0 11) ∧ (h238 0 12) = (h 0 12) ∧ (h238 0 13) = (h 0 13) ∧ (h238 3 1) = (h 3 1) ∧ (h238 36 8) = (h 36 8) ∧ (h238 46 3) = (h 46 3) ∧ (h238 46 4) = (h 46 4) ∧ (h238 49 4) = (h 49 4) ∧ (h238 49 5) = (h 49 5) ∧ (h238 64 0) = (h 64 0) ∧ (h238 76 0) = (h 76 0); omega)⟩
              · skip
                refine ov_blk (ls2 := [(0, ov_r 3), (1, ov_i dep), (2, ov_i v2), (3, ov_i v5), (4, ov_i v8)]) (st2 := [ov_i 1]) (pc2 := 90) b_73_89_1 rfl rfl ?_
                refine ov_goto (tgt := 94) d_73_90 (by decide) ?_
                exact ov_retz (st := []) d_73_94 rfl (by omega) ⟨_, rfl, I239, (by show (1 = 0 ∧ 1 ≤ (h238 3 2) ∨ 1 = 1) ∧ (h238 36 7) = (h 36 7) ∧ (h238 1 1) = (h 1 1) ∧ (h238 90 2) = (h 90 2) ∧ (h238 0 10) = (h 0 10) ∧ (h238 0 11) = (h 0 11) ∧ (h238 0 12) = (h 0 12) ∧ (h238 0 13) = (h 0 13) ∧ (h238 3 1) = (h 3 1) ∧ (h238 36 8) = (h 36 8) ∧ (h238 46 3) = (h 46 3) ∧ (h238 46 4) = (h 46 4) ∧ (h238 49 4) = (h 49 4) ∧ (h238 49 5) = (h 49 5) ∧ (h238 64 0) = (h 64 0) ∧ (h238 76 0) = (h 76 0); omega)⟩
        · skip
          refine ov_blk (ls2 := [(0, ov_r 3), (1, ov_i dep), (2, ov_i v2), (3, ov_i v5), (4, ov_i v8)]) (st2 := [ov_i 5, ov_r 3]) (pc2 := 54) b_73_52_2 rfl rfl ?_
          refine ov_cV (as := [ov_i 5]) (st := []) (d2 := d - 1) d_73_54 lk_Reader_58 rfl (Nat.le_of_ble_eq_true rfl) (c := 6) (zb_3 I) (zs_3 I) ⟨by decide, rfl⟩ (by omega) (c_Reader_fail_3_k3_1_70 (d - 1) (by omega) U I (ov_kws hw (by decide +kernel)) 5 k0 (by omega) (by omega)) ?_
          rintro _ z245 h246 ⟨v244, rfl, I247, f243⟩
          show ov_R u d ov_m73 57 [(0, ov_r 3), (1, ov_i dep), (2, ov_i v2), (3, ov_i v5), (4, ov_i v8)] [ov_i v244] z245 h246 (P_Reader_readPart_3_k3_1_70 F z h dep)
          have f248 : v244 = 0 ∧ 1 ≤ (h246 3 2) ∧ (h246 36 7) = (h 36 7) ∧ (h246 1 1) = (h 1 1) ∧ (h246 90 2) = (h 90 2) ∧ (h246 0 10) = (h 0 10) ∧ (h246 0 11) = (h 0 11) ∧ (h246 0 12) = (h 0 12) ∧ (h246 0 13) = (h 0 13) ∧ (h246 3 1) = (h 3 1) ∧ (h246 36 8) = (h 36 8) ∧ (h246 46 3) = (h 46 3) ∧ (h246 46 4) = (h 46 4) ∧ (h246 49 4) = (h 49 4) ∧ (h246 49 5) = (h 49 5) ∧ (h246 64 0) = (h 64 0) ∧ (h246 76 0) = (h 76 0) := f243
          clear f243
          have e249 : h246 3 1 = 70 := by omega
          exact ov_retz (st := []) d_73_57 rfl (by omega) ⟨_, rfl, I247, (by show (v244 = 0 ∧ 1 ≤ (h246 3 2) ∨ v244 = 1) ∧ (h246 36 7) = (h 36 7) ∧ (h246 1 1) = (h 1 1) ∧ (h246 90 2) = (h 90 2) ∧ (h246 0 10) = (h 0 10) ∧ (h246 0 11) = (h 0 11) ∧ (h246 0 12) = (h 0 12) ∧ (h246 0 13) = (h 0 13) ∧ (h246 3 1) = (h 3 1) ∧ (h246 36 8) = (h 36 8) ∧ (h246 46 3) = (h 46 3) ∧ (h246 46 4) = (h 46 4) ∧ (h246 49 4) = (h 49 4) ∧ (h246 49 5) = (h 49 5) ∧ (h246 64 0) = (h 64 0) ∧ (h246 76 0) = (h 76 0); omega)⟩
      · skip
        refine ov_blk (ls2 := [(0, ov_r 3), (1, ov_i dep), (2, ov_i v2), (3, ov_i v5), (4, ov_i v8)]) (st2 := [ov_i 1, ov_r 3]) (pc2 := 43) b_73_41_2 rfl rfl ?_
        refine ov_cV (as := [ov_i 1]) (st := []) (d2 := d - 1) d_73_43 lk_Reader_58 rfl (Nat.le_of_ble_eq_true rfl) (c := 6) (zb_3 I) (zs_3 I) ⟨by decide, rfl⟩ (by omega) (c_Reader_fail_3_k3_1_70 (d - 1) (by omega) U I (ov_kws hw (by decide +kernel)) 1 k0 (by omega) (by omega)) ?_
        rintro _ z252 h253 ⟨v251, rfl, I254, f250⟩
        show ov_R u d ov_m73 46 [(0, ov_r 3), (1, ov_i dep), (2, ov_i v2), (3, ov_i v5), (4, ov_i v8)] [ov_i v251] z252 h253 (P_Reader_readPart_3_k3_1_70 F z h dep)
        have f255 : v251 = 0 ∧ 1 ≤ (h253 3 2) ∧ (h253 36 7) = (h 36 7) ∧ (h253 1 1) = (h 1 1) ∧ (h253 90 2) = (h 90 2) ∧ (h253 0 10) = (h 0 10) ∧ (h253 0 11) = (h 0 11) ∧ (h253 0 12) = (h 0 12) ∧ (h253 0 13) = (h 0 13) ∧ (h253 3 1) = (h 3 1) ∧ (h253 36 8) = (h 36 8) ∧ (h253 46 3) = (h 46 3) ∧ (h253 46 4) = (h 46 4) ∧ (h253 49 4) = (h 49 4) ∧ (h253 49 5) = (h 49 5) ∧ (h253 64 0) = (h 64 0) ∧ (h253 76 0) = (h 76 0) := f250
        clear f250
        have e256 : h253 3 1 = 70 := by omega
        exact ov_retz (st := []) d_73_46 rfl (by omega) ⟨_, rfl, I254, (by show (v251 = 0 ∧ 1 ≤ (h253 3 2) ∨ v251 = 1) ∧ (h253 36 7) = (h 36 7) ∧ (h253 1 1) = (h 1 1) ∧ (h253 90 2) = (h 90 2) ∧ (h253 0 10) = (h 0 10) ∧ (h253 0 11) = (h 0 11) ∧ (h253 0 12) = (h 0 12) ∧ (h253 0 13) = (h 0 13) ∧ (h253 3 1) = (h 3 1) ∧ (h253 36 8) = (h 36 8) ∧ (h253 46 3) = (h 46 3) ∧ (h253 46 4) = (h 46 4) ∧ (h253 49 4) = (h 49 4) ∧ (h253 49 5) = (h 49 5) ∧ (h253 64 0) = (h 64 0) ∧ (h253 76 0) = (h 76 0); omega)⟩
set_option maxHeartbeats 4000000 in
theorem c_Reader_readProduct_3_k3_1_70 {u : ov_U} {F : ov_H} (k : Nat) (HE : ∀ k' : Nat, k' + 1 = k → ∀ {z : ov_Z} {h : ov_H} (d : Nat) (hd : (10 + 5 * k' + 4) ≤ d) (U : ov_cap u) (I : ov_I F z h) (hw : ov_kw 1210106411235346586009610 F) (dep : Int) (k0 : h 3 1 = 70) (g_dep : ov_g dep) (p0 : 0 ≤ dep ∧ dep + (k' : Int) = 5), ov_T u d ov_m69 [ov_r 3, ov_i dep] z h (P_Reader_readExpression_3_k3_1_70 F z h dep)) (HP : ∀ k' : Nat, k' + 1 = k → ∀ {z : ov_Z} {h : ov_H} (d : Nat) (hd : (10 + 5 * k' + 0) ≤ d) (U : ov_cap u) (I : ov_I F z h) (hw : ov_kw 1210106411235346586009610 F) (dep : Int) (k0 : h 3 1 = 70) (g_dep : ov_g dep) (p0 : 0 ≤ dep ∧ dep + (k' : Int) = 5), ov_T u d ov_m73 [ov_r 3, ov_i dep] z h (P_Reader_readPart_3_k3_1_70 F z h dep)) {z : ov_Z} {h : ov_H} (d : Nat) (hd : (10 + 5 * k + 1) ≤ d) (U : ov_cap u) (I : ov_I F z h) (hw : ov_kw 1210106411235346586009610 F) (dep : Int) (k0 : h 3 1 = 70) (g_dep : ov_g dep) (p0 : 0 ≤ dep ∧ dep + (k : Int) = 5) : ov_T u d ov_m72 [ov_r 3, ov_i dep] z h (P_Reader_readProduct_3_k3_1_70 F z h dep) := by
  refine ov_en rfl (Nat.le_of_ble_eq_true rfl) ?_
  show ov_R u d ov_m72 0 [(0, ov_r 3), (1, ov_i dep)] [] z h (P_Reader_readProduct_3_k3_1_70 F z h dep)
  refine ov_blk (ls2 := [(0, ov_r 3), (1, ov_i dep)]) (st2 := [ov_i dep, ov_r 3]) (pc2 := 2) b_72_0_2 rfl rfl ?_
  refine ov_cV (as := [ov_i dep]) (st := []) (d2 := d - 1) d_72_2 lk_Reader_237 rfl (Nat.le_of_ble_eq_true rfl) (c := 6) (zb_3 I) (zs_3 I) ⟨by decide, rfl⟩ (by omega) (c_Reader_readPart_3_k3_1_70 k HE HP (d - 1) (by omega) U I (ov_kws hw (by decide +kernel)) dep k0 (by omega) (by omega)) ?_
  rintro _ z3 h4 ⟨v2, rfl, I5, f1⟩
  show ov_R u d ov_m72 5 [(0, ov_r 3), (1, ov_i dep)] [ov_i v2] z3 h4 (P_Reader_readProduct_3_k3_1_70 F z h dep)
  have f6 : (v2 = 0 ∧ 1 ≤ (h4 3 2) ∨ v2 = 1) ∧ (h4 36 7) = (h 36 7) ∧ (h4 1 1) = (h 1 1) ∧ (h4 90 2) = (h 90 2) ∧ (h4 0 10) = (h 0 10) ∧ (h4 0 11) = (h 0 11) ∧ (h4 0 12) = (h 0 12) ∧ (h4 0 13) = (h 0 13) ∧ (h4 3 1) = (h 3 1) ∧ (h4 36 8) = (h 36 8) ∧ (h4 46 3) = (h 46 3) ∧ (h4 46 4) = (h 46 4) ∧ (h4 49 4) = (h 49 4) ∧ (h4 49 5) = (h 49 5) ∧ (h4 64 0) = (h 64 0) ∧ (h4 76 0) = (h 76 0) := f1
  clear f1
  have e7 : h4 3 1 = 70 := by omega
  refine ov_blk (ls2 := [(0, ov_r 3), (1, ov_i dep), (2, ov_i v2), (3, ov_i 0)]) (st2 := []) (pc2 := 8) b_72_5_3 rfl rfl ?_
  have L11 : ∀ (n8 : Nat) (x2 : Int) (x3 : Int) (z12 : ov_Z) (h13 : ov_H) (I14 : ov_I F z12 h13) (q10 : (x2 = 0 ∧ 1 ≤ (h13 3 2) ∨ x2 = 1) ∧ 0 ≤ x3 ∧ x3 ≤ 1000 ∧ (h13 36 7) = (h 36 7) ∧ (h13 1 1) = (h 1 1) ∧ (h13 90 2) = (h 90 2) ∧ (h13 0 10) = (h 0 10) ∧ (h13 0 11) = (h 0 11) ∧ (h13 0 12) = (h 0 12) ∧ (h13 0 13) = (h 0 13) ∧ (h13 3 1) = (h 3 1) ∧ (h13 36 8) = (h 36 8) ∧ (h13 46 3) = (h 46 3) ∧ (h13 46 4) = (h 46 4) ∧ (h13 49 4) = (h 49 4) ∧ (h13 49 5) = (h 49 5) ∧ (h13 64 0) = (h 64 0) ∧ (h13 76 0) = (h 76 0) ∧ h13 3 1 = 70), 1000 - x3 < (n8 : Int) → ov_R u d ov_m72 8 [(0, ov_r 3), (1, ov_i dep), (2, ov_i x2), (3, ov_i x3)] [] z12 h13 (P_Reader_readProduct_3_k3_1_70 F z h dep) := by
    intro n8
    induction n8 with
    | zero =>
      intro x2 x3 z12 h13 I14 q10 hn15
      exact absurd hn15 (by omega)
    | succ n8 ih9 =>
      intro x2 x3 z12 h13 I14 q10 hn15
      have e16 : h13 3 1 = 70 := by omega
      refine ov_blk (ls2 := [(0, ov_r 3), (1, ov_i dep), (2, ov_i x2), (3, ov_i x3)]) (st2 := [ov_i 1000, ov_i x3]) (pc2 := 12) b_72_8_2 rfl rfl ?_
      refine ov_icge (tgt := 59) d_72_12 (by decide) (by omega) (by omega) (fun c17 => ?_) (fun c17 => ?_)
      · skip
        refine ov_blk (ls2 := [(0, ov_r 3), (1, ov_i dep), (2, ov_i x2), (3, ov_i x3)]) (st2 := [ov_i x2]) (pc2 := 60) b_72_59_1 rfl rfl ?_
        exact ov_retz (st := []) d_72_60 rfl (by omega) ⟨_, rfl, I14, (by show (x2 = 0 ∧ 1 ≤ (h13 3 2) ∨ x2 = 1) ∧ (h13 36 7) = (h 36 7) ∧ (h13 1 1) = (h 1 1) ∧ (h13 90 2) = (h 90 2) ∧ (h13 0 10) = (h 0 10) ∧ (h13 0 11) = (h 0 11) ∧ (h13 0 12) = (h 0 12) ∧ (h13 0 13) = (h 0 13) ∧ (h13 3 1) = (h 3 1) ∧ (h13 36 8) = (h 36 8) ∧ (h13 46 3) = (h 46 3) ∧ (h13 46 4) = (h 46 4) ∧ (h13 49 4) = (h 49 4) ∧ (h13 49 5) = (h 49 5) ∧ (h13 64 0) = (h 64 0) ∧ (h13 76 0) = (h 76 0); omega)⟩
      · skip
        refine ov_blk (ls2 := [(0, ov_r 3), (1, ov_i dep), (2, ov_i x2), (3, ov_i x3)]) (st2 := [ov_i x2]) (pc2 := 16) b_72_15_1 rfl rfl ?_
        refine ov_ifeq (tgt := 59) d_72_16 (by decide) (by omega) (fun c18 => ?_) (fun c18 => ?_)
        · skip
          refine ov_blk (ls2 := [(0, ov_r 3), (1, ov_i dep), (2, ov_i x2), (3, ov_i x3)]) (st2 := [ov_i x2]) (pc2 := 60) b_72_59_1 rfl rfl ?_
          exact ov_retz (st := []) d_72_60 rfl (by omega) ⟨_, rfl, I14, (by show (x2 = 0 ∧ 1 ≤ (h13 3 2) ∨ x2 = 1) ∧ (h13 36 7) = (h 36 7) ∧ (h13 1 1) = (h 1 1) ∧ (h13 90 2) = (h 90 2) ∧ (h13 0 10) = (h 0 10) ∧ (h13 0 11) = (h 0 11) ∧ (h13 0 12) = (h 0 12) ∧ (h13 0 13) = (h 0 13) ∧ (h13 3 1) = (h 3 1) ∧ (h13 36 8) = (h 36 8) ∧ (h13 46 3) = (h 46 3) ∧ (h13 46 4) = (h 46 4) ∧ (h13 49 4) = (h 49 4) ∧ (h13 49 5) = (h 49 5) ∧ (h13 64 0) = (h 64 0) ∧ (h13 76 0) = (h 76 0); omega)⟩
        · skip
          refine ov_blk (ls2 := [(0, ov_r 3), (1, ov_i dep), (2, ov_i x2), (3, ov_i x3)]) (st2 := [ov_r 3]) (pc2 := 20) b_72_19_1 rfl rfl ?_
          refine ov_getf (v := ov_r 1) d_72_20 fl_Reader_9 (zb_3 I14) (zs_3 I14) (congrArg ov_r (rg_3_0 I14)) ?_
          refine ov_blk (ls2 := [(0, ov_r 3), (1, ov_i dep), (2, ov_i x2), (3, ov_i x3)]) (st2 := [ov_i 42, ov_r 1]) (pc2 := 25) b_72_23_1 rfl rfl ?_
          refine ov_cV (as := [ov_i 42]) (st := []) (d2 := d - 1) d_72_25 lk_Reader_231 rfl (Nat.le_of_ble_eq_true rfl) (c := 8) (zb_1 I14) (zs_1 I14) ⟨by decide, rfl⟩ (by omega) (c_Tape_isSign_1 (d - 1) (by omega) U I14 42 (by omega)) ?_
          rintro _ _ _ ⟨v20, rfl, rfl, rfl, f19⟩
          show ov_R u d ov_m72 28 [(0, ov_r 3), (1, ov_i dep), (2, ov_i x2), (3, ov_i x3)] [ov_i v20] z12 h13 (P_Reader_readProduct_3_k3_1_70 F z h dep)
          have f21 : (v20 = 0 ∨ v20 = 1) := f19
          clear f19
          refine ov_ifeq (tgt := 59) d_72_28 (by decide) (by omega) (fun c22 => ?_) (fun c22 => ?_)
          · skip
            refine ov_blk (ls2 := [(0, ov_r 3), (1, ov_i dep), (2, ov_i x2), (3, ov_i x3)]) (st2 := [ov_i x2]) (pc2 := 60) b_72_59_1 rfl rfl ?_
            exact ov_retz (st := []) d_72_60 rfl (by omega) ⟨_, rfl, I14, (by show (x2 = 0 ∧ 1 ≤ (h13 3 2) ∨ x2 = 1) ∧ (h13 36 7) = (h 36 7) ∧ (h13 1 1) = (h 1 1) ∧ (h13 90 2) = (h 90 2) ∧ (h13 0 10) = (h 0 10) ∧ (h13 0 11) = (h 0 11) ∧ (h13 0 12) = (h 0 12) ∧ (h13 0 13) = (h 0 13) ∧ (h13 3 1) = (h 3 1) ∧ (h13 36 8) = (h 36 8) ∧ (h13 46 3) = (h 46 3) ∧ (h13 46 4) = (h 46 4) ∧ (h13 49 4) = (h 49 4) ∧ (h13 49 5) = (h 49 5) ∧ (h13 64 0) = (h 64 0) ∧ (h13 76 0) = (h 76 0); omega)⟩
          · skip
            refine ov_blk (ls2 := [(0, ov_r 3), (1, ov_i dep), (2, ov_i x2), (3, ov_i x3)]) (st2 := [ov_r 3]) (pc2 := 32) b_72_31_1 rfl rfl ?_
            refine ov_getf (v := ov_r 1) d_72_32 fl_Reader_9 (zb_3 I14) (zs_3 I14) (congrArg ov_r (rg_3_0 I14)) ?_
            refine ov_cV (as := []) (st := []) (d2 := d - 1) d_72_35 lk_Reader_75 rfl (Nat.le_of_ble_eq_true rfl) (c := 8) (zb_1 I14) (zs_1 I14) ⟨by decide, rfl⟩ (by omega) (c_Tape_advance_1 (d - 1) (by omega) U I14 (ov_kws hw (by decide +kernel))) ?_
            rintro _ z24 h25 ⟨rfl, I26, f23⟩
            show ov_R u d ov_m72 38 [(0, ov_r 3), (1, ov_i dep), (2, ov_i x2), (3, ov_i x3)] [] z24 h25 (P_Reader_readProduct_3_k3_1_70 F z h dep)
            have f27 : (h25 3 3) = (h13 3 3) ∧ (h25 36 7) = (h13 36 7) ∧ (h25 1 1) = (h13 1 1) ∧ (h25 90 2) = (h13 90 2) ∧ (h25 0 10) = (h13 0 10) ∧ (h25 0 11) = (h13 0 11) ∧ (h25 0 12) = (h13 0 12) ∧ (h25 0 13) = (h13 0 13) ∧ (h25 3 1) = (h13 3 1) ∧ (h25 36 8) = (h13 36 8) ∧ (h25 46 3) = (h13 46 3) ∧ (h25 46 4) = (h13 46 4) ∧ (h25 49 4) = (h13 49 4) ∧ (h25 49 5) = (h13 49 5) ∧ (h25 64 0) = (h13 64 0) ∧ (h25 76 0) = (h13 76 0) := f23
            clear f23
            have e28 : h25 3 1 = 70 := by omega
            refine ov_blk (ls2 := [(0, ov_r 3), (1, ov_i dep), (2, ov_i x2), (3, ov_i x3)]) (st2 := [ov_i dep, ov_r 3]) (pc2 := 40) b_72_38_2 rfl rfl ?_
            refine ov_cV (as := [ov_i dep]) (st := []) (d2 := d - 1) d_72_40 lk_Reader_237 rfl (Nat.le_of_ble_eq_true rfl) (c := 6) (zb_3 I26) (zs_3 I26) ⟨by decide, rfl⟩ (by omega) (c_Reader_readPart_3_k3_1_70 k HE HP (d - 1) (by omega) U I26 (ov_kws hw (by decide +kernel)) dep e28 (by omega) (by omega)) ?_
            rintro _ z31 h32 ⟨v30, rfl, I33, f29⟩
            show ov_R u d ov_m72 43 [(0, ov_r 3), (1, ov_i dep), (2, ov_i x2), (3, ov_i x3)] [ov_i v30] z31 h32 (P_Reader_readProduct_3_k3_1_70 F z h dep)
            have f34 : (v30 = 0 ∧ 1 ≤ (h32 3 2) ∨ v30 = 1) ∧ (h32 36 7) = (h25 36 7) ∧ (h32 1 1) = (h25 1 1) ∧ (h32 90 2) = (h25 90 2) ∧ (h32 0 10) = (h25 0 10) ∧ (h32 0 11) = (h25 0 11) ∧ (h32 0 12) = (h25 0 12) ∧ (h32 0 13) = (h25 0 13) ∧ (h32 3 1) = (h25 3 1) ∧ (h32 36 8) = (h25 36 8) ∧ (h32 46 3) = (h25 46 3) ∧ (h32 46 4) = (h25 46 4) ∧ (h32 49 4) = (h25 49 4) ∧ (h32 49 5) = (h25 49 5) ∧ (h32 64 0) = (h25 64 0) ∧ (h32 76 0) = (h25 76 0) := f29
            clear f29
            have e35 : h32 3 1 = 70 := by omega
            refine ov_blk (ls2 := [(0, ov_r 3), (1, ov_i dep), (2, ov_i v30), (3, ov_i x3)]) (st2 := [ov_r 3]) (pc2 := 45) b_72_43_2 rfl rfl ?_
            refine ov_getf (v := ov_r 70) d_72_45 fl_Reader_15 (zb_3 I33) (zs_3 I33) (congrArg ov_r e35) ?_
            refine ov_blk (ls2 := [(0, ov_r 3), (1, ov_i dep), (2, ov_i v30), (3, ov_i x3)]) (st2 := [ov_i 7, ov_r 70]) (pc2 := 50) b_72_48_1 rfl rfl ?_
            refine ov_cV (as := [ov_i 7]) (st := []) (d2 := d - 1) d_72_50 lk_Reader_224 rfl (Nat.le_of_ble_eq_true rfl) (c := 9) (zb_70 I33) (zs_70 I33) ⟨by decide, rfl⟩ (by omega) (c_Town_addCode_70 (d - 1) (by omega) U I33 (ov_kws hw (by decide +kernel)) 7 (by omega)) ?_
            rintro _ z37 h38 ⟨rfl, I39, f36⟩
            show ov_R u d ov_m72 53 [(0, ov_r 3), (1, ov_i dep), (2, ov_i v30), (3, ov_i x3)] [] z37 h38 (P_Reader_readProduct_3_k3_1_70 F z h dep)
            have f40 : (h38 3 2) = (h32 3 2) ∧ (h38 36 7) = (h32 36 7) ∧ (h38 1 1) = (h32 1 1) ∧ (h38 90 2) = (h32 90 2) ∧ (h38 0 10) = (h32 0 10) ∧ (h38 0 11) = (h32 0 11) ∧ (h38 0 12) = (h32 0 12) ∧ (h38 0 13) = (h32 0 13) ∧ (h38 3 1) = (h32 3 1) ∧ (h38 36 8) = (h32 36 8) ∧ (h38 46 3) = (h32 46 3) ∧ (h38 46 4) = (h32 46 4) ∧ (h38 49 4) = (h32 49 4) ∧ (h38 49 5) = (h32 49 5) ∧ (h38 64 0) = (h32 64 0) ∧ (h38 76 0) = (h32 76 0) := f36
            clear f36
            have e41 : h38 3 1 = 70 := by omega
            refine ov_blk (ls2 := [(0, ov_r 3), (1, ov_i dep), (2, ov_i v30), (3, ov_i (x3 + 1))]) (st2 := []) (pc2 := 56) b_72_53_1 rfl rfl ?_
            refine ov_goto (tgt := 8) d_72_56 (by decide) ?_
            exact ih9 v30 (x3 + 1) _ _ I39 (by show (v30 = 0 ∧ 1 ≤ (h38 3 2) ∨ v30 = 1) ∧ 0 ≤ (x3 + 1) ∧ (x3 + 1) ≤ 1000 ∧ (h38 36 7) = (h 36 7) ∧ (h38 1 1) = (h 1 1) ∧ (h38 90 2) = (h 90 2) ∧ (h38 0 10) = (h 0 10) ∧ (h38 0 11) = (h 0 11) ∧ (h38 0 12) = (h 0 12) ∧ (h38 0 13) = (h 0 13) ∧ (h38 3 1) = (h 3 1) ∧ (h38 36 8) = (h 36 8) ∧ (h38 46 3) = (h 46 3) ∧ (h38 46 4) = (h 46 4) ∧ (h38 49 4) = (h 49 4) ∧ (h38 49 5) = (h 49 5) ∧ (h38 64 0) = (h 64 0) ∧ (h38 76 0) = (h 76 0) ∧ (h38 3 1) = 70; omega) (by omega)
  exact L11 1001 v2 0 _ _ I5 (by show (v2 = 0 ∧ 1 ≤ (h4 3 2) ∨ v2 = 1) ∧ 0 ≤ 0 ∧ 0 ≤ 1000 ∧ (h4 36 7) = (h 36 7) ∧ (h4 1 1) = (h 1 1) ∧ (h4 90 2) = (h 90 2) ∧ (h4 0 10) = (h 0 10) ∧ (h4 0 11) = (h 0 11) ∧ (h4 0 12) = (h 0 12) ∧ (h4 0 13) = (h 0 13) ∧ (h4 3 1) = (h 3 1) ∧ (h4 36 8) = (h 36 8) ∧ (h4 46 3) = (h 46 3) ∧ (h4 46 4) = (h 46 4) ∧ (h4 49 4) = (h 49 4) ∧ (h4 49 5) = (h 49 5) ∧ (h4 64 0) = (h 64 0) ∧ (h4 76 0) = (h 76 0) ∧ (h4 3 1) = 70; omega) (by omega)
set_option maxHeartbeats 4000000 in
theorem c_Reader_readSum_3_k3_1_70 {u : ov_U} {F : ov_H} (k : Nat) (HE : ∀ k' : Nat, k' + 1 = k → ∀ {z : ov_Z} {h : ov_H} (d : Nat) (hd : (10 + 5 * k' + 4) ≤ d) (U : ov_cap u) (I : ov_I F z h) (hw : ov_kw 1210106411235346586009610 F) (dep : Int) (k0 : h 3 1 = 70) (g_dep : ov_g dep) (p0 : 0 ≤ dep ∧ dep + (k' : Int) = 5), ov_T u d ov_m69 [ov_r 3, ov_i dep] z h (P_Reader_readExpression_3_k3_1_70 F z h dep)) (HP : ∀ k' : Nat, k' + 1 = k → ∀ {z : ov_Z} {h : ov_H} (d : Nat) (hd : (10 + 5 * k' + 0) ≤ d) (U : ov_cap u) (I : ov_I F z h) (hw : ov_kw 1210106411235346586009610 F) (dep : Int) (k0 : h 3 1 = 70) (g_dep : ov_g dep) (p0 : 0 ≤ dep ∧ dep + (k' : Int) = 5), ov_T u d ov_m73 [ov_r 3, ov_i dep] z h (P_Reader_readPart_3_k3_1_70 F z h dep)) {z : ov_Z} {h : ov_H} (d : Nat) (hd : (10 + 5 * k + 2) ≤ d) (U : ov_cap u) (I : ov_I F z h) (hw : ov_kw 1210106411235346586009610 F) (dep : Int) (k0 : h 3 1 = 70) (g_dep : ov_g dep) (p0 : 0 ≤ dep ∧ dep + (k : Int) = 5) : ov_T u d ov_m71 [ov_r 3, ov_i dep] z h (P_Reader_readSum_3_k3_1_70 F z h dep) := by
  refine ov_en rfl (Nat.le_of_ble_eq_true rfl) ?_
  show ov_R u d ov_m71 0 [(0, ov_r 3), (1, ov_i dep)] [] z h (P_Reader_readSum_3_k3_1_70 F z h dep)
  refine ov_blk (ls2 := [(0, ov_r 3), (1, ov_i dep)]) (st2 := [ov_i dep, ov_r 3]) (pc2 := 2) b_71_0_2 rfl rfl ?_
  refine ov_cV (as := [ov_i dep]) (st := []) (d2 := d - 1) d_71_2 lk_Reader_234 rfl (Nat.le_of_ble_eq_true rfl) (c := 6) (zb_3 I) (zs_3 I) ⟨by decide, rfl⟩ (by omega) (c_Reader_readProduct_3_k3_1_70 k HE HP (d - 1) (by omega) U I (ov_kws hw (by decide +kernel)) dep k0 (by omega) (by omega)) ?_
  rintro _ z3 h4 ⟨v2, rfl, I5, f1⟩
  show ov_R u d ov_m71 5 [(0, ov_r 3), (1, ov_i dep)] [ov_i v2] z3 h4 (P_Reader_readSum_3_k3_1_70 F z h dep)
  have f6 : (v2 = 0 ∧ 1 ≤ (h4 3 2) ∨ v2 = 1) ∧ (h4 36 7) = (h 36 7) ∧ (h4 1 1) = (h 1 1) ∧ (h4 90 2) = (h 90 2) ∧ (h4 0 10) = (h 0 10) ∧ (h4 0 11) = (h 0 11) ∧ (h4 0 12) = (h 0 12) ∧ (h4 0 13) = (h 0 13) ∧ (h4 3 1) = (h 3 1) ∧ (h4 36 8) = (h 36 8) ∧ (h4 46 3) = (h 46 3) ∧ (h4 46 4) = (h 46 4) ∧ (h4 49 4) = (h 49 4) ∧ (h4 49 5) = (h 49 5) ∧ (h4 64 0) = (h 64 0) ∧ (h4 76 0) = (h 76 0) := f1
  clear f1
  have e7 : h4 3 1 = 70 := by omega
  refine ov_blk (ls2 := [(0, ov_r 3), (1, ov_i dep), (2, ov_i v2), (3, ov_i 0)]) (st2 := []) (pc2 := 8) b_71_5_3 rfl rfl ?_
  have L11 : ∀ (n8 : Nat) (x2 : Int) (x3 : Int) (z12 : ov_Z) (h13 : ov_H) (I14 : ov_I F z12 h13) (q10 : (x2 = 0 ∧ 1 ≤ (h13 3 2) ∨ x2 = 1) ∧ 0 ≤ x3 ∧ x3 ≤ 1000 ∧ (h13 36 7) = (h 36 7) ∧ (h13 1 1) = (h 1 1) ∧ (h13 90 2) = (h 90 2) ∧ (h13 0 10) = (h 0 10) ∧ (h13 0 11) = (h 0 11) ∧ (h13 0 12) = (h 0 12) ∧ (h13 0 13) = (h 0 13) ∧ (h13 3 1) = (h 3 1) ∧ (h13 36 8) = (h 36 8) ∧ (h13 46 3) = (h 46 3) ∧ (h13 46 4) = (h 46 4) ∧ (h13 49 4) = (h 49 4) ∧ (h13 49 5) = (h 49 5) ∧ (h13 64 0) = (h 64 0) ∧ (h13 76 0) = (h 76 0) ∧ h13 3 1 = 70), 1000 - x3 < (n8 : Int) → ov_R u d ov_m71 8 [(0, ov_r 3), (1, ov_i dep), (2, ov_i x2), (3, ov_i x3)] [] z12 h13 (P_Reader_readSum_3_k3_1_70 F z h dep) := by
    intro n8
    induction n8 with
    | zero =>
      intro x2 x3 z12 h13 I14 q10 hn15
      exact absurd hn15 (by omega)
    | succ n8 ih9 =>
      intro x2 x3 z12 h13 I14 q10 hn15
      have e16 : h13 3 1 = 70 := by omega
      refine ov_blk (ls2 := [(0, ov_r 3), (1, ov_i dep), (2, ov_i x2), (3, ov_i x3)]) (st2 := [ov_i 1000, ov_i x3]) (pc2 := 12) b_71_8_2 rfl rfl ?_
      refine ov_icge (tgt := 86) d_71_12 (by decide) (by omega) (by omega) (fun c17 => ?_) (fun c17 => ?_)
      · skip
        refine ov_blk (ls2 := [(0, ov_r 3), (1, ov_i dep), (2, ov_i x2), (3, ov_i x3)]) (st2 := [ov_i x2]) (pc2 := 87) b_71_86_1 rfl rfl ?_
        exact ov_retz (st := []) d_71_87 rfl (by omega) ⟨_, rfl, I14, (by show (x2 = 0 ∧ 1 ≤ (h13 3 2) ∨ x2 = 1) ∧ (h13 36 7) = (h 36 7) ∧ (h13 1 1) = (h 1 1) ∧ (h13 90 2) = (h 90 2) ∧ (h13 0 10) = (h 0 10) ∧ (h13 0 11) = (h 0 11) ∧ (h13 0 12) = (h 0 12) ∧ (h13 0 13) = (h 0 13) ∧ (h13 3 1) = (h 3 1) ∧ (h13 36 8) = (h 36 8) ∧ (h13 46 3) = (h 46 3) ∧ (h13 46 4) = (h 46 4) ∧ (h13 49 4) = (h 49 4) ∧ (h13 49 5) = (h 49 5) ∧ (h13 64 0) = (h 64 0) ∧ (h13 76 0) = (h 76 0); omega)⟩
      · skip
        refine ov_blk (ls2 := [(0, ov_r 3), (1, ov_i dep), (2, ov_i x2), (3, ov_i x3)]) (st2 := [ov_i x2]) (pc2 := 16) b_71_15_1 rfl rfl ?_
        refine ov_ifeq (tgt := 86) d_71_16 (by decide) (by omega) (fun c18 => ?_) (fun c18 => ?_)
        · skip
          refine ov_blk (ls2 := [(0, ov_r 3), (1, ov_i dep), (2, ov_i x2), (3, ov_i x3)]) (st2 := [ov_i x2]) (pc2 := 87) b_71_86_1 rfl rfl ?_
          exact ov_retz (st := []) d_71_87 rfl (by omega) ⟨_, rfl, I14, (by show (x2 = 0 ∧ 1 ≤ (h13 3 2) ∨ x2 = 1) ∧ (h13 36 7) = (h 36 7) ∧ (h13 1 1) = (h 1 1) ∧ (h13 90 2) = (h 90 2) ∧ (h13 0 10) = (h 0 10) ∧ (h13 0 11) = (h 0 11) ∧ (h13 0 12) = (h 0 12) ∧ (h13 0 13) = (h 0 13) ∧ (h13 3 1) = (h 3 1) ∧ (h13 36 8) = (h 36 8) ∧ (h13 46 3) = (h 46 3) ∧ (h13 46 4) = (h 46 4) ∧ (h13 49 4) = (h 49 4) ∧ (h13 49 5) = (h 49 5) ∧ (h13 64 0) = (h 64 0) ∧ (h13 76 0) = (h 76 0); omega)⟩
        · skip
          refine ov_blk (ls2 := [(0, ov_r 3), (1, ov_i dep), (2, ov_i x2), (3, ov_i x3)]) (st2 := [ov_r 3]) (pc2 := 20) b_71_19_1 rfl rfl ?_
          refine ov_getf (v := ov_r 1) d_71_20 fl_Reader_9 (zb_3 I14) (zs_3 I14) (congrArg ov_r (rg_3_0 I14)) ?_
          refine ov_blk (ls2 := [(0, ov_r 3), (1, ov_i dep), (2, ov_i x2), (3, ov_i x3)]) (st2 := [ov_i 43, ov_r 1]) (pc2 := 25) b_71_23_1 rfl rfl ?_
          refine ov_cV (as := [ov_i 43]) (st := []) (d2 := d - 1) d_71_25 lk_Reader_231 rfl (Nat.le_of_ble_eq_true rfl) (c := 8) (zb_1 I14) (zs_1 I14) ⟨by decide, rfl⟩ (by omega) (c_Tape_isSign_1 (d - 1) (by omega) U I14 43 (by omega)) ?_
          rintro _ _ _ ⟨v20, rfl, rfl, rfl, f19⟩
          show ov_R u d ov_m71 28 [(0, ov_r 3), (1, ov_i dep), (2, ov_i x2), (3, ov_i x3)] [ov_i v20] z12 h13 (P_Reader_readSum_3_k3_1_70 F z h dep)
          have f21 : (v20 = 0 ∨ v20 = 1) := f19
          clear f19
          refine ov_blk (ls2 := [(0, ov_r 3), (1, ov_i dep), (2, ov_i x2), (3, ov_i x3), (4, ov_i v20)]) (st2 := [ov_i v20]) (pc2 := 32) b_71_28_2 rfl rfl ?_
          refine ov_ifne (tgt := 49) d_71_32 (by decide) (by omega) (fun c22 => ?_) (fun c22 => ?_)
          · skip
            refine ov_blk (ls2 := [(0, ov_r 3), (1, ov_i dep), (2, ov_i x2), (3, ov_i x3), (4, ov_i v20)]) (st2 := [ov_r 3]) (pc2 := 50) b_71_49_1 rfl rfl ?_
            refine ov_getf (v := ov_r 1) d_71_50 fl_Reader_9 (zb_3 I14) (zs_3 I14) (congrArg ov_r (rg_3_0 I14)) ?_
            refine ov_cV (as := []) (st := []) (d2 := d - 1) d_71_53 lk_Reader_75 rfl (Nat.le_of_ble_eq_true rfl) (c := 8) (zb_1 I14) (zs_1 I14) ⟨by decide, rfl⟩ (by omega) (c_Tape_advance_1 (d - 1) (by omega) U I14 (ov_kws hw (by decide +kernel))) ?_
            rintro _ z24 h25 ⟨rfl, I26, f23⟩
            show ov_R u d ov_m71 56 [(0, ov_r 3), (1, ov_i dep), (2, ov_i x2), (3, ov_i x3), (4, ov_i v20)] [] z24 h25 (P_Reader_readSum_3_k3_1_70 F z h dep)
            have f27 : (h25 3 3) = (h13 3 3) ∧ (h25 36 7) = (h13 36 7) ∧ (h25 1 1) = (h13 1 1) ∧ (h25 90 2) = (h13 90 2) ∧ (h25 0 10) = (h13 0 10) ∧ (h25 0 11) = (h13 0 11) ∧ (h25 0 12) = (h13 0 12) ∧ (h25 0 13) = (h13 0 13) ∧ (h25 3 1) = (h13 3 1) ∧ (h25 36 8) = (h13 36 8) ∧ (h25 46 3) = (h13 46 3) ∧ (h25 46 4) = (h13 46 4) ∧ (h25 49 4) = (h13 49 4) ∧ (h25 49 5) = (h13 49 5) ∧ (h25 64 0) = (h13 64 0) ∧ (h25 76 0) = (h13 76 0) := f23
            clear f23
            have e28 : h25 3 1 = 70 := by omega
            refine ov_blk (ls2 := [(0, ov_r 3), (1, ov_i dep), (2, ov_i x2), (3, ov_i x3), (4, ov_i v20)]) (st2 := [ov_i dep, ov_r 3]) (pc2 := 58) b_71_56_2 rfl rfl ?_
            refine ov_cV (as := [ov_i dep]) (st := []) (d2 := d - 1) d_71_58 lk_Reader_234 rfl (Nat.le_of_ble_eq_true rfl) (c := 6) (zb_3 I26) (zs_3 I26) ⟨by decide, rfl⟩ (by omega) (c_Reader_readProduct_3_k3_1_70 k HE HP (d - 1) (by omega) U I26 (ov_kws hw (by decide +kernel)) dep e28 (by omega) (by omega)) ?_
            rintro _ z31 h32 ⟨v30, rfl, I33, f29⟩
            show ov_R u d ov_m71 61 [(0, ov_r 3), (1, ov_i dep), (2, ov_i x2), (3, ov_i x3), (4, ov_i v20)] [ov_i v30] z31 h32 (P_Reader_readSum_3_k3_1_70 F z h dep)
            have f34 : (v30 = 0 ∧ 1 ≤ (h32 3 2) ∨ v30 = 1) ∧ (h32 36 7) = (h25 36 7) ∧ (h32 1 1) = (h25 1 1) ∧ (h32 90 2) = (h25 90 2) ∧ (h32 0 10) = (h25 0 10) ∧ (h32 0 11) = (h25 0 11) ∧ (h32 0 12) = (h25 0 12) ∧ (h32 0 13) = (h25 0 13) ∧ (h32 3 1) = (h25 3 1) ∧ (h32 36 8) = (h25 36 8) ∧ (h32 46 3) = (h25 46 3) ∧ (h32 46 4) = (h25 46 4) ∧ (h32 49 4) = (h25 49 4) ∧ (h32 49 5) = (h25 49 5) ∧ (h32 64 0) = (h25 64 0) ∧ (h32 76 0) = (h25 76 0) := f29
            clear f29
            have e35 : h32 3 1 = 70 := by omega
            refine ov_blk (ls2 := [(0, ov_r 3), (1, ov_i dep), (2, ov_i v30), (3, ov_i x3), (4, ov_i v20)]) (st2 := [ov_r 3]) (pc2 := 63) b_71_61_2 rfl rfl ?_
            refine ov_getf (v := ov_r 70) d_71_63 fl_Reader_15 (zb_3 I33) (zs_3 I33) (congrArg ov_r e35) ?_
            refine ov_blk (ls2 := [(0, ov_r 3), (1, ov_i dep), (2, ov_i v30), (3, ov_i x3), (4, ov_i v20)]) (st2 := [ov_i v20, ov_r 70]) (pc2 := 68) b_71_66_1 rfl rfl ?_
            refine ov_ifeq (tgt := 75) d_71_68 (by decide) (by omega) (fun c36 => ?_) (fun c36 => ?_)
            · skip
              refine ov_blk (ls2 := [(0, ov_r 3), (1, ov_i dep), (2, ov_i v30), (3, ov_i x3), (4, ov_i v20)]) (st2 := [ov_i 6, ov_r 70]) (pc2 := 77) b_71_75_1 rfl rfl ?_
              refine ov_cV (as := [ov_i 6]) (st := []) (d2 := d - 1) d_71_77 lk_Reader_224 rfl (Nat.le_of_ble_eq_true rfl) (c := 9) (zb_70 I33) (zs_70 I33) ⟨by decide, rfl⟩ (by omega) (c_Town_addCode_70 (d - 1) (by omega) U I33 (ov_kws hw (by decide +kernel)) 6 (by omega)) ?_
              rintro _ z38 h39 ⟨rfl, I40, f37⟩
              show ov_R u d ov_m71 80 [(0, ov_r 3), (1, ov_i dep), (2, ov_i v30), (3, ov_i x3), (4, ov_i v20)] [] z38 h39 (P_Reader_readSum_3_k3_1_70 F z h dep)
              have f41 : (h39 3 2) = (h32 3 2) ∧ (h39 36 7) = (h32 36 7) ∧ (h39 1 1) = (h32 1 1) ∧ (h39 90 2) = (h32 90 2) ∧ (h39 0 10) = (h32 0 10) ∧ (h39 0 11) = (h32 0 11) ∧ (h39 0 12) = (h32 0 12) ∧ (h39 0 13) = (h32 0 13) ∧ (h39 3 1) = (h32 3 1) ∧ (h39 36 8) = (h32 36 8) ∧ (h39 46 3) = (h32 46 3) ∧ (h39 46 4) = (h32 46 4) ∧ (h39 49 4) = (h32 49 4) ∧ (h39 49 5) = (h32 49 5) ∧ (h39 64 0) = (h32 64 0) ∧ (h39 76 0) = (h32 76 0) := f37
              clear f37
              have e42 : h39 3 1 = 70 := by omega
              refine ov_blk (ls2 := [(0, ov_r 3), (1, ov_i dep), (2, ov_i v30), (3, ov_i (x3 + 1)), (4, ov_i v20)]) (st2 := []) (pc2 := 83) b_71_80_1 rfl rfl ?_
              refine ov_goto (tgt := 8) d_71_83 (by decide) ?_
              refine ov_sub (ls2 := [(0, ov_r 3), (1, ov_i dep), (2, ov_i v30), (3, ov_i (x3 + 1))]) (List.Sublist.subset (by repeat (first | exact List.Sublist.refl _ | apply List.Sublist.cons_cons | apply List.Sublist.cons))) ?_
              exact ih9 v30 (x3 + 1) _ _ I40 (by show (v30 = 0 ∧ 1 ≤ (h39 3 2) ∨ v30 = 1) ∧ 0 ≤ (x3 + 1) ∧ (x3 + 1) ≤ 1000 ∧ (h39 36 7) = (h 36 7) ∧ (h39 1 1) = (h 1 1) ∧ (h39 90 2) = (h 90 2) ∧ (h39 0 10) = (h 0 10) ∧ (h39 0 11) = (h 0 11) ∧ (h39 0 12) = (h 0 12) ∧ (h39 0 13) = (h 0 13) ∧ (h39 3 1) = (h 3 1) ∧ (h39 36 8) = (h 36 8) ∧ (h39 46 3) = (h 46 3) ∧ (h39 46 4) = (h 46 4) ∧ (h39 49 4) = (h 49 4) ∧ (h39 49 5) = (h 49 5) ∧ (h39 64 0) = (h 64 0) ∧ (h39 76 0) = (h 76 0) ∧ (h39 3 1) = 70; omega) (by omega)
            · skip
              refine ov_blk (ls2 := [(0, ov_r 3), (1, ov_i dep), (2, ov_i v30), (3, ov_i x3), (4, ov_i v20)]) (st2 := [ov_i 5, ov_r 70]) (pc2 := 72) b_71_71_1 rfl rfl ?_
              refine ov_goto (tgt := 77) d_71_72 (by decide) ?_
              refine ov_cV (as := [ov_i 5]) (st := []) (d2 := d - 1) d_71_77 lk_Reader_224 rfl (Nat.le_of_ble_eq_true rfl) (c := 9) (zb_70 I33) (zs_70 I33) ⟨by decide, rfl⟩ (by omega) (c_Town_addCode_70 (d - 1) (by omega) U I33 (ov_kws hw (by decide +kernel)) 5 (by omega)) ?_
              rintro _ z44 h45 ⟨rfl, I46, f43⟩
              show ov_R u d ov_m71 80 [(0, ov_r 3), (1, ov_i dep), (2, ov_i v30), (3, ov_i x3), (4, ov_i v20)] [] z44 h45 (P_Reader_readSum_3_k3_1_70 F z h dep)
              have f47 : (h45 3 2) = (h32 3 2) ∧ (h45 36 7) = (h32 36 7) ∧ (h45 1 1) = (h32 1 1) ∧ (h45 90 2) = (h32 90 2) ∧ (h45 0 10) = (h32 0 10) ∧ (h45 0 11) = (h32 0 11) ∧ (h45 0 12) = (h32 0 12) ∧ (h45 0 13) = (h32 0 13) ∧ (h45 3 1) = (h32 3 1) ∧ (h45 36 8) = (h32 36 8) ∧ (h45 46 3) = (h32 46 3) ∧ (h45 46 4) = (h32 46 4) ∧ (h45 49 4) = (h32 49 4) ∧ (h45 49 5) = (h32 49 5) ∧ (h45 64 0) = (h32 64 0) ∧ (h45 76 0) = (h32 76 0) := f43
              clear f43
              have e48 : h45 3 1 = 70 := by omega
              refine ov_blk (ls2 := [(0, ov_r 3), (1, ov_i dep), (2, ov_i v30), (3, ov_i (x3 + 1)), (4, ov_i v20)]) (st2 := []) (pc2 := 83) b_71_80_1 rfl rfl ?_
              refine ov_goto (tgt := 8) d_71_83 (by decide) ?_
              refine ov_sub (ls2 := [(0, ov_r 3), (1, ov_i dep), (2, ov_i v30), (3, ov_i (x3 + 1))]) (List.Sublist.subset (by repeat (first | exact List.Sublist.refl _ | apply List.Sublist.cons_cons | apply List.Sublist.cons))) ?_
              exact ih9 v30 (x3 + 1) _ _ I46 (by show (v30 = 0 ∧ 1 ≤ (h45 3 2) ∨ v30 = 1) ∧ 0 ≤ (x3 + 1) ∧ (x3 + 1) ≤ 1000 ∧ (h45 36 7) = (h 36 7) ∧ (h45 1 1) = (h 1 1) ∧ (h45 90 2) = (h 90 2) ∧ (h45 0 10) = (h 0 10) ∧ (h45 0 11) = (h 0 11) ∧ (h45 0 12) = (h 0 12) ∧ (h45 0 13) = (h 0 13) ∧ (h45 3 1) = (h 3 1) ∧ (h45 36 8) = (h 36 8) ∧ (h45 46 3) = (h 46 3) ∧ (h45 46 4) = (h 46 4) ∧ (h45 49 4) = (h 49 4) ∧ (h45 49 5) = (h 49 5) ∧ (h45 64 0) = (h 64 0) ∧ (h45 76 0) = (h 76 0) ∧ (h45 3 1) = 70; omega) (by omega)
          · skip
            refine ov_blk (ls2 := [(0, ov_r 3), (1, ov_i dep), (2, ov_i x2), (3, ov_i x3), (4, ov_i v20)]) (st2 := [ov_r 3]) (pc2 := 36) b_71_35_1 rfl rfl ?_
            refine ov_getf (v := ov_r 1) d_71_36 fl_Reader_9 (zb_3 I14) (zs_3 I14) (congrArg ov_r (rg_3_0 I14)) ?_
            refine ov_blk (ls2 := [(0, ov_r 3), (1, ov_i dep), (2, ov_i x2), (3, ov_i x3), (4, ov_i v20)]) (st2 := [ov_i 45, ov_r 1]) (pc2 := 41) b_71_39_1 rfl rfl ?_
            refine ov_cV (as := [ov_i 45]) (st := []) (d2 := d - 1) d_71_41 lk_Reader_231 rfl (Nat.le_of_ble_eq_true rfl) (c := 8) (zb_1 I14) (zs_1 I14) ⟨by decide, rfl⟩ (by omega) (c_Tape_isSign_1 (d - 1) (by omega) U I14 45 (by omega)) ?_
            rintro _ _ _ ⟨v50, rfl, rfl, rfl, f49⟩
            show ov_R u d ov_m71 44 [(0, ov_r 3), (1, ov_i dep), (2, ov_i x2), (3, ov_i x3), (4, ov_i v20)] [ov_i v50] z12 h13 (P_Reader_readSum_3_k3_1_70 F z h dep)
            have f51 : (v50 = 0 ∨ v50 = 1) := f49
            clear f49
            refine ov_ifne (tgt := 49) d_71_44 (by decide) (by omega) (fun c52 => ?_) (fun c52 => ?_)
            · skip
              refine ov_blk (ls2 := [(0, ov_r 3), (1, ov_i dep), (2, ov_i x2), (3, ov_i x3), (4, ov_i v20)]) (st2 := [ov_r 3]) (pc2 := 50) b_71_49_1 rfl rfl ?_
              refine ov_getf (v := ov_r 1) d_71_50 fl_Reader_9 (zb_3 I14) (zs_3 I14) (congrArg ov_r (rg_3_0 I14)) ?_
              refine ov_cV (as := []) (st := []) (d2 := d - 1) d_71_53 lk_Reader_75 rfl (Nat.le_of_ble_eq_true rfl) (c := 8) (zb_1 I14) (zs_1 I14) ⟨by decide, rfl⟩ (by omega) (c_Tape_advance_1 (d - 1) (by omega) U I14 (ov_kws hw (by decide +kernel))) ?_
              rintro _ z54 h55 ⟨rfl, I56, f53⟩
              show ov_R u d ov_m71 56 [(0, ov_r 3), (1, ov_i dep), (2, ov_i x2), (3, ov_i x3), (4, ov_i v20)] [] z54 h55 (P_Reader_readSum_3_k3_1_70 F z h dep)
              have f57 : (h55 3 3) = (h13 3 3) ∧ (h55 36 7) = (h13 36 7) ∧ (h55 1 1) = (h13 1 1) ∧ (h55 90 2) = (h13 90 2) ∧ (h55 0 10) = (h13 0 10) ∧ (h55 0 11) = (h13 0 11) ∧ (h55 0 12) = (h13 0 12) ∧ (h55 0 13) = (h13 0 13) ∧ (h55 3 1) = (h13 3 1) ∧ (h55 36 8) = (h13 36 8) ∧ (h55 46 3) = (h13 46 3) ∧ (h55 46 4) = (h13 46 4) ∧ (h55 49 4) = (h13 49 4) ∧ (h55 49 5) = (h13 49 5) ∧ (h55 64 0) = (h13 64 0) ∧ (h55 76 0) = (h13 76 0) := f53
              clear f53
              have e58 : h55 3 1 = 70 := by omega
              refine ov_blk (ls2 := [(0, ov_r 3), (1, ov_i dep), (2, ov_i x2), (3, ov_i x3), (4, ov_i v20)]) (st2 := [ov_i dep, ov_r 3]) (pc2 := 58) b_71_56_2 rfl rfl ?_
              refine ov_cV (as := [ov_i dep]) (st := []) (d2 := d - 1) d_71_58 lk_Reader_234 rfl (Nat.le_of_ble_eq_true rfl) (c := 6) (zb_3 I56) (zs_3 I56) ⟨by decide, rfl⟩ (by omega) (c_Reader_readProduct_3_k3_1_70 k HE HP (d - 1) (by omega) U I56 (ov_kws hw (by decide +kernel)) dep e58 (by omega) (by omega)) ?_
              rintro _ z61 h62 ⟨v60, rfl, I63, f59⟩
              show ov_R u d ov_m71 61 [(0, ov_r 3), (1, ov_i dep), (2, ov_i x2), (3, ov_i x3), (4, ov_i v20)] [ov_i v60] z61 h62 (P_Reader_readSum_3_k3_1_70 F z h dep)
              have f64 : (v60 = 0 ∧ 1 ≤ (h62 3 2) ∨ v60 = 1) ∧ (h62 36 7) = (h55 36 7) ∧ (h62 1 1) = (h55 1 1) ∧ (h62 90 2) = (h55 90 2) ∧ (h62 0 10) = (h55 0 10) ∧ (h62 0 11) = (h55 0 11) ∧ (h62 0 12) = (h55 0 12) ∧ (h62 0 13) = (h55 0 13) ∧ (h62 3 1) = (h55 3 1) ∧ (h62 36 8) = (h55 36 8) ∧ (h62 46 3) = (h55 46 3) ∧ (h62 46 4) = (h55 46 4) ∧ (h62 49 4) = (h55 49 4) ∧ (h62 49 5) = (h55 49 5) ∧ (h62 64 0) = (h55 64 0) ∧ (h62 76 0) = (h55 76 0) := f59
              clear f59
              have e65 : h62 3 1 = 70 := by omega
              refine ov_blk (ls2 := [(0, ov_r 3), (1, ov_i dep), (2, ov_i v60), (3, ov_i x3), (4, ov_i v20)]) (st2 := [ov_r 3]) (pc2 := 63) b_71_61_2 rfl rfl ?_
              refine ov_getf (v := ov_r 70) d_71_63 fl_Reader_15 (zb_3 I63) (zs_3 I63) (congrArg ov_r e65) ?_
              refine ov_blk (ls2 := [(0, ov_r 3), (1, ov_i dep), (2, ov_i v60), (3, ov_i x3), (4, ov_i v20)]) (st2 := [ov_i v20, ov_r 70]) (pc2 := 68) b_71_66_1 rfl rfl ?_
              refine ov_ifeq (tgt := 75) d_71_68 (by decide) (by omega) (fun c66 => ?_) (fun c66 => ?_)
              · skip
                refine ov_blk (ls2 := [(0, ov_r 3), (1, ov_i dep), (2, ov_i v60), (3, ov_i x3), (4, ov_i v20)]) (st2 := [ov_i 6, ov_r 70]) (pc2 := 77) b_71_75_1 rfl rfl ?_
                refine ov_cV (as := [ov_i 6]) (st := []) (d2 := d - 1) d_71_77 lk_Reader_224 rfl (Nat.le_of_ble_eq_true rfl) (c := 9) (zb_70 I63) (zs_70 I63) ⟨by decide, rfl⟩ (by omega) (c_Town_addCode_70 (d - 1) (by omega) U I63 (ov_kws hw (by decide +kernel)) 6 (by omega)) ?_
                rintro _ z68 h69 ⟨rfl, I70, f67⟩
                show ov_R u d ov_m71 80 [(0, ov_r 3), (1, ov_i dep), (2, ov_i v60), (3, ov_i x3), (4, ov_i v20)] [] z68 h69 (P_Reader_readSum_3_k3_1_70 F z h dep)
                have f71 : (h69 3 2) = (h62 3 2) ∧ (h69 36 7) = (h62 36 7) ∧ (h69 1 1) = (h62 1 1) ∧ (h69 90 2) = (h62 90 2) ∧ (h69 0 10) = (h62 0 10) ∧ (h69 0 11) = (h62 0 11) ∧ (h69 0 12) = (h62 0 12) ∧ (h69 0 13) = (h62 0 13) ∧ (h69 3 1) = (h62 3 1) ∧ (h69 36 8) = (h62 36 8) ∧ (h69 46 3) = (h62 46 3) ∧ (h69 46 4) = (h62 46 4) ∧ (h69 49 4) = (h62 49 4) ∧ (h69 49 5) = (h62 49 5) ∧ (h69 64 0) = (h62 64 0) ∧ (h69 76 0) = (h62 76 0) := f67
                clear f67
                have e72 : h69 3 1 = 70 := by omega
                refine ov_blk (ls2 := [(0, ov_r 3), (1, ov_i dep), (2, ov_i v60), (3, ov_i (x3 + 1)), (4, ov_i v20)]) (st2 := []) (pc2 := 83) b_71_80_1 rfl rfl ?_
                refine ov_goto (tgt := 8) d_71_83 (by decide) ?_
                refine ov_sub (ls2 := [(0, ov_r 3), (1, ov_i dep), (2, ov_i v60), (3, ov_i (x3 + 1))]) (List.Sublist.subset (by repeat (first | exact List.Sublist.refl _ | apply List.Sublist.cons_cons | apply List.Sublist.cons))) ?_
                exact ih9 v60 (x3 + 1) _ _ I70 (by show (v60 = 0 ∧ 1 ≤ (h69 3 2) ∨ v60 = 1) ∧ 0 ≤ (x3 + 1) ∧ (x3 + 1) ≤ 1000 ∧ (h69 36 7) = (h 36 7) ∧ (h69 1 1) = (h 1 1) ∧ (h69 90 2) = (h 90 2) ∧ (h69 0 10) = (h 0 10) ∧ (h69 0 11) = (h 0 11) ∧ (h69 0 12) = (h 0 12) ∧ (h69 0 13) = (h 0 13) ∧ (h69 3 1) = (h 3 1) ∧ (h69 36 8) = (h 36 8) ∧ (h69 46 3) = (h 46 3) ∧ (h69 46 4) = (h 46 4) ∧ (h69 49 4) = (h 49 4) ∧ (h69 49 5) = (h 49 5) ∧ (h69 64 0) = (h 64 0) ∧ (h69 76 0) = (h 76 0) ∧ (h69 3 1) = 70; omega) (by omega)
              · skip
                refine ov_blk (ls2 := [(0, ov_r 3), (1, ov_i dep), (2, ov_i v60), (3, ov_i x3), (4, ov_i v20)]) (st2 := [ov_i 5, ov_r 70]) (pc2 := 72) b_71_71_1 rfl rfl ?_
                refine ov_goto (tgt := 77) d_71_72 (by decide) ?_
                refine ov_cV (as := [ov_i 5]) (st := []) (d2 := d - 1) d_71_77 lk_Reader_224 rfl (Nat.le_of_ble_eq_true rfl) (c := 9) (zb_70 I63) (zs_70 I63) ⟨by decide, rfl⟩ (by omega) (c_Town_addCode_70 (d - 1) (by omega) U I63 (ov_kws hw (by decide +kernel)) 5 (by omega)) ?_
                rintro _ z74 h75 ⟨rfl, I76, f73⟩
                show ov_R u d ov_m71 80 [(0, ov_r 3), (1, ov_i dep), (2, ov_i v60), (3, ov_i x3), (4, ov_i v20)] [] z74 h75 (P_Reader_readSum_3_k3_1_70 F z h dep)
                have f77 : (h75 3 2) = (h62 3 2) ∧ (h75 36 7) = (h62 36 7) ∧ (h75 1 1) = (h62 1 1) ∧ (h75 90 2) = (h62 90 2) ∧ (h75 0 10) = (h62 0 10) ∧ (h75 0 11) = (h62 0 11) ∧ (h75 0 12) = (h62 0 12) ∧ (h75 0 13) = (h62 0 13) ∧ (h75 3 1) = (h62 3 1) ∧ (h75 36 8) = (h62 36 8) ∧ (h75 46 3) = (h62 46 3) ∧ (h75 46 4) = (h62 46 4) ∧ (h75 49 4) = (h62 49 4) ∧ (h75 49 5) = (h62 49 5) ∧ (h75 64 0) = (h62 64 0) ∧ (h75 76 0) = (h62 76 0) := f73
                clear f73
                have e78 : h75 3 1 = 70 := by omega
                refine ov_blk (ls2 := [(0, ov_r 3), (1, ov_i dep), (2, ov_i v60), (3, ov_i (x3 + 1)), (4, ov_i v20)]) (st2 := []) (pc2 := 83) b_71_80_1 rfl rfl ?_
                refine ov_goto (tgt := 8) d_71_83 (by decide) ?_
                refine ov_sub (ls2 := [(0, ov_r 3), (1, ov_i dep), (2, ov_i v60), (3, ov_i (x3 + 1))]) (List.Sublist.subset (by repeat (first | exact List.Sublist.refl _ | apply List.Sublist.cons_cons | apply List.Sublist.cons))) ?_
                exact ih9 v60 (x3 + 1) _ _ I76 (by show (v60 = 0 ∧ 1 ≤ (h75 3 2) ∨ v60 = 1) ∧ 0 ≤ (x3 + 1) ∧ (x3 + 1) ≤ 1000 ∧ (h75 36 7) = (h 36 7) ∧ (h75 1 1) = (h 1 1) ∧ (h75 90 2) = (h 90 2) ∧ (h75 0 10) = (h 0 10) ∧ (h75 0 11) = (h 0 11) ∧ (h75 0 12) = (h 0 12) ∧ (h75 0 13) = (h 0 13) ∧ (h75 3 1) = (h 3 1) ∧ (h75 36 8) = (h 36 8) ∧ (h75 46 3) = (h 46 3) ∧ (h75 46 4) = (h 46 4) ∧ (h75 49 4) = (h 49 4) ∧ (h75 49 5) = (h 49 5) ∧ (h75 64 0) = (h 64 0) ∧ (h75 76 0) = (h 76 0) ∧ (h75 3 1) = 70; omega) (by omega)
            · skip
              refine ov_blk (ls2 := [(0, ov_r 3), (1, ov_i dep), (2, ov_i x2), (3, ov_i x3), (4, ov_i v20)]) (st2 := [ov_i 1]) (pc2 := 48) b_71_47_1 rfl rfl ?_
              exact ov_retz (st := []) d_71_48 rfl (by omega) ⟨_, rfl, I14, (by show (1 = 0 ∧ 1 ≤ (h13 3 2) ∨ 1 = 1) ∧ (h13 36 7) = (h 36 7) ∧ (h13 1 1) = (h 1 1) ∧ (h13 90 2) = (h 90 2) ∧ (h13 0 10) = (h 0 10) ∧ (h13 0 11) = (h 0 11) ∧ (h13 0 12) = (h 0 12) ∧ (h13 0 13) = (h 0 13) ∧ (h13 3 1) = (h 3 1) ∧ (h13 36 8) = (h 36 8) ∧ (h13 46 3) = (h 46 3) ∧ (h13 46 4) = (h 46 4) ∧ (h13 49 4) = (h 49 4) ∧ (h13 49 5) = (h 49 5) ∧ (h13 64 0) = (h 64 0) ∧ (h13 76 0) = (h 76 0); omega)⟩
  exact L11 1001 v2 0 _ _ I5 (by show (v2 = 0 ∧ 1 ≤ (h4 3 2) ∨ v2 = 1) ∧ 0 ≤ 0 ∧ 0 ≤ 1000 ∧ (h4 36 7) = (h 36 7) ∧ (h4 1 1) = (h 1 1) ∧ (h4 90 2) = (h 90 2) ∧ (h4 0 10) = (h 0 10) ∧ (h4 0 11) = (h 0 11) ∧ (h4 0 12) = (h 0 12) ∧ (h4 0 13) = (h 0 13) ∧ (h4 3 1) = (h 3 1) ∧ (h4 36 8) = (h 36 8) ∧ (h4 46 3) = (h 46 3) ∧ (h4 46 4) = (h 46 4) ∧ (h4 49 4) = (h 49 4) ∧ (h4 49 5) = (h 49 5) ∧ (h4 64 0) = (h 64 0) ∧ (h4 76 0) = (h 76 0) ∧ (h4 3 1) = 70; omega) (by omega)
set_option maxHeartbeats 4000000 in
theorem c_Reader_readTest_3_k3_1_70 {u : ov_U} {F : ov_H} (k : Nat) (HE : ∀ k' : Nat, k' + 1 = k → ∀ {z : ov_Z} {h : ov_H} (d : Nat) (hd : (10 + 5 * k' + 4) ≤ d) (U : ov_cap u) (I : ov_I F z h) (hw : ov_kw 1210106411235346586009610 F) (dep : Int) (k0 : h 3 1 = 70) (g_dep : ov_g dep) (p0 : 0 ≤ dep ∧ dep + (k' : Int) = 5), ov_T u d ov_m69 [ov_r 3, ov_i dep] z h (P_Reader_readExpression_3_k3_1_70 F z h dep)) (HP : ∀ k' : Nat, k' + 1 = k → ∀ {z : ov_Z} {h : ov_H} (d : Nat) (hd : (10 + 5 * k' + 0) ≤ d) (U : ov_cap u) (I : ov_I F z h) (hw : ov_kw 1210106411235346586009610 F) (dep : Int) (k0 : h 3 1 = 70) (g_dep : ov_g dep) (p0 : 0 ≤ dep ∧ dep + (k' : Int) = 5), ov_T u d ov_m73 [ov_r 3, ov_i dep] z h (P_Reader_readPart_3_k3_1_70 F z h dep)) {z : ov_Z} {h : ov_H} (d : Nat) (hd : (10 + 5 * k + 3) ≤ d) (U : ov_cap u) (I : ov_I F z h) (hw : ov_kw 1210106411235346586009610 F) (dep : Int) (k0 : h 3 1 = 70) (g_dep : ov_g dep) (p0 : 0 ≤ dep ∧ dep + (k : Int) = 5) : ov_T u d ov_m70 [ov_r 3, ov_i dep] z h (P_Reader_readTest_3_k3_1_70 F z h dep) := by
  refine ov_en rfl (Nat.le_of_ble_eq_true rfl) ?_
  show ov_R u d ov_m70 0 [(0, ov_r 3), (1, ov_i dep)] [] z h (P_Reader_readTest_3_k3_1_70 F z h dep)
  refine ov_blk (ls2 := [(0, ov_r 3), (1, ov_i dep)]) (st2 := [ov_i dep, ov_r 3]) (pc2 := 2) b_70_0_2 rfl rfl ?_
  refine ov_cV (as := [ov_i dep]) (st := []) (d2 := d - 1) d_70_2 lk_Reader_228 rfl (Nat.le_of_ble_eq_true rfl) (c := 6) (zb_3 I) (zs_3 I) ⟨by decide, rfl⟩ (by omega) (c_Reader_readSum_3_k3_1_70 k HE HP (d - 1) (by omega) U I (ov_kws hw (by decide +kernel)) dep k0 (by omega) (by omega)) ?_
  rintro _ z3 h4 ⟨v2, rfl, I5, f1⟩
  show ov_R u d ov_m70 5 [(0, ov_r 3), (1, ov_i dep)] [ov_i v2] z3 h4 (P_Reader_readTest_3_k3_1_70 F z h dep)
  have f6 : (v2 = 0 ∧ 1 ≤ (h4 3 2) ∨ v2 = 1) ∧ (h4 36 7) = (h 36 7) ∧ (h4 1 1) = (h 1 1) ∧ (h4 90 2) = (h 90 2) ∧ (h4 0 10) = (h 0 10) ∧ (h4 0 11) = (h 0 11) ∧ (h4 0 12) = (h 0 12) ∧ (h4 0 13) = (h 0 13) ∧ (h4 3 1) = (h 3 1) ∧ (h4 36 8) = (h 36 8) ∧ (h4 46 3) = (h 46 3) ∧ (h4 46 4) = (h 46 4) ∧ (h4 49 4) = (h 49 4) ∧ (h4 49 5) = (h 49 5) ∧ (h4 64 0) = (h 64 0) ∧ (h4 76 0) = (h 76 0) := f1
  clear f1
  have e7 : h4 3 1 = 70 := by omega
  refine ov_ifne (tgt := 10) d_70_5 (by decide) (by omega) (fun c8 => ?_) (fun c8 => ?_)
  · skip
    refine ov_blk (ls2 := [(0, ov_r 3), (1, ov_i dep)]) (st2 := [ov_r 3]) (pc2 := 11) b_70_10_1 rfl rfl ?_
    refine ov_getf (v := ov_r 1) d_70_11 fl_Reader_9 (zb_3 I5) (zs_3 I5) (congrArg ov_r (rg_3_0 I5)) ?_
    refine ov_blk (ls2 := [(0, ov_r 3), (1, ov_i dep)]) (st2 := [ov_i 60, ov_r 1]) (pc2 := 16) b_70_14_1 rfl rfl ?_
    refine ov_cV (as := [ov_i 60]) (st := []) (d2 := d - 1) d_70_16 lk_Reader_231 rfl (Nat.le_of_ble_eq_true rfl) (c := 8) (zb_1 I5) (zs_1 I5) ⟨by decide, rfl⟩ (by omega) (c_Tape_isSign_1 (d - 1) (by omega) U I5 60 (by omega)) ?_
    rintro _ _ _ ⟨v10, rfl, rfl, rfl, f9⟩
    show ov_R u d ov_m70 19 [(0, ov_r 3), (1, ov_i dep)] [ov_i v10] z3 h4 (P_Reader_readTest_3_k3_1_70 F z h dep)
    have f11 : (v10 = 0 ∨ v10 = 1) := f9
    clear f9
    refine ov_blk (ls2 := [(0, ov_r 3), (1, ov_i dep), (2, ov_i v10)]) (st2 := [ov_i v10]) (pc2 := 21) b_70_19_2 rfl rfl ?_
    refine ov_ifne (tgt := 38) d_70_21 (by decide) (by omega) (fun c12 => ?_) (fun c12 => ?_)
    · skip
      refine ov_blk (ls2 := [(0, ov_r 3), (1, ov_i dep), (2, ov_i v10)]) (st2 := [ov_r 3]) (pc2 := 39) b_70_38_1 rfl rfl ?_
      refine ov_getf (v := ov_r 1) d_70_39 fl_Reader_9 (zb_3 I5) (zs_3 I5) (congrArg ov_r (rg_3_0 I5)) ?_
      refine ov_cV (as := []) (st := []) (d2 := d - 1) d_70_42 lk_Reader_75 rfl (Nat.le_of_ble_eq_true rfl) (c := 8) (zb_1 I5) (zs_1 I5) ⟨by decide, rfl⟩ (by omega) (c_Tape_advance_1 (d - 1) (by omega) U I5 (ov_kws hw (by decide +kernel))) ?_
      rintro _ z14 h15 ⟨rfl, I16, f13⟩
      show ov_R u d ov_m70 45 [(0, ov_r 3), (1, ov_i dep), (2, ov_i v10)] [] z14 h15 (P_Reader_readTest_3_k3_1_70 F z h dep)
      have f17 : (h15 3 3) = (h4 3 3) ∧ (h15 36 7) = (h4 36 7) ∧ (h15 1 1) = (h4 1 1) ∧ (h15 90 2) = (h4 90 2) ∧ (h15 0 10) = (h4 0 10) ∧ (h15 0 11) = (h4 0 11) ∧ (h15 0 12) = (h4 0 12) ∧ (h15 0 13) = (h4 0 13) ∧ (h15 3 1) = (h4 3 1) ∧ (h15 36 8) = (h4 36 8) ∧ (h15 46 3) = (h4 46 3) ∧ (h15 46 4) = (h4 46 4) ∧ (h15 49 4) = (h4 49 4) ∧ (h15 49 5) = (h4 49 5) ∧ (h15 64 0) = (h4 64 0) ∧ (h15 76 0) = (h4 76 0) := f13
      clear f13
      have e18 : h15 3 1 = 70 := by omega
      refine ov_blk (ls2 := [(0, ov_r 3), (1, ov_i dep), (2, ov_i v10)]) (st2 := [ov_i dep, ov_r 3]) (pc2 := 47) b_70_45_2 rfl rfl ?_
      refine ov_cV (as := [ov_i dep]) (st := []) (d2 := d - 1) d_70_47 lk_Reader_228 rfl (Nat.le_of_ble_eq_true rfl) (c := 6) (zb_3 I16) (zs_3 I16) ⟨by decide, rfl⟩ (by omega) (c_Reader_readSum_3_k3_1_70 k HE HP (d - 1) (by omega) U I16 (ov_kws hw (by decide +kernel)) dep e18 (by omega) (by omega)) ?_
      rintro _ z21 h22 ⟨v20, rfl, I23, f19⟩
      show ov_R u d ov_m70 50 [(0, ov_r 3), (1, ov_i dep), (2, ov_i v10)] [ov_i v20] z21 h22 (P_Reader_readTest_3_k3_1_70 F z h dep)
      have f24 : (v20 = 0 ∧ 1 ≤ (h22 3 2) ∨ v20 = 1) ∧ (h22 36 7) = (h15 36 7) ∧ (h22 1 1) = (h15 1 1) ∧ (h22 90 2) = (h15 90 2) ∧ (h22 0 10) = (h15 0 10) ∧ (h22 0 11) = (h15 0 11) ∧ (h22 0 12) = (h15 0 12) ∧ (h22 0 13) = (h15 0 13) ∧ (h22 3 1) = (h15 3 1) ∧ (h22 36 8) = (h15 36 8) ∧ (h22 46 3) = (h15 46 3) ∧ (h22 46 4) = (h15 46 4) ∧ (h22 49 4) = (h15 49 4) ∧ (h22 49 5) = (h15 49 5) ∧ (h22 64 0) = (h15 64 0) ∧ (h22 76 0) = (h15 76 0) := f19
      clear f19
      have e25 : h22 3 1 = 70 := by omega
      refine ov_blk (ls2 := [(0, ov_r 3), (1, ov_i dep), (2, ov_i v10), (3, ov_i v20)]) (st2 := [ov_r 3]) (pc2 := 52) b_70_50_2 rfl rfl ?_
      refine ov_getf (v := ov_r 70) d_70_52 fl_Reader_15 (zb_3 I23) (zs_3 I23) (congrArg ov_r e25) ?_
      refine ov_blk (ls2 := [(0, ov_r 3), (1, ov_i dep), (2, ov_i v10), (3, ov_i v20)]) (st2 := [ov_i v10, ov_r 70]) (pc2 := 56) b_70_55_1 rfl rfl ?_
      refine ov_ifeq (tgt := 63) d_70_56 (by decide) (by omega) (fun c26 => ?_) (fun c26 => ?_)
      · skip
        refine ov_blk (ls2 := [(0, ov_r 3), (1, ov_i dep), (2, ov_i v10), (3, ov_i v20)]) (st2 := [ov_i 4, ov_r 70]) (pc2 := 64) b_70_63_1 rfl rfl ?_
        refine ov_cV (as := [ov_i 4]) (st := []) (d2 := d - 1) d_70_64 lk_Reader_224 rfl (Nat.le_of_ble_eq_true rfl) (c := 9) (zb_70 I23) (zs_70 I23) ⟨by decide, rfl⟩ (by omega) (c_Town_addCode_70 (d - 1) (by omega) U I23 (ov_kws hw (by decide +kernel)) 4 (by omega)) ?_
        rintro _ z28 h29 ⟨rfl, I30, f27⟩
        show ov_R u d ov_m70 67 [(0, ov_r 3), (1, ov_i dep), (2, ov_i v10), (3, ov_i v20)] [] z28 h29 (P_Reader_readTest_3_k3_1_70 F z h dep)
        have f31 : (h29 3 2) = (h22 3 2) ∧ (h29 36 7) = (h22 36 7) ∧ (h29 1 1) = (h22 1 1) ∧ (h29 90 2) = (h22 90 2) ∧ (h29 0 10) = (h22 0 10) ∧ (h29 0 11) = (h22 0 11) ∧ (h29 0 12) = (h22 0 12) ∧ (h29 0 13) = (h22 0 13) ∧ (h29 3 1) = (h22 3 1) ∧ (h29 36 8) = (h22 36 8) ∧ (h29 46 3) = (h22 46 3) ∧ (h29 46 4) = (h22 46 4) ∧ (h29 49 4) = (h22 49 4) ∧ (h29 49 5) = (h22 49 5) ∧ (h29 64 0) = (h22 64 0) ∧ (h29 76 0) = (h22 76 0) := f27
        clear f27
        have e32 : h29 3 1 = 70 := by omega
        refine ov_blk (ls2 := [(0, ov_r 3), (1, ov_i dep), (2, ov_i v10), (3, ov_i v20)]) (st2 := [ov_i v20]) (pc2 := 68) b_70_67_1 rfl rfl ?_
        exact ov_retz (st := []) d_70_68 rfl (by omega) ⟨_, rfl, I30, (by show (v20 = 0 ∧ 1 ≤ (h29 3 2) ∨ v20 = 1) ∧ (h29 36 7) = (h 36 7) ∧ (h29 1 1) = (h 1 1) ∧ (h29 90 2) = (h 90 2) ∧ (h29 0 10) = (h 0 10) ∧ (h29 0 11) = (h 0 11) ∧ (h29 0 12) = (h 0 12) ∧ (h29 0 13) = (h 0 13) ∧ (h29 3 1) = (h 3 1) ∧ (h29 36 8) = (h 36 8) ∧ (h29 46 3) = (h 46 3) ∧ (h29 46 4) = (h 46 4) ∧ (h29 49 4) = (h 49 4) ∧ (h29 49 5) = (h 49 5) ∧ (h29 64 0) = (h 64 0) ∧ (h29 76 0) = (h 76 0); omega)⟩
      · skip
        refine ov_blk (ls2 := [(0, ov_r 3), (1, ov_i dep), (2, ov_i v10), (3, ov_i v20)]) (st2 := [ov_i 3, ov_r 70]) (pc2 := 60) b_70_59_1 rfl rfl ?_
        refine ov_goto (tgt := 64) d_70_60 (by decide) ?_
        refine ov_cV (as := [ov_i 3]) (st := []) (d2 := d - 1) d_70_64 lk_Reader_224 rfl (Nat.le_of_ble_eq_true rfl) (c := 9) (zb_70 I23) (zs_70 I23) ⟨by decide, rfl⟩ (by omega) (c_Town_addCode_70 (d - 1) (by omega) U I23 (ov_kws hw (by decide +kernel)) 3 (by omega)) ?_
        rintro _ z34 h35 ⟨rfl, I36, f33⟩
        show ov_R u d ov_m70 67 [(0, ov_r 3), (1, ov_i dep), (2, ov_i v10), (3, ov_i v20)] [] z34 h35 (P_Reader_readTest_3_k3_1_70 F z h dep)
        have f37 : (h35 3 2) = (h22 3 2) ∧ (h35 36 7) = (h22 36 7) ∧ (h35 1 1) = (h22 1 1) ∧ (h35 90 2) = (h22 90 2) ∧ (h35 0 10) = (h22 0 10) ∧ (h35 0 11) = (h22 0 11) ∧ (h35 0 12) = (h22 0 12) ∧ (h35 0 13) = (h22 0 13) ∧ (h35 3 1) = (h22 3 1) ∧ (h35 36 8) = (h22 36 8) ∧ (h35 46 3) = (h22 46 3) ∧ (h35 46 4) = (h22 46 4) ∧ (h35 49 4) = (h22 49 4) ∧ (h35 49 5) = (h22 49 5) ∧ (h35 64 0) = (h22 64 0) ∧ (h35 76 0) = (h22 76 0) := f33
        clear f33
        have e38 : h35 3 1 = 70 := by omega
        refine ov_blk (ls2 := [(0, ov_r 3), (1, ov_i dep), (2, ov_i v10), (3, ov_i v20)]) (st2 := [ov_i v20]) (pc2 := 68) b_70_67_1 rfl rfl ?_
        exact ov_retz (st := []) d_70_68 rfl (by omega) ⟨_, rfl, I36, (by show (v20 = 0 ∧ 1 ≤ (h35 3 2) ∨ v20 = 1) ∧ (h35 36 7) = (h 36 7) ∧ (h35 1 1) = (h 1 1) ∧ (h35 90 2) = (h 90 2) ∧ (h35 0 10) = (h 0 10) ∧ (h35 0 11) = (h 0 11) ∧ (h35 0 12) = (h 0 12) ∧ (h35 0 13) = (h 0 13) ∧ (h35 3 1) = (h 3 1) ∧ (h35 36 8) = (h 36 8) ∧ (h35 46 3) = (h 46 3) ∧ (h35 46 4) = (h 46 4) ∧ (h35 49 4) = (h 49 4) ∧ (h35 49 5) = (h 49 5) ∧ (h35 64 0) = (h 64 0) ∧ (h35 76 0) = (h 76 0); omega)⟩
    · skip
      refine ov_blk (ls2 := [(0, ov_r 3), (1, ov_i dep), (2, ov_i v10)]) (st2 := [ov_r 3]) (pc2 := 25) b_70_24_1 rfl rfl ?_
      refine ov_getf (v := ov_r 1) d_70_25 fl_Reader_9 (zb_3 I5) (zs_3 I5) (congrArg ov_r (rg_3_0 I5)) ?_
      refine ov_blk (ls2 := [(0, ov_r 3), (1, ov_i dep), (2, ov_i v10)]) (st2 := [ov_i 61, ov_r 1]) (pc2 := 30) b_70_28_1 rfl rfl ?_
      refine ov_cV (as := [ov_i 61]) (st := []) (d2 := d - 1) d_70_30 lk_Reader_231 rfl (Nat.le_of_ble_eq_true rfl) (c := 8) (zb_1 I5) (zs_1 I5) ⟨by decide, rfl⟩ (by omega) (c_Tape_isSign_1 (d - 1) (by omega) U I5 61 (by omega)) ?_
      rintro _ _ _ ⟨v40, rfl, rfl, rfl, f39⟩
      show ov_R u d ov_m70 33 [(0, ov_r 3), (1, ov_i dep), (2, ov_i v10)] [ov_i v40] z3 h4 (P_Reader_readTest_3_k3_1_70 F z h dep)
      have f41 : (v40 = 0 ∨ v40 = 1) := f39
      clear f39
      refine ov_ifne (tgt := 38) d_70_33 (by decide) (by omega) (fun c42 => ?_) (fun c42 => ?_)
      · skip
        refine ov_blk (ls2 := [(0, ov_r 3), (1, ov_i dep), (2, ov_i v10)]) (st2 := [ov_r 3]) (pc2 := 39) b_70_38_1 rfl rfl ?_
        refine ov_getf (v := ov_r 1) d_70_39 fl_Reader_9 (zb_3 I5) (zs_3 I5) (congrArg ov_r (rg_3_0 I5)) ?_
        refine ov_cV (as := []) (st := []) (d2 := d - 1) d_70_42 lk_Reader_75 rfl (Nat.le_of_ble_eq_true rfl) (c := 8) (zb_1 I5) (zs_1 I5) ⟨by decide, rfl⟩ (by omega) (c_Tape_advance_1 (d - 1) (by omega) U I5 (ov_kws hw (by decide +kernel))) ?_
        rintro _ z44 h45 ⟨rfl, I46, f43⟩
        show ov_R u d ov_m70 45 [(0, ov_r 3), (1, ov_i dep), (2, ov_i v10)] [] z44 h45 (P_Reader_readTest_3_k3_1_70 F z h dep)
        have f47 : (h45 3 3) = (h4 3 3) ∧ (h45 36 7) = (h4 36 7) ∧ (h45 1 1) = (h4 1 1) ∧ (h45 90 2) = (h4 90 2) ∧ (h45 0 10) = (h4 0 10) ∧ (h45 0 11) = (h4 0 11) ∧ (h45 0 12) = (h4 0 12) ∧ (h45 0 13) = (h4 0 13) ∧ (h45 3 1) = (h4 3 1) ∧ (h45 36 8) = (h4 36 8) ∧ (h45 46 3) = (h4 46 3) ∧ (h45 46 4) = (h4 46 4) ∧ (h45 49 4) = (h4 49 4) ∧ (h45 49 5) = (h4 49 5) ∧ (h45 64 0) = (h4 64 0) ∧ (h45 76 0) = (h4 76 0) := f43
        clear f43
        have e48 : h45 3 1 = 70 := by omega
        refine ov_blk (ls2 := [(0, ov_r 3), (1, ov_i dep), (2, ov_i v10)]) (st2 := [ov_i dep, ov_r 3]) (pc2 := 47) b_70_45_2 rfl rfl ?_
        refine ov_cV (as := [ov_i dep]) (st := []) (d2 := d - 1) d_70_47 lk_Reader_228 rfl (Nat.le_of_ble_eq_true rfl) (c := 6) (zb_3 I46) (zs_3 I46) ⟨by decide, rfl⟩ (by omega) (c_Reader_readSum_3_k3_1_70 k HE HP (d - 1) (by omega) U I46 (ov_kws hw (by decide +kernel)) dep e48 (by omega) (by omega)) ?_
        rintro _ z51 h52 ⟨v50, rfl, I53, f49⟩
        show ov_R u d ov_m70 50 [(0, ov_r 3), (1, ov_i dep), (2, ov_i v10)] [ov_i v50] z51 h52 (P_Reader_readTest_3_k3_1_70 F z h dep)
        have f54 : (v50 = 0 ∧ 1 ≤ (h52 3 2) ∨ v50 = 1) ∧ (h52 36 7) = (h45 36 7) ∧ (h52 1 1) = (h45 1 1) ∧ (h52 90 2) = (h45 90 2) ∧ (h52 0 10) = (h45 0 10) ∧ (h52 0 11) = (h45 0 11) ∧ (h52 0 12) = (h45 0 12) ∧ (h52 0 13) = (h45 0 13) ∧ (h52 3 1) = (h45 3 1) ∧ (h52 36 8) = (h45 36 8) ∧ (h52 46 3) = (h45 46 3) ∧ (h52 46 4) = (h45 46 4) ∧ (h52 49 4) = (h45 49 4) ∧ (h52 49 5) = (h45 49 5) ∧ (h52 64 0) = (h45 64 0) ∧ (h52 76 0) = (h45 76 0) := f49
        clear f49
        have e55 : h52 3 1 = 70 := by omega
        refine ov_blk (ls2 := [(0, ov_r 3), (1, ov_i dep), (2, ov_i v10), (3, ov_i v50)]) (st2 := [ov_r 3]) (pc2 := 52) b_70_50_2 rfl rfl ?_
        refine ov_getf (v := ov_r 70) d_70_52 fl_Reader_15 (zb_3 I53) (zs_3 I53) (congrArg ov_r e55) ?_
        refine ov_blk (ls2 := [(0, ov_r 3), (1, ov_i dep), (2, ov_i v10), (3, ov_i v50)]) (st2 := [ov_i v10, ov_r 70]) (pc2 := 56) b_70_55_1 rfl rfl ?_
        refine ov_ifeq (tgt := 63) d_70_56 (by decide) (by omega) (fun c56 => ?_) (fun c56 => ?_)
        · skip
          refine ov_blk (ls2 := [(0, ov_r 3), (1, ov_i dep), (2, ov_i v10), (3, ov_i v50)]) (st2 := [ov_i 4, ov_r 70]) (pc2 := 64) b_70_63_1 rfl rfl ?_
          refine ov_cV (as := [ov_i 4]) (st := []) (d2 := d - 1) d_70_64 lk_Reader_224 rfl (Nat.le_of_ble_eq_true rfl) (c := 9) (zb_70 I53) (zs_70 I53) ⟨by decide, rfl⟩ (by omega) (c_Town_addCode_70 (d - 1) (by omega) U I53 (ov_kws hw (by decide +kernel)) 4 (by omega)) ?_
          rintro _ z58 h59 ⟨rfl, I60, f57⟩
          show ov_R u d ov_m70 67 [(0, ov_r 3), (1, ov_i dep), (2, ov_i v10), (3, ov_i v50)] [] z58 h59 (P_Reader_readTest_3_k3_1_70 F z h dep)
          have f61 : (h59 3 2) = (h52 3 2) ∧ (h59 36 7) = (h52 36 7) ∧ (h59 1 1) = (h52 1 1) ∧ (h59 90 2) = (h52 90 2) ∧ (h59 0 10) = (h52 0 10) ∧ (h59 0 11) = (h52 0 11) ∧ (h59 0 12) = (h52 0 12) ∧ (h59 0 13) = (h52 0 13) ∧ (h59 3 1) = (h52 3 1) ∧ (h59 36 8) = (h52 36 8) ∧ (h59 46 3) = (h52 46 3) ∧ (h59 46 4) = (h52 46 4) ∧ (h59 49 4) = (h52 49 4) ∧ (h59 49 5) = (h52 49 5) ∧ (h59 64 0) = (h52 64 0) ∧ (h59 76 0) = (h52 76 0) := f57
          clear f57
          have e62 : h59 3 1 = 70 := by omega
          refine ov_blk (ls2 := [(0, ov_r 3), (1, ov_i dep), (2, ov_i v10), (3, ov_i v50)]) (st2 := [ov_i v50]) (pc2 := 68) b_70_67_1 rfl rfl ?_
          exact ov_retz (st := []) d_70_68 rfl (by omega) ⟨_, rfl, I60, (by show (v50 = 0 ∧ 1 ≤ (h59 3 2) ∨ v50 = 1) ∧ (h59 36 7) = (h 36 7) ∧ (h59 1 1) = (h 1 1) ∧ (h59 90 2) = (h 90 2) ∧ (h59 0 10) = (h 0 10) ∧ (h59 0 11) = (h 0 11) ∧ (h59 0 12) = (h 0 12) ∧ (h59 0 13) = (h 0 13) ∧ (h59 3 1) = (h 3 1) ∧ (h59 36 8) = (h 36 8) ∧ (h59 46 3) = (h 46 3) ∧ (h59 46 4) = (h 46 4) ∧ (h59 49 4) = (h 49 4) ∧ (h59 49 5) = (h 49 5) ∧ (h59 64 0) = (h 64 0) ∧ (h59 76 0) = (h 76 0); omega)⟩
        · skip
          refine ov_blk (ls2 := [(0, ov_r 3), (1, ov_i dep), (2, ov_i v10), (3, ov_i v50)]) (st2 := [ov_i 3, ov_r 70]) (pc2 := 60) b_70_59_1 rfl rfl ?_
          refine ov_goto (tgt := 64) d_70_60 (by decide) ?_
          refine ov_cV (as := [ov_i 3]) (st := []) (d2 := d - 1) d_70_64 lk_Reader_224 rfl (Nat.le_of_ble_eq_true rfl) (c := 9) (zb_70 I53) (zs_70 I53) ⟨by decide, rfl⟩ (by omega) (c_Town_addCode_70 (d - 1) (by omega) U I53 (ov_kws hw (by decide +kernel)) 3 (by omega)) ?_
          rintro _ z64 h65 ⟨rfl, I66, f63⟩
          show ov_R u d ov_m70 67 [(0, ov_r 3), (1, ov_i dep), (2, ov_i v10), (3, ov_i v50)] [] z64 h65 (P_Reader_readTest_3_k3_1_70 F z h dep)
          have f67 : (h65 3 2) = (h52 3 2) ∧ (h65 36 7) = (h52 36 7) ∧ (h65 1 1) = (h52 1 1) ∧ (h65 90 2) = (h52 90 2) ∧ (h65 0 10) = (h52 0 10) ∧ (h65 0 11) = (h52 0 11) ∧ (h65 0 12) = (h52 0 12) ∧ (h65 0 13) = (h52 0 13) ∧ (h65 3 1) = (h52 3 1) ∧ (h65 36 8) = (h52 36 8) ∧ (h65 46 3) = (h52 46 3) ∧ (h65 46 4) = (h52 46 4) ∧ (h65 49 4) = (h52 49 4) ∧ (h65 49 5) = (h52 49 5) ∧ (h65 64 0) = (h52 64 0) ∧ (h65 76 0) = (h52 76 0) := f63
          clear f63
          have e68 : h65 3 1 = 70 := by omega
          refine ov_blk (ls2 := [(0, ov_r 3), (1, ov_i dep), (2, ov_i v10), (3, ov_i v50)]) (st2 := [ov_i v50]) (pc2 := 68) b_70_67_1 rfl rfl ?_
          exact ov_retz (st := []) d_70_68 rfl (by omega) ⟨_, rfl, I66, (by show (v50 = 0 ∧ 1 ≤ (h65 3 2) ∨ v50 = 1) ∧ (h65 36 7) = (h 36 7) ∧ (h65 1 1) = (h 1 1) ∧ (h65 90 2) = (h 90 2) ∧ (h65 0 10) = (h 0 10) ∧ (h65 0 11) = (h 0 11) ∧ (h65 0 12) = (h 0 12) ∧ (h65 0 13) = (h 0 13) ∧ (h65 3 1) = (h 3 1) ∧ (h65 36 8) = (h 36 8) ∧ (h65 46 3) = (h 46 3) ∧ (h65 46 4) = (h 46 4) ∧ (h65 49 4) = (h 49 4) ∧ (h65 49 5) = (h 49 5) ∧ (h65 64 0) = (h 64 0) ∧ (h65 76 0) = (h 76 0); omega)⟩
      · skip
        refine ov_blk (ls2 := [(0, ov_r 3), (1, ov_i dep), (2, ov_i v10)]) (st2 := [ov_i 1]) (pc2 := 37) b_70_36_1 rfl rfl ?_
        exact ov_retz (st := []) d_70_37 rfl (by omega) ⟨_, rfl, I5, (by show (1 = 0 ∧ 1 ≤ (h4 3 2) ∨ 1 = 1) ∧ (h4 36 7) = (h 36 7) ∧ (h4 1 1) = (h 1 1) ∧ (h4 90 2) = (h 90 2) ∧ (h4 0 10) = (h 0 10) ∧ (h4 0 11) = (h 0 11) ∧ (h4 0 12) = (h 0 12) ∧ (h4 0 13) = (h 0 13) ∧ (h4 3 1) = (h 3 1) ∧ (h4 36 8) = (h 36 8) ∧ (h4 46 3) = (h 46 3) ∧ (h4 46 4) = (h 46 4) ∧ (h4 49 4) = (h 49 4) ∧ (h4 49 5) = (h 49 5) ∧ (h4 64 0) = (h 64 0) ∧ (h4 76 0) = (h 76 0); omega)⟩
  · skip
    refine ov_blk (ls2 := [(0, ov_r 3), (1, ov_i dep)]) (st2 := [ov_i 0]) (pc2 := 9) b_70_8_1 rfl rfl ?_
    exact ov_retz (st := []) d_70_9 rfl (by omega) ⟨_, rfl, I5, (by show (0 = 0 ∧ 1 ≤ (h4 3 2) ∨ 0 = 1) ∧ (h4 36 7) = (h 36 7) ∧ (h4 1 1) = (h 1 1) ∧ (h4 90 2) = (h 90 2) ∧ (h4 0 10) = (h 0 10) ∧ (h4 0 11) = (h 0 11) ∧ (h4 0 12) = (h 0 12) ∧ (h4 0 13) = (h 0 13) ∧ (h4 3 1) = (h 3 1) ∧ (h4 36 8) = (h 36 8) ∧ (h4 46 3) = (h 46 3) ∧ (h4 46 4) = (h 46 4) ∧ (h4 49 4) = (h 49 4) ∧ (h4 49 5) = (h 49 5) ∧ (h4 64 0) = (h 64 0) ∧ (h4 76 0) = (h 76 0); omega)⟩
set_option maxHeartbeats 4000000 in
theorem c_Reader_readExpression_3_k3_1_70 {u : ov_U} {F : ov_H} (k : Nat) (HE : ∀ k' : Nat, k' + 1 = k → ∀ {z : ov_Z} {h : ov_H} (d : Nat) (hd : (10 + 5 * k' + 4) ≤ d) (U : ov_cap u) (I : ov_I F z h) (hw : ov_kw 1210106411235346586009610 F) (dep : Int) (k0 : h 3 1 = 70) (g_dep : ov_g dep) (p0 : 0 ≤ dep ∧ dep + (k' : Int) = 5), ov_T u d ov_m69 [ov_r 3, ov_i dep] z h (P_Reader_readExpression_3_k3_1_70 F z h dep)) (HP : ∀ k' : Nat, k' + 1 = k → ∀ {z : ov_Z} {h : ov_H} (d : Nat) (hd : (10 + 5 * k' + 0) ≤ d) (U : ov_cap u) (I : ov_I F z h) (hw : ov_kw 1210106411235346586009610 F) (dep : Int) (k0 : h 3 1 = 70) (g_dep : ov_g dep) (p0 : 0 ≤ dep ∧ dep + (k' : Int) = 5), ov_T u d ov_m73 [ov_r 3, ov_i dep] z h (P_Reader_readPart_3_k3_1_70 F z h dep)) {z : ov_Z} {h : ov_H} (d : Nat) (hd : (10 + 5 * k + 4) ≤ d) (U : ov_cap u) (I : ov_I F z h) (hw : ov_kw 1210106411235346586009610 F) (dep : Int) (k0 : h 3 1 = 70) (g_dep : ov_g dep) (p0 : 0 ≤ dep ∧ dep + (k : Int) = 5) : ov_T u d ov_m69 [ov_r 3, ov_i dep] z h (P_Reader_readExpression_3_k3_1_70 F z h dep) := by
  refine ov_en rfl (Nat.le_of_ble_eq_true rfl) ?_
  show ov_R u d ov_m69 0 [(0, ov_r 3), (1, ov_i dep)] [] z h (P_Reader_readExpression_3_k3_1_70 F z h dep)
  refine ov_blk (ls2 := [(0, ov_r 3), (1, ov_i dep)]) (st2 := [ov_i dep, ov_r 3]) (pc2 := 2) b_69_0_2 rfl rfl ?_
  refine ov_cV (as := [ov_i dep]) (st := []) (d2 := d - 1) d_69_2 lk_Reader_217 rfl (Nat.le_of_ble_eq_true rfl) (c := 6) (zb_3 I) (zs_3 I) ⟨by decide, rfl⟩ (by omega) (c_Reader_readTest_3_k3_1_70 k HE HP (d - 1) (by omega) U I (ov_kws hw (by decide +kernel)) dep k0 (by omega) (by omega)) ?_
  rintro _ z3 h4 ⟨v2, rfl, I5, f1⟩
  show ov_R u d ov_m69 5 [(0, ov_r 3), (1, ov_i dep)] [ov_i v2] z3 h4 (P_Reader_readExpression_3_k3_1_70 F z h dep)
  have f6 : (v2 = 0 ∧ 1 ≤ (h4 3 2) ∨ v2 = 1) ∧ (h4 36 7) = (h 36 7) ∧ (h4 1 1) = (h 1 1) ∧ (h4 90 2) = (h 90 2) ∧ (h4 0 10) = (h 0 10) ∧ (h4 0 11) = (h 0 11) ∧ (h4 0 12) = (h 0 12) ∧ (h4 0 13) = (h 0 13) ∧ (h4 3 1) = (h 3 1) ∧ (h4 36 8) = (h 36 8) ∧ (h4 46 3) = (h 46 3) ∧ (h4 46 4) = (h 46 4) ∧ (h4 49 4) = (h 49 4) ∧ (h4 49 5) = (h 49 5) ∧ (h4 64 0) = (h 64 0) ∧ (h4 76 0) = (h 76 0) := f1
  clear f1
  have e7 : h4 3 1 = 70 := by omega
  refine ov_blk (ls2 := [(0, ov_r 3), (1, ov_i dep), (2, ov_i v2), (3, ov_i 0)]) (st2 := []) (pc2 := 8) b_69_5_3 rfl rfl ?_
  have L11 : ∀ (n8 : Nat) (x2 : Int) (x3 : Int) (z12 : ov_Z) (h13 : ov_H) (I14 : ov_I F z12 h13) (q10 : (x2 = 0 ∧ 1 ≤ (h13 3 2) ∨ x2 = 1) ∧ 0 ≤ x3 ∧ x3 ≤ 1000 ∧ (h13 36 7) = (h 36 7) ∧ (h13 1 1) = (h 1 1) ∧ (h13 90 2) = (h 90 2) ∧ (h13 0 10) = (h 0 10) ∧ (h13 0 11) = (h 0 11) ∧ (h13 0 12) = (h 0 12) ∧ (h13 0 13) = (h 0 13) ∧ (h13 3 1) = (h 3 1) ∧ (h13 36 8) = (h 36 8) ∧ (h13 46 3) = (h 46 3) ∧ (h13 46 4) = (h 46 4) ∧ (h13 49 4) = (h 49 4) ∧ (h13 49 5) = (h 49 5) ∧ (h13 64 0) = (h 64 0) ∧ (h13 76 0) = (h 76 0) ∧ h13 3 1 = 70), 1000 - x3 < (n8 : Int) → ov_R u d ov_m69 8 [(0, ov_r 3), (1, ov_i dep), (2, ov_i x2), (3, ov_i x3)] [] z12 h13 (P_Reader_readExpression_3_k3_1_70 F z h dep) := by
    intro n8
    induction n8 with
    | zero =>
      intro x2 x3 z12 h13 I14 q10 hn15
      exact absurd hn15 (by omega)
    | succ n8 ih9 =>
      intro x2 x3 z12 h13 I14 q10 hn15
      have e16 : h13 3 1 = 70 := by omega
      refine ov_blk (ls2 := [(0, ov_r 3), (1, ov_i dep), (2, ov_i x2), (3, ov_i x3)]) (st2 := [ov_i 1000, ov_i x3]) (pc2 := 12) b_69_8_2 rfl rfl ?_
      refine ov_icge (tgt := 87) d_69_12 (by decide) (by omega) (by omega) (fun c17 => ?_) (fun c17 => ?_)
      · skip
        refine ov_blk (ls2 := [(0, ov_r 3), (1, ov_i dep), (2, ov_i x2), (3, ov_i x3)]) (st2 := [ov_i x2]) (pc2 := 88) b_69_87_1 rfl rfl ?_
        exact ov_retz (st := []) d_69_88 rfl (by omega) ⟨_, rfl, I14, (by show (x2 = 0 ∧ 1 ≤ (h13 3 2) ∨ x2 = 1) ∧ (h13 36 7) = (h 36 7) ∧ (h13 1 1) = (h 1 1) ∧ (h13 90 2) = (h 90 2) ∧ (h13 0 10) = (h 0 10) ∧ (h13 0 11) = (h 0 11) ∧ (h13 0 12) = (h 0 12) ∧ (h13 0 13) = (h 0 13) ∧ (h13 3 1) = (h 3 1) ∧ (h13 36 8) = (h 36 8) ∧ (h13 46 3) = (h 46 3) ∧ (h13 46 4) = (h 46 4) ∧ (h13 49 4) = (h 49 4) ∧ (h13 49 5) = (h 49 5) ∧ (h13 64 0) = (h 64 0) ∧ (h13 76 0) = (h 76 0); omega)⟩
      · skip
        refine ov_blk (ls2 := [(0, ov_r 3), (1, ov_i dep), (2, ov_i x2), (3, ov_i x3)]) (st2 := [ov_i x2]) (pc2 := 16) b_69_15_1 rfl rfl ?_
        refine ov_ifeq (tgt := 87) d_69_16 (by decide) (by omega) (fun c18 => ?_) (fun c18 => ?_)
        · skip
          refine ov_blk (ls2 := [(0, ov_r 3), (1, ov_i dep), (2, ov_i x2), (3, ov_i x3)]) (st2 := [ov_i x2]) (pc2 := 88) b_69_87_1 rfl rfl ?_
          exact ov_retz (st := []) d_69_88 rfl (by omega) ⟨_, rfl, I14, (by show (x2 = 0 ∧ 1 ≤ (h13 3 2) ∨ x2 = 1) ∧ (h13 36 7) = (h 36 7) ∧ (h13 1 1) = (h 1 1) ∧ (h13 90 2) = (h 90 2) ∧ (h13 0 10) = (h 0 10) ∧ (h13 0 11) = (h 0 11) ∧ (h13 0 12) = (h 0 12) ∧ (h13 0 13) = (h 0 13) ∧ (h13 3 1) = (h 3 1) ∧ (h13 36 8) = (h 36 8) ∧ (h13 46 3) = (h 46 3) ∧ (h13 46 4) = (h 46 4) ∧ (h13 49 4) = (h 49 4) ∧ (h13 49 5) = (h 49 5) ∧ (h13 64 0) = (h 64 0) ∧ (h13 76 0) = (h 76 0); omega)⟩
        · skip
          refine ov_blk (ls2 := [(0, ov_r 3), (1, ov_i dep), (2, ov_i x2), (3, ov_i x3)]) (st2 := [ov_r 3]) (pc2 := 20) b_69_19_1 rfl rfl ?_
          refine ov_getf (v := ov_r 1) d_69_20 fl_Reader_9 (zb_3 I14) (zs_3 I14) (congrArg ov_r (rg_3_0 I14)) ?_
          refine ov_ldc2 (n := 6385252) d_69_23 kc_Reader_220 ?_
          refine ov_cV (as := [ov_l 6385252]) (st := []) (d2 := d - 1) d_69_26 lk_Reader_110 rfl (Nat.le_of_ble_eq_true rfl) (c := 8) (zb_1 I14) (zs_1 I14) ⟨by decide, rfl⟩ (by omega) (c_Tape_isWord_1 (d - 1) (by omega) U I14 6385252) ?_
          rintro _ _ _ ⟨v20, rfl, rfl, rfl, f19⟩
          show ov_R u d ov_m69 29 [(0, ov_r 3), (1, ov_i dep), (2, ov_i x2), (3, ov_i x3)] [ov_i v20] z12 h13 (P_Reader_readExpression_3_k3_1_70 F z h dep)
          have f21 : (v20 = 0 ∨ v20 = 1) ∧ (v20 = 1 → (h13 1 2) = 2) := f19
          clear f19
          refine ov_blk (ls2 := [(0, ov_r 3), (1, ov_i dep), (2, ov_i x2), (3, ov_i x3), (4, ov_i v20)]) (st2 := [ov_i v20]) (pc2 := 33) b_69_29_2 rfl rfl ?_
          refine ov_ifne (tgt := 51) d_69_33 (by decide) (by omega) (fun c22 => ?_) (fun c22 => ?_)
          · skip
            refine ov_blk (ls2 := [(0, ov_r 3), (1, ov_i dep), (2, ov_i x2), (3, ov_i x3), (4, ov_i v20)]) (st2 := [ov_r 3]) (pc2 := 52) b_69_51_1 rfl rfl ?_
            refine ov_getf (v := ov_r 1) d_69_52 fl_Reader_9 (zb_3 I14) (zs_3 I14) (congrArg ov_r (rg_3_0 I14)) ?_
            refine ov_cV (as := []) (st := []) (d2 := d - 1) d_69_55 lk_Reader_75 rfl (Nat.le_of_ble_eq_true rfl) (c := 8) (zb_1 I14) (zs_1 I14) ⟨by decide, rfl⟩ (by omega) (c_Tape_advance_1 (d - 1) (by omega) U I14 (ov_kws hw (by decide +kernel))) ?_
            rintro _ z24 h25 ⟨rfl, I26, f23⟩
            show ov_R u d ov_m69 58 [(0, ov_r 3), (1, ov_i dep), (2, ov_i x2), (3, ov_i x3), (4, ov_i v20)] [] z24 h25 (P_Reader_readExpression_3_k3_1_70 F z h dep)
            have f27 : (h25 3 3) = (h13 3 3) ∧ (h25 36 7) = (h13 36 7) ∧ (h25 1 1) = (h13 1 1) ∧ (h25 90 2) = (h13 90 2) ∧ (h25 0 10) = (h13 0 10) ∧ (h25 0 11) = (h13 0 11) ∧ (h25 0 12) = (h13 0 12) ∧ (h25 0 13) = (h13 0 13) ∧ (h25 3 1) = (h13 3 1) ∧ (h25 36 8) = (h13 36 8) ∧ (h25 46 3) = (h13 46 3) ∧ (h25 46 4) = (h13 46 4) ∧ (h25 49 4) = (h13 49 4) ∧ (h25 49 5) = (h13 49 5) ∧ (h25 64 0) = (h13 64 0) ∧ (h25 76 0) = (h13 76 0) := f23
            clear f23
            have e28 : h25 3 1 = 70 := by omega
            refine ov_blk (ls2 := [(0, ov_r 3), (1, ov_i dep), (2, ov_i x2), (3, ov_i x3), (4, ov_i v20)]) (st2 := [ov_i dep, ov_r 3]) (pc2 := 60) b_69_58_2 rfl rfl ?_
            refine ov_cV (as := [ov_i dep]) (st := []) (d2 := d - 1) d_69_60 lk_Reader_217 rfl (Nat.le_of_ble_eq_true rfl) (c := 6) (zb_3 I26) (zs_3 I26) ⟨by decide, rfl⟩ (by omega) (c_Reader_readTest_3_k3_1_70 k HE HP (d - 1) (by omega) U I26 (ov_kws hw (by decide +kernel)) dep e28 (by omega) (by omega)) ?_
            rintro _ z31 h32 ⟨v30, rfl, I33, f29⟩
            show ov_R u d ov_m69 63 [(0, ov_r 3), (1, ov_i dep), (2, ov_i x2), (3, ov_i x3), (4, ov_i v20)] [ov_i v30] z31 h32 (P_Reader_readExpression_3_k3_1_70 F z h dep)
            have f34 : (v30 = 0 ∧ 1 ≤ (h32 3 2) ∨ v30 = 1) ∧ (h32 36 7) = (h25 36 7) ∧ (h32 1 1) = (h25 1 1) ∧ (h32 90 2) = (h25 90 2) ∧ (h32 0 10) = (h25 0 10) ∧ (h32 0 11) = (h25 0 11) ∧ (h32 0 12) = (h25 0 12) ∧ (h32 0 13) = (h25 0 13) ∧ (h32 3 1) = (h25 3 1) ∧ (h32 36 8) = (h25 36 8) ∧ (h32 46 3) = (h25 46 3) ∧ (h32 46 4) = (h25 46 4) ∧ (h32 49 4) = (h25 49 4) ∧ (h32 49 5) = (h25 49 5) ∧ (h32 64 0) = (h25 64 0) ∧ (h32 76 0) = (h25 76 0) := f29
            clear f29
            have e35 : h32 3 1 = 70 := by omega
            refine ov_blk (ls2 := [(0, ov_r 3), (1, ov_i dep), (2, ov_i v30), (3, ov_i x3), (4, ov_i v20)]) (st2 := [ov_r 3]) (pc2 := 65) b_69_63_2 rfl rfl ?_
            refine ov_getf (v := ov_r 70) d_69_65 fl_Reader_15 (zb_3 I33) (zs_3 I33) (congrArg ov_r e35) ?_
            refine ov_blk (ls2 := [(0, ov_r 3), (1, ov_i dep), (2, ov_i v30), (3, ov_i x3), (4, ov_i v20)]) (st2 := [ov_i v20, ov_r 70]) (pc2 := 70) b_69_68_1 rfl rfl ?_
            refine ov_ifeq (tgt := 77) d_69_70 (by decide) (by omega) (fun c36 => ?_) (fun c36 => ?_)
            · skip
              refine ov_blk (ls2 := [(0, ov_r 3), (1, ov_i dep), (2, ov_i v30), (3, ov_i x3), (4, ov_i v20)]) (st2 := [ov_i 2, ov_r 70]) (pc2 := 78) b_69_77_1 rfl rfl ?_
              refine ov_cV (as := [ov_i 2]) (st := []) (d2 := d - 1) d_69_78 lk_Reader_224 rfl (Nat.le_of_ble_eq_true rfl) (c := 9) (zb_70 I33) (zs_70 I33) ⟨by decide, rfl⟩ (by omega) (c_Town_addCode_70 (d - 1) (by omega) U I33 (ov_kws hw (by decide +kernel)) 2 (by omega)) ?_
              rintro _ z38 h39 ⟨rfl, I40, f37⟩
              show ov_R u d ov_m69 81 [(0, ov_r 3), (1, ov_i dep), (2, ov_i v30), (3, ov_i x3), (4, ov_i v20)] [] z38 h39 (P_Reader_readExpression_3_k3_1_70 F z h dep)
              have f41 : (h39 3 2) = (h32 3 2) ∧ (h39 36 7) = (h32 36 7) ∧ (h39 1 1) = (h32 1 1) ∧ (h39 90 2) = (h32 90 2) ∧ (h39 0 10) = (h32 0 10) ∧ (h39 0 11) = (h32 0 11) ∧ (h39 0 12) = (h32 0 12) ∧ (h39 0 13) = (h32 0 13) ∧ (h39 3 1) = (h32 3 1) ∧ (h39 36 8) = (h32 36 8) ∧ (h39 46 3) = (h32 46 3) ∧ (h39 46 4) = (h32 46 4) ∧ (h39 49 4) = (h32 49 4) ∧ (h39 49 5) = (h32 49 5) ∧ (h39 64 0) = (h32 64 0) ∧ (h39 76 0) = (h32 76 0) := f37
              clear f37
              have e42 : h39 3 1 = 70 := by omega
              refine ov_blk (ls2 := [(0, ov_r 3), (1, ov_i dep), (2, ov_i v30), (3, ov_i (x3 + 1)), (4, ov_i v20)]) (st2 := []) (pc2 := 84) b_69_81_1 rfl rfl ?_
              refine ov_goto (tgt := 8) d_69_84 (by decide) ?_
              refine ov_sub (ls2 := [(0, ov_r 3), (1, ov_i dep), (2, ov_i v30), (3, ov_i (x3 + 1))]) (List.Sublist.subset (by repeat (first | exact List.Sublist.refl _ | apply List.Sublist.cons_cons | apply List.Sublist.cons))) ?_
              exact ih9 v30 (x3 + 1) _ _ I40 (by show (v30 = 0 ∧ 1 ≤ (h39 3 2) ∨ v30 = 1) ∧ 0 ≤ (x3 + 1) ∧ (x3 + 1) ≤ 1000 ∧ (h39 36 7) = (h 36 7) ∧ (h39 1 1) = (h 1 1) ∧ (h39 90 2) = (h 90 2) ∧ (h39 0 10) = (h 0 10) ∧ (h39 0 11) = (h 0 11) ∧ (h39 0 12) = (h 0 12) ∧ (h39 0 13) = (h 0 13) ∧ (h39 3 1) = (h 3 1) ∧ (h39 36 8) = (h 36 8) ∧ (h39 46 3) = (h 46 3) ∧ (h39 46 4) = (h 46 4) ∧ (h39 49 4) = (h 49 4) ∧ (h39 49 5) = (h 49 5) ∧ (h39 64 0) = (h 64 0) ∧ (h39 76 0) = (h 76 0) ∧ (h39 3 1) = 70; omega) (by omega)
            · skip
              refine ov_blk (ls2 := [(0, ov_r 3), (1, ov_i dep), (2, ov_i v30), (3, ov_i x3), (4, ov_i v20)]) (st2 := [ov_i 1, ov_r 70]) (pc2 := 74) b_69_73_1 rfl rfl ?_
              refine ov_goto (tgt := 78) d_69_74 (by decide) ?_
              refine ov_cV (as := [ov_i 1]) (st := []) (d2 := d - 1) d_69_78 lk_Reader_224 rfl (Nat.le_of_ble_eq_true rfl) (c := 9) (zb_70 I33) (zs_70 I33) ⟨by decide, rfl⟩ (by omega) (c_Town_addCode_70 (d - 1) (by omega) U I33 (ov_kws hw (by decide +kernel)) 1 (by omega)) ?_
              rintro _ z44 h45 ⟨rfl, I46, f43⟩
              show ov_R u d ov_m69 81 [(0, ov_r 3), (1, ov_i dep), (2, ov_i v30), (3, ov_i x3), (4, ov_i v20)] [] z44 h45 (P_Reader_readExpression_3_k3_1_70 F z h dep)
              have f47 : (h45 3 2) = (h32 3 2) ∧ (h45 36 7) = (h32 36 7) ∧ (h45 1 1) = (h32 1 1) ∧ (h45 90 2) = (h32 90 2) ∧ (h45 0 10) = (h32 0 10) ∧ (h45 0 11) = (h32 0 11) ∧ (h45 0 12) = (h32 0 12) ∧ (h45 0 13) = (h32 0 13) ∧ (h45 3 1) = (h32 3 1) ∧ (h45 36 8) = (h32 36 8) ∧ (h45 46 3) = (h32 46 3) ∧ (h45 46 4) = (h32 46 4) ∧ (h45 49 4) = (h32 49 4) ∧ (h45 49 5) = (h32 49 5) ∧ (h45 64 0) = (h32 64 0) ∧ (h45 76 0) = (h32 76 0) := f43
              clear f43
              have e48 : h45 3 1 = 70 := by omega
              refine ov_blk (ls2 := [(0, ov_r 3), (1, ov_i dep), (2, ov_i v30), (3, ov_i (x3 + 1)), (4, ov_i v20)]) (st2 := []) (pc2 := 84) b_69_81_1 rfl rfl ?_
              refine ov_goto (tgt := 8) d_69_84 (by decide) ?_
              refine ov_sub (ls2 := [(0, ov_r 3), (1, ov_i dep), (2, ov_i v30), (3, ov_i (x3 + 1))]) (List.Sublist.subset (by repeat (first | exact List.Sublist.refl _ | apply List.Sublist.cons_cons | apply List.Sublist.cons))) ?_
              exact ih9 v30 (x3 + 1) _ _ I46 (by show (v30 = 0 ∧ 1 ≤ (h45 3 2) ∨ v30 = 1) ∧ 0 ≤ (x3 + 1) ∧ (x3 + 1) ≤ 1000 ∧ (h45 36 7) = (h 36 7) ∧ (h45 1 1) = (h 1 1) ∧ (h45 90 2) = (h 90 2) ∧ (h45 0 10) = (h 0 10) ∧ (h45 0 11) = (h 0 11) ∧ (h45 0 12) = (h 0 12) ∧ (h45 0 13) = (h 0 13) ∧ (h45 3 1) = (h 3 1) ∧ (h45 36 8) = (h 36 8) ∧ (h45 46 3) = (h 46 3) ∧ (h45 46 4) = (h 46 4) ∧ (h45 49 4) = (h 49 4) ∧ (h45 49 5) = (h 49 5) ∧ (h45 64 0) = (h 64 0) ∧ (h45 76 0) = (h 76 0) ∧ (h45 3 1) = 70; omega) (by omega)
          · skip
            refine ov_blk (ls2 := [(0, ov_r 3), (1, ov_i dep), (2, ov_i x2), (3, ov_i x3), (4, ov_i v20)]) (st2 := [ov_r 3]) (pc2 := 37) b_69_36_1 rfl rfl ?_
            refine ov_getf (v := ov_r 1) d_69_37 fl_Reader_9 (zb_3 I14) (zs_3 I14) (congrArg ov_r (rg_3_0 I14)) ?_
            refine ov_ldc2 (n := 28530) d_69_40 kc_Reader_222 ?_
            refine ov_cV (as := [ov_l 28530]) (st := []) (d2 := d - 1) d_69_43 lk_Reader_110 rfl (Nat.le_of_ble_eq_true rfl) (c := 8) (zb_1 I14) (zs_1 I14) ⟨by decide, rfl⟩ (by omega) (c_Tape_isWord_1 (d - 1) (by omega) U I14 28530) ?_
            rintro _ _ _ ⟨v50, rfl, rfl, rfl, f49⟩
            show ov_R u d ov_m69 46 [(0, ov_r 3), (1, ov_i dep), (2, ov_i x2), (3, ov_i x3), (4, ov_i v20)] [ov_i v50] z12 h13 (P_Reader_readExpression_3_k3_1_70 F z h dep)
            have f51 : (v50 = 0 ∨ v50 = 1) ∧ (v50 = 1 → (h13 1 2) = 2) := f49
            clear f49
            refine ov_ifne (tgt := 51) d_69_46 (by decide) (by omega) (fun c52 => ?_) (fun c52 => ?_)
            · skip
              refine ov_blk (ls2 := [(0, ov_r 3), (1, ov_i dep), (2, ov_i x2), (3, ov_i x3), (4, ov_i v20)]) (st2 := [ov_r 3]) (pc2 := 52) b_69_51_1 rfl rfl ?_
              refine ov_getf (v := ov_r 1) d_69_52 fl_Reader_9 (zb_3 I14) (zs_3 I14) (congrArg ov_r (rg_3_0 I14)) ?_
              refine ov_cV (as := []) (st := []) (d2 := d - 1) d_69_55 lk_Reader_75 rfl (Nat.le_of_ble_eq_true rfl) (c := 8) (zb_1 I14) (zs_1 I14) ⟨by decide, rfl⟩ (by omega) (c_Tape_advance_1 (d - 1) (by omega) U I14 (ov_kws hw (by decide +kernel))) ?_
              rintro _ z54 h55 ⟨rfl, I56, f53⟩
              show ov_R u d ov_m69 58 [(0, ov_r 3), (1, ov_i dep), (2, ov_i x2), (3, ov_i x3), (4, ov_i v20)] [] z54 h55 (P_Reader_readExpression_3_k3_1_70 F z h dep)
              have f57 : (h55 3 3) = (h13 3 3) ∧ (h55 36 7) = (h13 36 7) ∧ (h55 1 1) = (h13 1 1) ∧ (h55 90 2) = (h13 90 2) ∧ (h55 0 10) = (h13 0 10) ∧ (h55 0 11) = (h13 0 11) ∧ (h55 0 12) = (h13 0 12) ∧ (h55 0 13) = (h13 0 13) ∧ (h55 3 1) = (h13 3 1) ∧ (h55 36 8) = (h13 36 8) ∧ (h55 46 3) = (h13 46 3) ∧ (h55 46 4) = (h13 46 4) ∧ (h55 49 4) = (h13 49 4) ∧ (h55 49 5) = (h13 49 5) ∧ (h55 64 0) = (h13 64 0) ∧ (h55 76 0) = (h13 76 0) := f53
              clear f53
              have e58 : h55 3 1 = 70 := by omega
              refine ov_blk (ls2 := [(0, ov_r 3), (1, ov_i dep), (2, ov_i x2), (3, ov_i x3), (4, ov_i v20)]) (st2 := [ov_i dep, ov_r 3]) (pc2 := 60) b_69_58_2 rfl rfl ?_
              refine ov_cV (as := [ov_i dep]) (st := []) (d2 := d - 1) d_69_60 lk_Reader_217 rfl (Nat.le_of_ble_eq_true rfl) (c := 6) (zb_3 I56) (zs_3 I56) ⟨by decide, rfl⟩ (by omega) (c_Reader_readTest_3_k3_1_70 k HE HP (d - 1) (by omega) U I56 (ov_kws hw (by decide +kernel)) dep e58 (by omega) (by omega)) ?_
              rintro _ z61 h62 ⟨v60, rfl, I63, f59⟩
              show ov_R u d ov_m69 63 [(0, ov_r 3), (1, ov_i dep), (2, ov_i x2), (3, ov_i x3), (4, ov_i v20)] [ov_i v60] z61 h62 (P_Reader_readExpression_3_k3_1_70 F z h dep)
              have f64 : (v60 = 0 ∧ 1 ≤ (h62 3 2) ∨ v60 = 1) ∧ (h62 36 7) = (h55 36 7) ∧ (h62 1 1) = (h55 1 1) ∧ (h62 90 2) = (h55 90 2) ∧ (h62 0 10) = (h55 0 10) ∧ (h62 0 11) = (h55 0 11) ∧ (h62 0 12) = (h55 0 12) ∧ (h62 0 13) = (h55 0 13) ∧ (h62 3 1) = (h55 3 1) ∧ (h62 36 8) = (h55 36 8) ∧ (h62 46 3) = (h55 46 3) ∧ (h62 46 4) = (h55 46 4) ∧ (h62 49 4) = (h55 49 4) ∧ (h62 49 5) = (h55 49 5) ∧ (h62 64 0) = (h55 64 0) ∧ (h62 76 0) = (h55 76 0) := f59
              clear f59
              have e65 : h62 3 1 = 70 := by omega
              refine ov_blk (ls2 := [(0, ov_r 3), (1, ov_i dep), (2, ov_i v60), (3, ov_i x3), (4, ov_i v20)]) (st2 := [ov_r 3]) (pc2 := 65) b_69_63_2 rfl rfl ?_
              refine ov_getf (v := ov_r 70) d_69_65 fl_Reader_15 (zb_3 I63) (zs_3 I63) (congrArg ov_r e65) ?_
              refine ov_blk (ls2 := [(0, ov_r 3), (1, ov_i dep), (2, ov_i v60), (3, ov_i x3), (4, ov_i v20)]) (st2 := [ov_i v20, ov_r 70]) (pc2 := 70) b_69_68_1 rfl rfl ?_
              refine ov_ifeq (tgt := 77) d_69_70 (by decide) (by omega) (fun c66 => ?_) (fun c66 => ?_)
              · skip
                refine ov_blk (ls2 := [(0, ov_r 3), (1, ov_i dep), (2, ov_i v60), (3, ov_i x3), (4, ov_i v20)]) (st2 := [ov_i 2, ov_r 70]) (pc2 := 78) b_69_77_1 rfl rfl ?_
                refine ov_cV (as := [ov_i 2]) (st := []) (d2 := d - 1) d_69_78 lk_Reader_224 rfl (Nat.le_of_ble_eq_true rfl) (c := 9) (zb_70 I63) (zs_70 I63) ⟨by decide, rfl⟩ (by omega) (c_Town_addCode_70 (d - 1) (by omega) U I63 (ov_kws hw (by decide +kernel)) 2 (by omega)) ?_
                rintro _ z68 h69 ⟨rfl, I70, f67⟩
                show ov_R u d ov_m69 81 [(0, ov_r 3), (1, ov_i dep), (2, ov_i v60), (3, ov_i x3), (4, ov_i v20)] [] z68 h69 (P_Reader_readExpression_3_k3_1_70 F z h dep)
                have f71 : (h69 3 2) = (h62 3 2) ∧ (h69 36 7) = (h62 36 7) ∧ (h69 1 1) = (h62 1 1) ∧ (h69 90 2) = (h62 90 2) ∧ (h69 0 10) = (h62 0 10) ∧ (h69 0 11) = (h62 0 11) ∧ (h69 0 12) = (h62 0 12) ∧ (h69 0 13) = (h62 0 13) ∧ (h69 3 1) = (h62 3 1) ∧ (h69 36 8) = (h62 36 8) ∧ (h69 46 3) = (h62 46 3) ∧ (h69 46 4) = (h62 46 4) ∧ (h69 49 4) = (h62 49 4) ∧ (h69 49 5) = (h62 49 5) ∧ (h69 64 0) = (h62 64 0) ∧ (h69 76 0) = (h62 76 0) := f67
                clear f67
                have e72 : h69 3 1 = 70 := by omega
                refine ov_blk (ls2 := [(0, ov_r 3), (1, ov_i dep), (2, ov_i v60), (3, ov_i (x3 + 1)), (4, ov_i v20)]) (st2 := []) (pc2 := 84) b_69_81_1 rfl rfl ?_
                refine ov_goto (tgt := 8) d_69_84 (by decide) ?_
                refine ov_sub (ls2 := [(0, ov_r 3), (1, ov_i dep), (2, ov_i v60), (3, ov_i (x3 + 1))]) (List.Sublist.subset (by repeat (first | exact List.Sublist.refl _ | apply List.Sublist.cons_cons | apply List.Sublist.cons))) ?_
                exact ih9 v60 (x3 + 1) _ _ I70 (by show (v60 = 0 ∧ 1 ≤ (h69 3 2) ∨ v60 = 1) ∧ 0 ≤ (x3 + 1) ∧ (x3 + 1) ≤ 1000 ∧ (h69 36 7) = (h 36 7) ∧ (h69 1 1) = (h 1 1) ∧ (h69 90 2) = (h 90 2) ∧ (h69 0 10) = (h 0 10) ∧ (h69 0 11) = (h 0 11) ∧ (h69 0 12) = (h 0 12) ∧ (h69 0 13) = (h 0 13) ∧ (h69 3 1) = (h 3 1) ∧ (h69 36 8) = (h 36 8) ∧ (h69 46 3) = (h 46 3) ∧ (h69 46 4) = (h 46 4) ∧ (h69 49 4) = (h 49 4) ∧ (h69 49 5) = (h 49 5) ∧ (h69 64 0) = (h 64 0) ∧ (h69 76 0) = (h 76 0) ∧ (h69 3 1) = 70; omega) (by omega)
              · skip
                refine ov_blk (ls2 := [(0, ov_r 3), (1, ov_i dep), (2, ov_i v60), (3, ov_i x3), (4, ov_i v20)]) (st2 := [ov_i 1, ov_r 70]) (pc2 := 74) b_69_73_1 rfl rfl ?_
                refine ov_goto (tgt := 78) d_69_74 (by decide) ?_
                refine ov_cV (as := [ov_i 1]) (st := []) (d2 := d - 1) d_69_78 lk_Reader_224 rfl (Nat.le_of_ble_eq_true rfl) (c := 9) (zb_70 I63) (zs_70 I63) ⟨by decide, rfl⟩ (by omega) (c_Town_addCode_70 (d - 1) (by omega) U I63 (ov_kws hw (by decide +kernel)) 1 (by omega)) ?_
                rintro _ z74 h75 ⟨rfl, I76, f73⟩
                show ov_R u d ov_m69 81 [(0, ov_r 3), (1, ov_i dep), (2, ov_i v60), (3, ov_i x3), (4, ov_i v20)] [] z74 h75 (P_Reader_readExpression_3_k3_1_70 F z h dep)
                have f77 : (h75 3 2) = (h62 3 2) ∧ (h75 36 7) = (h62 36 7) ∧ (h75 1 1) = (h62 1 1) ∧ (h75 90 2) = (h62 90 2) ∧ (h75 0 10) = (h62 0 10) ∧ (h75 0 11) = (h62 0 11) ∧ (h75 0 12) = (h62 0 12) ∧ (h75 0 13) = (h62 0 13) ∧ (h75 3 1) = (h62 3 1) ∧ (h75 36 8) = (h62 36 8) ∧ (h75 46 3) = (h62 46 3) ∧ (h75 46 4) = (h62 46 4) ∧ (h75 49 4) = (h62 49 4) ∧ (h75 49 5) = (h62 49 5) ∧ (h75 64 0) = (h62 64 0) ∧ (h75 76 0) = (h62 76 0) := f73
                clear f73
                have e78 : h75 3 1 = 70 := by omega
                refine ov_blk (ls2 := [(0, ov_r 3), (1, ov_i dep), (2, ov_i v60), (3, ov_i (x3 + 1)), (4, ov_i v20)]) (st2 := []) (pc2 := 84) b_69_81_1 rfl rfl ?_
                refine ov_goto (tgt := 8) d_69_84 (by decide) ?_
                refine ov_sub (ls2 := [(0, ov_r 3), (1, ov_i dep), (2, ov_i v60), (3, ov_i (x3 + 1))]) (List.Sublist.subset (by repeat (first | exact List.Sublist.refl _ | apply List.Sublist.cons_cons | apply List.Sublist.cons))) ?_
                exact ih9 v60 (x3 + 1) _ _ I76 (by show (v60 = 0 ∧ 1 ≤ (h75 3 2) ∨ v60 = 1) ∧ 0 ≤ (x3 + 1) ∧ (x3 + 1) ≤ 1000 ∧ (h75 36 7) = (h 36 7) ∧ (h75 1 1) = (h 1 1) ∧ (h75 90 2) = (h 90 2) ∧ (h75 0 10) = (h 0 10) ∧ (h75 0 11) = (h 0 11) ∧ (h75 0 12) = (h 0 12) ∧ (h75 0 13) = (h 0 13) ∧ (h75 3 1) = (h 3 1) ∧ (h75 36 8) = (h 36 8) ∧ (h75 46 3) = (h 46 3) ∧ (h75 46 4) = (h 46 4) ∧ (h75 49 4) = (h 49 4) ∧ (h75 49 5) = (h 49 5) ∧ (h75 64 0) = (h 64 0) ∧ (h75 76 0) = (h 76 0) ∧ (h75 3 1) = 70; omega) (by omega)
            · skip
              refine ov_blk (ls2 := [(0, ov_r 3), (1, ov_i dep), (2, ov_i x2), (3, ov_i x3), (4, ov_i v20)]) (st2 := [ov_i 1]) (pc2 := 50) b_69_49_1 rfl rfl ?_
              exact ov_retz (st := []) d_69_50 rfl (by omega) ⟨_, rfl, I14, (by show (1 = 0 ∧ 1 ≤ (h13 3 2) ∨ 1 = 1) ∧ (h13 36 7) = (h 36 7) ∧ (h13 1 1) = (h 1 1) ∧ (h13 90 2) = (h 90 2) ∧ (h13 0 10) = (h 0 10) ∧ (h13 0 11) = (h 0 11) ∧ (h13 0 12) = (h 0 12) ∧ (h13 0 13) = (h 0 13) ∧ (h13 3 1) = (h 3 1) ∧ (h13 36 8) = (h 36 8) ∧ (h13 46 3) = (h 46 3) ∧ (h13 46 4) = (h 46 4) ∧ (h13 49 4) = (h 49 4) ∧ (h13 49 5) = (h 49 5) ∧ (h13 64 0) = (h 64 0) ∧ (h13 76 0) = (h 76 0); omega)⟩
  exact L11 1001 v2 0 _ _ I5 (by show (v2 = 0 ∧ 1 ≤ (h4 3 2) ∨ v2 = 1) ∧ 0 ≤ 0 ∧ 0 ≤ 1000 ∧ (h4 36 7) = (h 36 7) ∧ (h4 1 1) = (h 1 1) ∧ (h4 90 2) = (h 90 2) ∧ (h4 0 10) = (h 0 10) ∧ (h4 0 11) = (h 0 11) ∧ (h4 0 12) = (h 0 12) ∧ (h4 0 13) = (h 0 13) ∧ (h4 3 1) = (h 3 1) ∧ (h4 36 8) = (h 36 8) ∧ (h4 46 3) = (h 46 3) ∧ (h4 46 4) = (h 46 4) ∧ (h4 49 4) = (h 49 4) ∧ (h4 49 5) = (h 49 5) ∧ (h4 64 0) = (h 64 0) ∧ (h4 76 0) = (h 76 0) ∧ (h4 3 1) = 70; omega) (by omega)
theorem c_Reader_readExpression_3_k3_1_70_both {u : ov_U} {F : ov_H} : ∀ k : Nat, (∀ {z : ov_Z} {h : ov_H} (d : Nat) (hd : (10 + 5 * k + 4) ≤ d) (U : ov_cap u) (I : ov_I F z h) (hw : ov_kw 1210106411235346586009610 F) (dep : Int) (k0 : h 3 1 = 70) (g_dep : ov_g dep) (p0 : 0 ≤ dep ∧ dep + (k : Int) = 5), ov_T u d ov_m69 [ov_r 3, ov_i dep] z h (P_Reader_readExpression_3_k3_1_70 F z h dep)) ∧ (∀ {z : ov_Z} {h : ov_H} (d : Nat) (hd : (10 + 5 * k + 0) ≤ d) (U : ov_cap u) (I : ov_I F z h) (hw : ov_kw 1210106411235346586009610 F) (dep : Int) (k0 : h 3 1 = 70) (g_dep : ov_g dep) (p0 : 0 ≤ dep ∧ dep + (k : Int) = 5), ov_T u d ov_m73 [ov_r 3, ov_i dep] z h (P_Reader_readPart_3_k3_1_70 F z h dep)) := by
  intro k
  induction k with
  | zero => exact ⟨c_Reader_readExpression_3_k3_1_70 0 (fun k' e => by omega) (fun k' e => by omega), c_Reader_readPart_3_k3_1_70 0 (fun k' e => by omega) (fun k' e => by omega)⟩
  | succ k ih =>
    have HE : ∀ k' : Nat, k' + 1 = k + 1 → ∀ {z : ov_Z} {h : ov_H} (d : Nat) (hd : (10 + 5 * k' + 4) ≤ d) (U : ov_cap u) (I : ov_I F z h) (hw : ov_kw 1210106411235346586009610 F) (dep : Int) (k0 : h 3 1 = 70) (g_dep : ov_g dep) (p0 : 0 ≤ dep ∧ dep + (k' : Int) = 5), ov_T u d ov_m69 [ov_r 3, ov_i dep] z h (P_Reader_readExpression_3_k3_1_70 F z h dep) := fun k' e => by
      have e2 : k' = k := by omega
      rw [e2]
      exact fun {z} {h} d hd U I hw dep k0 g p => ih.1 d hd U I hw dep k0 g p
    have HP : ∀ k' : Nat, k' + 1 = k + 1 → ∀ {z : ov_Z} {h : ov_H} (d : Nat) (hd : (10 + 5 * k' + 0) ≤ d) (U : ov_cap u) (I : ov_I F z h) (hw : ov_kw 1210106411235346586009610 F) (dep : Int) (k0 : h 3 1 = 70) (g_dep : ov_g dep) (p0 : 0 ≤ dep ∧ dep + (k' : Int) = 5), ov_T u d ov_m73 [ov_r 3, ov_i dep] z h (P_Reader_readPart_3_k3_1_70 F z h dep) := fun k' e => by
      have e2 : k' = k := by omega
      rw [e2]
      exact fun {z} {h} d hd U I hw dep k0 g p => ih.2 d hd U I hw dep k0 g p
    exact ⟨c_Reader_readExpression_3_k3_1_70 (k + 1) HE HP, c_Reader_readPart_3_k3_1_70 (k + 1) HE HP⟩
theorem c_Reader_readExpression_3_k3_1_70_all {u : ov_U} {F : ov_H} (k : Nat) : ∀ {z : ov_Z} {h : ov_H} (d : Nat) (hd : (10 + 5 * k + 4) ≤ d) (U : ov_cap u) (I : ov_I F z h) (hw : ov_kw 1210106411235346586009610 F) (dep : Int) (k0 : h 3 1 = 70) (g_dep : ov_g dep) (p0 : 0 ≤ dep ∧ dep + (k : Int) = 5), ov_T u d ov_m69 [ov_r 3, ov_i dep] z h (P_Reader_readExpression_3_k3_1_70 F z h dep) := (c_Reader_readExpression_3_k3_1_70_both k).1
abbrev P_Reader_readRule_3_k3_1_70 (F : ov_H) (z : ov_Z) (h : ov_H)  : Option ov_V → ov_Z → ov_H → Prop := fun r0 z' h' => ∃ r : Int, r0 = some (ov_i r) ∧ ov_I F z' h' ∧ ((r = 0 ∧ 1 ≤ (h' 3 2) ∨ r = 1) ∧ (h' 36 7) = (h 36 7) ∧ (h' 1 1) = (h 1 1) ∧ (h' 90 2) = (h 90 2) ∧ (h' 0 10) = (h 0 10) ∧ (h' 0 11) = (h 0 11) ∧ (h' 0 12) = (h 0 12) ∧ (h' 0 13) = (h 0 13) ∧ (h' 3 1) = (h 3 1) ∧ (h' 36 8) = (h 36 8) ∧ (h' 46 3) = (h 46 3) ∧ (h' 46 4) = (h 46 4) ∧ (h' 49 4) = (h 49 4) ∧ (h' 49 5) = (h 49 5) ∧ (h' 64 0) = (h 64 0) ∧ (h' 76 0) = (h 76 0))
set_option maxHeartbeats 4000000 in
theorem c_Reader_readRule_3_k3_1_70 {u : ov_U} {F : ov_H} {z : ov_Z} {h : ov_H} (d : Nat) (hd : 40 ≤ d) (U : ov_cap u) (I : ov_I F z h) (hw : ov_kw 2116800775946318467039242 F) (k0 : h 3 1 = 70) : ov_T u d ov_m66 [ov_r 3] z h (P_Reader_readRule_3_k3_1_70 F z h) := by
  refine ov_en rfl (Nat.le_of_ble_eq_true rfl) ?_
  show ov_R u d ov_m66 0 [(0, ov_r 3)] [] z h (P_Reader_readRule_3_k3_1_70 F z h)
  refine ov_blk (ls2 := [(0, ov_r 3)]) (st2 := [ov_r 3]) (pc2 := 1) b_66_0_1 rfl rfl ?_
  refine ov_getf (v := ov_r 70) d_66_1 fl_Reader_15 (zb_3 I) (zs_3 I) (congrArg ov_r k0) ?_
  refine ov_getf (v := ov_i (h 70 11)) d_66_4 fl_Reader_197 (zb_70 I) (zs_70 I) rfl ?_
  have g1 := rg_70_11 I
  refine ov_blk (ls2 := [(0, ov_r 3)]) (st2 := [ov_i 4, ov_i (h 70 11)]) (pc2 := 8) b_66_7_1 rfl rfl ?_
  refine ov_iclt (tgt := 17) d_66_8 (by decide) (by omega) (by omega) (fun c2 => ?_) (fun c2 => ?_)
  · skip
    refine ov_blk (ls2 := [(0, ov_r 3)]) (st2 := [ov_r 3]) (pc2 := 18) b_66_17_1 rfl rfl ?_
    refine ov_getf (v := ov_r 1) d_66_18 fl_Reader_9 (zb_3 I) (zs_3 I) (congrArg ov_r (rg_3_0 I)) ?_
    refine ov_cV (as := []) (st := []) (d2 := d - 1) d_66_21 lk_Reader_75 rfl (Nat.le_of_ble_eq_true rfl) (c := 8) (zb_1 I) (zs_1 I) ⟨by decide, rfl⟩ (by omega) (c_Tape_advance_1 (d - 1) (by omega) U I (ov_kws hw (by decide +kernel))) ?_
    rintro _ z4 h5 ⟨rfl, I6, f3⟩
    show ov_R u d ov_m66 24 [(0, ov_r 3)] [] z4 h5 (P_Reader_readRule_3_k3_1_70 F z h)
    have f7 : (h5 3 3) = (h 3 3) ∧ (h5 36 7) = (h 36 7) ∧ (h5 1 1) = (h 1 1) ∧ (h5 90 2) = (h 90 2) ∧ (h5 0 10) = (h 0 10) ∧ (h5 0 11) = (h 0 11) ∧ (h5 0 12) = (h 0 12) ∧ (h5 0 13) = (h 0 13) ∧ (h5 3 1) = (h 3 1) ∧ (h5 36 8) = (h 36 8) ∧ (h5 46 3) = (h 46 3) ∧ (h5 46 4) = (h 46 4) ∧ (h5 49 4) = (h 49 4) ∧ (h5 49 5) = (h 49 5) ∧ (h5 64 0) = (h 64 0) ∧ (h5 76 0) = (h 76 0) := f3
    clear f3
    have e8 : h5 3 1 = 70 := by omega
    refine ov_blk (ls2 := [(0, ov_r 3)]) (st2 := [ov_r 3]) (pc2 := 25) b_66_24_1 rfl rfl ?_
    refine ov_getf (v := ov_r 1) d_66_25 fl_Reader_9 (zb_3 I6) (zs_3 I6) (congrArg ov_r (rg_3_0 I6)) ?_
    refine ov_getf (v := ov_i (h5 1 2)) d_66_28 fl_Reader_37 (zb_1 I6) (zs_1 I6) rfl ?_
    have g9 := rg_1_2 I6
    refine ov_blk (ls2 := [(0, ov_r 3)]) (st2 := [ov_i 2, ov_i (h5 1 2)]) (pc2 := 32) b_66_31_1 rfl rfl ?_
    refine ov_icne (tgt := 48) d_66_32 (by decide) (by omega) (by omega) (fun c10 => ?_) (fun c10 => ?_)
    · skip
      refine ov_blk (ls2 := [(0, ov_r 3)]) (st2 := [ov_i 1, ov_r 3]) (pc2 := 50) b_66_48_2 rfl rfl ?_
      refine ov_cV (as := [ov_i 1]) (st := []) (d2 := d - 1) d_66_50 lk_Reader_58 rfl (Nat.le_of_ble_eq_true rfl) (c := 6) (zb_3 I6) (zs_3 I6) ⟨by decide, rfl⟩ (by omega) (c_Reader_fail_3_k3_1_70 (d - 1) (by omega) U I6 (ov_kws hw (by decide +kernel)) 1 e8 (by omega) (by omega)) ?_
      rintro _ z13 h14 ⟨v12, rfl, I15, f11⟩
      show ov_R u d ov_m66 53 [(0, ov_r 3)] [ov_i v12] z13 h14 (P_Reader_readRule_3_k3_1_70 F z h)
      have f16 : v12 = 0 ∧ 1 ≤ (h14 3 2) ∧ (h14 36 7) = (h5 36 7) ∧ (h14 1 1) = (h5 1 1) ∧ (h14 90 2) = (h5 90 2) ∧ (h14 0 10) = (h5 0 10) ∧ (h14 0 11) = (h5 0 11) ∧ (h14 0 12) = (h5 0 12) ∧ (h14 0 13) = (h5 0 13) ∧ (h14 3 1) = (h5 3 1) ∧ (h14 36 8) = (h5 36 8) ∧ (h14 46 3) = (h5 46 3) ∧ (h14 46 4) = (h5 46 4) ∧ (h14 49 4) = (h5 49 4) ∧ (h14 49 5) = (h5 49 5) ∧ (h14 64 0) = (h5 64 0) ∧ (h14 76 0) = (h5 76 0) := f11
      clear f11
      have e17 : h14 3 1 = 70 := by omega
      exact ov_retz (st := []) d_66_53 rfl (by omega) ⟨_, rfl, I15, (by show (v12 = 0 ∧ 1 ≤ (h14 3 2) ∨ v12 = 1) ∧ (h14 36 7) = (h 36 7) ∧ (h14 1 1) = (h 1 1) ∧ (h14 90 2) = (h 90 2) ∧ (h14 0 10) = (h 0 10) ∧ (h14 0 11) = (h 0 11) ∧ (h14 0 12) = (h 0 12) ∧ (h14 0 13) = (h 0 13) ∧ (h14 3 1) = (h 3 1) ∧ (h14 36 8) = (h 36 8) ∧ (h14 46 3) = (h 46 3) ∧ (h14 46 4) = (h 46 4) ∧ (h14 49 4) = (h 49 4) ∧ (h14 49 5) = (h 49 5) ∧ (h14 64 0) = (h 64 0) ∧ (h14 76 0) = (h 76 0); omega)⟩
    · skip
      refine ov_blk (ls2 := [(0, ov_r 3)]) (st2 := [ov_r 3]) (pc2 := 36) b_66_35_1 rfl rfl ?_
      refine ov_getf (v := ov_r 1) d_66_36 fl_Reader_9 (zb_3 I6) (zs_3 I6) (congrArg ov_r (rg_3_0 I6)) ?_
      refine ov_getf (v := ov_l (h5 1 6)) d_66_39 fl_Reader_200 (zb_1 I6) (zs_1 I6) rfl ?_
      refine ov_cS (as := [ov_l (h5 1 6)]) (st := []) (d2 := d - 1) d_66_42 lk_Reader_204 rfl (Nat.le_of_ble_eq_true rfl) (by omega) (c_Reader_isReserved (d - 1) (by omega) U I6 (h5 1 6)) ?_
      rintro _ _ _ ⟨v19, rfl, rfl, rfl, f18⟩
      show ov_R u d ov_m66 45 [(0, ov_r 3)] [ov_i v19] z4 h5 (P_Reader_readRule_3_k3_1_70 F z h)
      have f20 : (v19 = 0 ∨ v19 = 1) := f18
      clear f18
      refine ov_ifeq (tgt := 54) d_66_45 (by decide) (by omega) (fun c21 => ?_) (fun c21 => ?_)
      · skip
        refine ov_blk (ls2 := [(0, ov_r 3)]) (st2 := [ov_r 3]) (pc2 := 55) b_66_54_1 rfl rfl ?_
        refine ov_getf (v := ov_r 70) d_66_55 fl_Reader_15 (zb_3 I6) (zs_3 I6) (congrArg ov_r e8) ?_
        refine ov_blk (ls2 := [(0, ov_r 3)]) (st2 := [ov_r 3, ov_r 70]) (pc2 := 59) b_66_58_1 rfl rfl ?_
        refine ov_getf (v := ov_r 1) d_66_59 fl_Reader_9 (zb_3 I6) (zs_3 I6) (congrArg ov_r (rg_3_0 I6)) ?_
        refine ov_getf (v := ov_l (h5 1 6)) d_66_62 fl_Reader_200 (zb_1 I6) (zs_1 I6) rfl ?_
        refine ov_cV (as := [ov_l (h5 1 6)]) (st := []) (d2 := d - 1) d_66_65 lk_Reader_207 rfl (Nat.le_of_ble_eq_true rfl) (c := 9) (zb_70 I6) (zs_70 I6) ⟨by decide, rfl⟩ (by omega) (c_Town_hasRule_70 (d - 1) (by omega) U I6 (h5 1 6)) ?_
        rintro _ _ _ ⟨v23, rfl, rfl, rfl, f22⟩
        show ov_R u d ov_m66 68 [(0, ov_r 3)] [ov_i v23] z4 h5 (P_Reader_readRule_3_k3_1_70 F z h)
        have f24 : (v23 = 0 ∨ v23 = 1) := f22
        clear f22
        refine ov_ifeq (tgt := 77) d_66_68 (by decide) (by omega) (fun c25 => ?_) (fun c25 => ?_)
        · skip
          refine ov_blk (ls2 := [(0, ov_r 3)]) (st2 := [ov_r 3]) (pc2 := 78) b_66_77_1 rfl rfl ?_
          refine ov_getf (v := ov_r 1) d_66_78 fl_Reader_9 (zb_3 I6) (zs_3 I6) (congrArg ov_r (rg_3_0 I6)) ?_
          refine ov_getf (v := ov_l (h5 1 6)) d_66_81 fl_Reader_200 (zb_1 I6) (zs_1 I6) rfl ?_
          refine ov_blk (ls2 := [(0, ov_r 3), (1, ov_l (h5 1 6))]) (st2 := [ov_r 3]) (pc2 := 86) b_66_84_2 rfl rfl ?_
          refine ov_getf (v := ov_r 1) d_66_86 fl_Reader_9 (zb_3 I6) (zs_3 I6) (congrArg ov_r (rg_3_0 I6)) ?_
          refine ov_cV (as := []) (st := []) (d2 := d - 1) d_66_89 lk_Reader_75 rfl (Nat.le_of_ble_eq_true rfl) (c := 8) (zb_1 I6) (zs_1 I6) ⟨by decide, rfl⟩ (by omega) (c_Tape_advance_1 (d - 1) (by omega) U I6 (ov_kws hw (by decide +kernel))) ?_
          rintro _ z27 h28 ⟨rfl, I29, f26⟩
          show ov_R u d ov_m66 92 [(0, ov_r 3), (1, ov_l (h5 1 6))] [] z27 h28 (P_Reader_readRule_3_k3_1_70 F z h)
          have f30 : (h28 3 3) = (h5 3 3) ∧ (h28 36 7) = (h5 36 7) ∧ (h28 1 1) = (h5 1 1) ∧ (h28 90 2) = (h5 90 2) ∧ (h28 0 10) = (h5 0 10) ∧ (h28 0 11) = (h5 0 11) ∧ (h28 0 12) = (h5 0 12) ∧ (h28 0 13) = (h5 0 13) ∧ (h28 3 1) = (h5 3 1) ∧ (h28 36 8) = (h5 36 8) ∧ (h28 46 3) = (h5 46 3) ∧ (h28 46 4) = (h5 46 4) ∧ (h28 49 4) = (h5 49 4) ∧ (h28 49 5) = (h5 49 5) ∧ (h28 64 0) = (h5 64 0) ∧ (h28 76 0) = (h5 76 0) := f26
          clear f26
          have e31 : h28 3 1 = 70 := by omega
          refine ov_blk (ls2 := [(0, ov_r 3), (1, ov_l (h5 1 6))]) (st2 := [ov_i 0, ov_r 3]) (pc2 := 94) b_66_92_2 rfl rfl ?_
          refine ov_cV (as := [ov_i 0]) (st := []) (d2 := d - 1) d_66_94 lk_Reader_210 rfl (Nat.le_of_ble_eq_true rfl) (c := 6) (zb_3 I29) (zs_3 I29) ⟨by decide, rfl⟩ (by omega) (c_Reader_readExpression_3_k3_1_70_all 5 (d - 1) (by omega) U I29 (ov_kws hw (by decide +kernel)) 0 e31 (by omega) (by omega)) ?_
          rintro _ z34 h35 ⟨v33, rfl, I36, f32⟩
          show ov_R u d ov_m66 97 [(0, ov_r 3), (1, ov_l (h5 1 6))] [ov_i v33] z34 h35 (P_Reader_readRule_3_k3_1_70 F z h)
          have f37 : (v33 = 0 ∧ 1 ≤ (h35 3 2) ∨ v33 = 1) ∧ (h35 36 7) = (h28 36 7) ∧ (h35 1 1) = (h28 1 1) ∧ (h35 90 2) = (h28 90 2) ∧ (h35 0 10) = (h28 0 10) ∧ (h35 0 11) = (h28 0 11) ∧ (h35 0 12) = (h28 0 12) ∧ (h35 0 13) = (h28 0 13) ∧ (h35 3 1) = (h28 3 1) ∧ (h35 36 8) = (h28 36 8) ∧ (h35 46 3) = (h28 46 3) ∧ (h35 46 4) = (h28 46 4) ∧ (h35 49 4) = (h28 49 4) ∧ (h35 49 5) = (h28 49 5) ∧ (h35 64 0) = (h28 64 0) ∧ (h35 76 0) = (h28 76 0) := f32
          clear f32
          have e38 : h35 3 1 = 70 := by omega
          refine ov_ifne (tgt := 102) d_66_97 (by decide) (by omega) (fun c39 => ?_) (fun c39 => ?_)
          · skip
            refine ov_blk (ls2 := [(0, ov_r 3), (1, ov_l (h5 1 6))]) (st2 := [ov_r 3]) (pc2 := 103) b_66_102_1 rfl rfl ?_
            refine ov_getf (v := ov_r 70) d_66_103 fl_Reader_15 (zb_3 I36) (zs_3 I36) (congrArg ov_r e38) ?_
            refine ov_blk (ls2 := [(0, ov_r 3), (1, ov_l (h5 1 6))]) (st2 := [ov_l (h5 1 6), ov_r 70]) (pc2 := 107) b_66_106_1 rfl rfl ?_
            refine ov_cV (as := [ov_l (h5 1 6)]) (st := []) (d2 := d - 1) d_66_107 lk_Reader_213 rfl (Nat.le_of_ble_eq_true rfl) (c := 9) (zb_70 I36) (zs_70 I36) ⟨by decide, rfl⟩ (by omega) (c_Town_addRule_70 (d - 1) (by omega) U I36 (ov_kws hw (by decide +kernel)) (h5 1 6)) ?_
            rintro _ z41 h42 ⟨rfl, I43, f40⟩
            show ov_R u d ov_m66 110 [(0, ov_r 3), (1, ov_l (h5 1 6))] [] z41 h42 (P_Reader_readRule_3_k3_1_70 F z h)
            have f44 : (h42 36 7) = (h35 36 7) ∧ (h42 1 1) = (h35 1 1) ∧ (h42 90 2) = (h35 90 2) ∧ (h42 0 10) = (h35 0 10) ∧ (h42 0 11) = (h35 0 11) ∧ (h42 0 12) = (h35 0 12) ∧ (h42 0 13) = (h35 0 13) ∧ (h42 3 1) = (h35 3 1) ∧ (h42 36 8) = (h35 36 8) ∧ (h42 46 3) = (h35 46 3) ∧ (h42 46 4) = (h35 46 4) ∧ (h42 49 4) = (h35 49 4) ∧ (h42 49 5) = (h35 49 5) ∧ (h42 64 0) = (h35 64 0) ∧ (h42 76 0) = (h35 76 0) := f40
            clear f40
            have e45 : h42 3 1 = 70 := by omega
            refine ov_blk (ls2 := [(0, ov_r 3), (1, ov_l (h5 1 6))]) (st2 := [ov_i 59, ov_r 3]) (pc2 := 113) b_66_110_2 rfl rfl ?_
            refine ov_cV (as := [ov_i 59]) (st := []) (d2 := d - 1) d_66_113 lk_Reader_92 rfl (Nat.le_of_ble_eq_true rfl) (c := 6) (zb_3 I43) (zs_3 I43) ⟨by decide, rfl⟩ (by omega) (c_Reader_takeSign_3_k3_1_70 (d - 1) (by omega) U I43 (ov_kws hw (by decide +kernel)) 59 e45 (by omega)) ?_
            rintro _ z48 h49 ⟨v47, rfl, I50, f46⟩
            show ov_R u d ov_m66 116 [(0, ov_r 3), (1, ov_l (h5 1 6))] [ov_i v47] z48 h49 (P_Reader_readRule_3_k3_1_70 F z h)
            have f51 : (v47 = 0 ∧ 1 ≤ (h49 3 2) ∨ v47 = 1) ∧ (h49 36 7) = (h42 36 7) ∧ (h49 1 1) = (h42 1 1) ∧ (h49 90 2) = (h42 90 2) ∧ (h49 0 10) = (h42 0 10) ∧ (h49 0 11) = (h42 0 11) ∧ (h49 0 12) = (h42 0 12) ∧ (h49 0 13) = (h42 0 13) ∧ (h49 3 1) = (h42 3 1) ∧ (h49 36 8) = (h42 36 8) ∧ (h49 46 3) = (h42 46 3) ∧ (h49 46 4) = (h42 46 4) ∧ (h49 49 4) = (h42 49 4) ∧ (h49 49 5) = (h42 49 5) ∧ (h49 64 0) = (h42 64 0) ∧ (h49 76 0) = (h42 76 0) := f46
            clear f46
            have e52 : h49 3 1 = 70 := by omega
            exact ov_retz (st := []) d_66_116 rfl (by omega) ⟨_, rfl, I50, (by show (v47 = 0 ∧ 1 ≤ (h49 3 2) ∨ v47 = 1) ∧ (h49 36 7) = (h 36 7) ∧ (h49 1 1) = (h 1 1) ∧ (h49 90 2) = (h 90 2) ∧ (h49 0 10) = (h 0 10) ∧ (h49 0 11) = (h 0 11) ∧ (h49 0 12) = (h 0 12) ∧ (h49 0 13) = (h 0 13) ∧ (h49 3 1) = (h 3 1) ∧ (h49 36 8) = (h 36 8) ∧ (h49 46 3) = (h 46 3) ∧ (h49 46 4) = (h 46 4) ∧ (h49 49 4) = (h 49 4) ∧ (h49 49 5) = (h 49 5) ∧ (h49 64 0) = (h 64 0) ∧ (h49 76 0) = (h 76 0); omega)⟩
          · skip
            refine ov_blk (ls2 := [(0, ov_r 3), (1, ov_l (h5 1 6))]) (st2 := [ov_i 0]) (pc2 := 101) b_66_100_1 rfl rfl ?_
            exact ov_retz (st := []) d_66_101 rfl (by omega) ⟨_, rfl, I36, (by show (0 = 0 ∧ 1 ≤ (h35 3 2) ∨ 0 = 1) ∧ (h35 36 7) = (h 36 7) ∧ (h35 1 1) = (h 1 1) ∧ (h35 90 2) = (h 90 2) ∧ (h35 0 10) = (h 0 10) ∧ (h35 0 11) = (h 0 11) ∧ (h35 0 12) = (h 0 12) ∧ (h35 0 13) = (h 0 13) ∧ (h35 3 1) = (h 3 1) ∧ (h35 36 8) = (h 36 8) ∧ (h35 46 3) = (h 46 3) ∧ (h35 46 4) = (h 46 4) ∧ (h35 49 4) = (h 49 4) ∧ (h35 49 5) = (h 49 5) ∧ (h35 64 0) = (h 64 0) ∧ (h35 76 0) = (h 76 0); omega)⟩
        · skip
          refine ov_blk (ls2 := [(0, ov_r 3)]) (st2 := [ov_i 3, ov_r 3]) (pc2 := 73) b_66_71_2 rfl rfl ?_
          refine ov_cV (as := [ov_i 3]) (st := []) (d2 := d - 1) d_66_73 lk_Reader_58 rfl (Nat.le_of_ble_eq_true rfl) (c := 6) (zb_3 I6) (zs_3 I6) ⟨by decide, rfl⟩ (by omega) (c_Reader_fail_3_k3_1_70 (d - 1) (by omega) U I6 (ov_kws hw (by decide +kernel)) 3 e8 (by omega) (by omega)) ?_
          rintro _ z55 h56 ⟨v54, rfl, I57, f53⟩
          show ov_R u d ov_m66 76 [(0, ov_r 3)] [ov_i v54] z55 h56 (P_Reader_readRule_3_k3_1_70 F z h)
          have f58 : v54 = 0 ∧ 1 ≤ (h56 3 2) ∧ (h56 36 7) = (h5 36 7) ∧ (h56 1 1) = (h5 1 1) ∧ (h56 90 2) = (h5 90 2) ∧ (h56 0 10) = (h5 0 10) ∧ (h56 0 11) = (h5 0 11) ∧ (h56 0 12) = (h5 0 12) ∧ (h56 0 13) = (h5 0 13) ∧ (h56 3 1) = (h5 3 1) ∧ (h56 36 8) = (h5 36 8) ∧ (h56 46 3) = (h5 46 3) ∧ (h56 46 4) = (h5 46 4) ∧ (h56 49 4) = (h5 49 4) ∧ (h56 49 5) = (h5 49 5) ∧ (h56 64 0) = (h5 64 0) ∧ (h56 76 0) = (h5 76 0) := f53
          clear f53
          have e59 : h56 3 1 = 70 := by omega
          exact ov_retz (st := []) d_66_76 rfl (by omega) ⟨_, rfl, I57, (by show (v54 = 0 ∧ 1 ≤ (h56 3 2) ∨ v54 = 1) ∧ (h56 36 7) = (h 36 7) ∧ (h56 1 1) = (h 1 1) ∧ (h56 90 2) = (h 90 2) ∧ (h56 0 10) = (h 0 10) ∧ (h56 0 11) = (h 0 11) ∧ (h56 0 12) = (h 0 12) ∧ (h56 0 13) = (h 0 13) ∧ (h56 3 1) = (h 3 1) ∧ (h56 36 8) = (h 36 8) ∧ (h56 46 3) = (h 46 3) ∧ (h56 46 4) = (h 46 4) ∧ (h56 49 4) = (h 49 4) ∧ (h56 49 5) = (h 49 5) ∧ (h56 64 0) = (h 64 0) ∧ (h56 76 0) = (h 76 0); omega)⟩
      · skip
        refine ov_blk (ls2 := [(0, ov_r 3)]) (st2 := [ov_i 1, ov_r 3]) (pc2 := 50) b_66_48_2 rfl rfl ?_
        refine ov_cV (as := [ov_i 1]) (st := []) (d2 := d - 1) d_66_50 lk_Reader_58 rfl (Nat.le_of_ble_eq_true rfl) (c := 6) (zb_3 I6) (zs_3 I6) ⟨by decide, rfl⟩ (by omega) (c_Reader_fail_3_k3_1_70 (d - 1) (by omega) U I6 (ov_kws hw (by decide +kernel)) 1 e8 (by omega) (by omega)) ?_
        rintro _ z62 h63 ⟨v61, rfl, I64, f60⟩
        show ov_R u d ov_m66 53 [(0, ov_r 3)] [ov_i v61] z62 h63 (P_Reader_readRule_3_k3_1_70 F z h)
        have f65 : v61 = 0 ∧ 1 ≤ (h63 3 2) ∧ (h63 36 7) = (h5 36 7) ∧ (h63 1 1) = (h5 1 1) ∧ (h63 90 2) = (h5 90 2) ∧ (h63 0 10) = (h5 0 10) ∧ (h63 0 11) = (h5 0 11) ∧ (h63 0 12) = (h5 0 12) ∧ (h63 0 13) = (h5 0 13) ∧ (h63 3 1) = (h5 3 1) ∧ (h63 36 8) = (h5 36 8) ∧ (h63 46 3) = (h5 46 3) ∧ (h63 46 4) = (h5 46 4) ∧ (h63 49 4) = (h5 49 4) ∧ (h63 49 5) = (h5 49 5) ∧ (h63 64 0) = (h5 64 0) ∧ (h63 76 0) = (h5 76 0) := f60
        clear f60
        have e66 : h63 3 1 = 70 := by omega
        exact ov_retz (st := []) d_66_53 rfl (by omega) ⟨_, rfl, I64, (by show (v61 = 0 ∧ 1 ≤ (h63 3 2) ∨ v61 = 1) ∧ (h63 36 7) = (h 36 7) ∧ (h63 1 1) = (h 1 1) ∧ (h63 90 2) = (h 90 2) ∧ (h63 0 10) = (h 0 10) ∧ (h63 0 11) = (h 0 11) ∧ (h63 0 12) = (h 0 12) ∧ (h63 0 13) = (h 0 13) ∧ (h63 3 1) = (h 3 1) ∧ (h63 36 8) = (h 36 8) ∧ (h63 46 3) = (h 46 3) ∧ (h63 46 4) = (h 46 4) ∧ (h63 49 4) = (h 49 4) ∧ (h63 49 5) = (h 49 5) ∧ (h63 64 0) = (h 64 0) ∧ (h63 76 0) = (h 76 0); omega)⟩
  · skip
    refine ov_blk (ls2 := [(0, ov_r 3)]) (st2 := [ov_i 5, ov_r 3]) (pc2 := 13) b_66_11_2 rfl rfl ?_
    refine ov_cV (as := [ov_i 5]) (st := []) (d2 := d - 1) d_66_13 lk_Reader_58 rfl (Nat.le_of_ble_eq_true rfl) (c := 6) (zb_3 I) (zs_3 I) ⟨by decide, rfl⟩ (by omega) (c_Reader_fail_3_k3_1_70 (d - 1) (by omega) U I (ov_kws hw (by decide +kernel)) 5 k0 (by omega) (by omega)) ?_
    rintro _ z69 h70 ⟨v68, rfl, I71, f67⟩
    show ov_R u d ov_m66 16 [(0, ov_r 3)] [ov_i v68] z69 h70 (P_Reader_readRule_3_k3_1_70 F z h)
    have f72 : v68 = 0 ∧ 1 ≤ (h70 3 2) ∧ (h70 36 7) = (h 36 7) ∧ (h70 1 1) = (h 1 1) ∧ (h70 90 2) = (h 90 2) ∧ (h70 0 10) = (h 0 10) ∧ (h70 0 11) = (h 0 11) ∧ (h70 0 12) = (h 0 12) ∧ (h70 0 13) = (h 0 13) ∧ (h70 3 1) = (h 3 1) ∧ (h70 36 8) = (h 36 8) ∧ (h70 46 3) = (h 46 3) ∧ (h70 46 4) = (h 46 4) ∧ (h70 49 4) = (h 49 4) ∧ (h70 49 5) = (h 49 5) ∧ (h70 64 0) = (h 64 0) ∧ (h70 76 0) = (h 76 0) := f67
    clear f67
    have e73 : h70 3 1 = 70 := by omega
    exact ov_retz (st := []) d_66_16 rfl (by omega) ⟨_, rfl, I71, (by show (v68 = 0 ∧ 1 ≤ (h70 3 2) ∨ v68 = 1) ∧ (h70 36 7) = (h 36 7) ∧ (h70 1 1) = (h 1 1) ∧ (h70 90 2) = (h 90 2) ∧ (h70 0 10) = (h 0 10) ∧ (h70 0 11) = (h 0 11) ∧ (h70 0 12) = (h 0 12) ∧ (h70 0 13) = (h 0 13) ∧ (h70 3 1) = (h 3 1) ∧ (h70 36 8) = (h 36 8) ∧ (h70 46 3) = (h 46 3) ∧ (h70 46 4) = (h 46 4) ∧ (h70 49 4) = (h 49 4) ∧ (h70 49 5) = (h 49 5) ∧ (h70 64 0) = (h 64 0) ∧ (h70 76 0) = (h 76 0); omega)⟩
abbrev P_Reader_readChild_3_k3_1_70 (F : ov_H) (z : ov_Z) (h : ov_H)  : Option ov_V → ov_Z → ov_H → Prop := fun r0 z' h' => ∃ r : Int, r0 = some (ov_i r) ∧ ov_I F z' h' ∧ ((r = 0 ∧ 1 ≤ (h' 3 2) ∨ r = 1) ∧ (h' 36 7) = (h 36 7) ∧ (h' 1 1) = (h 1 1) ∧ (h' 90 2) = (h 90 2) ∧ (h' 0 10) = (h 0 10) ∧ (h' 0 11) = (h 0 11) ∧ (h' 0 12) = (h 0 12) ∧ (h' 0 13) = (h 0 13) ∧ (h' 3 1) = (h 3 1) ∧ (h' 36 8) = (h 36 8) ∧ (h' 46 3) = (h 46 3) ∧ (h' 46 4) = (h 46 4) ∧ (h' 49 4) = (h 49 4) ∧ (h' 49 5) = (h 49 5) ∧ (h' 64 0) = (h 64 0) ∧ (h' 76 0) = (h 76 0))
set_option maxHeartbeats 4000000 in
theorem c_Reader_readChild_3_k3_1_70 {u : ov_U} {F : ov_H} {z : ov_Z} {h : ov_H} (d : Nat) (hd : 6 ≤ d) (U : ov_cap u) (I : ov_I F z h) (hw : ov_kw 1180591620717411303434 F) (k0 : h 3 1 = 70) : ov_T u d ov_m78 [ov_r 3] z h (P_Reader_readChild_3_k3_1_70 F z h) := by
  refine ov_en rfl (Nat.le_of_ble_eq_true rfl) ?_
  show ov_R u d ov_m78 0 [(0, ov_r 3)] [] z h (P_Reader_readChild_3_k3_1_70 F z h)
  refine ov_blk (ls2 := [(0, ov_r 3)]) (st2 := [ov_r 3]) (pc2 := 1) b_78_0_1 rfl rfl ?_
  refine ov_getf (v := ov_r 70) d_78_1 fl_Reader_15 (zb_3 I) (zs_3 I) (congrArg ov_r k0) ?_
  refine ov_getf (v := ov_i (h 70 8)) d_78_4 fl_Reader_193 (zb_70 I) (zs_70 I) rfl ?_
  have g1 := rg_70_8 I
  refine ov_ifeq (tgt := 16) d_78_7 (by decide) (by omega) (fun c2 => ?_) (fun c2 => ?_)
  · skip
    refine ov_blk (ls2 := [(0, ov_r 3)]) (st2 := [ov_r 3]) (pc2 := 17) b_78_16_1 rfl rfl ?_
    refine ov_getf (v := ov_r 70) d_78_17 fl_Reader_15 (zb_3 I) (zs_3 I) (congrArg ov_r k0) ?_
    refine ov_blk (ls2 := [(0, ov_r 3)]) (st2 := [ov_i 1, ov_r 70]) (pc2 := 21) b_78_20_1 rfl rfl ?_
    refine ov_putf (x := 1) d_78_21 fl_Reader_193 (zb_70 I) (zs_70 I) rfl (nk_3 (by omega)) rfl ?_
    have I3 := up_70_8 (x := 1) I (by omega) (hw 70 (by decide +kernel))
    refine ov_blk (ls2 := [(0, ov_r 3)]) (st2 := [ov_r 3]) (pc2 := 25) b_78_24_1 rfl rfl ?_
    refine ov_getf (v := ov_r 1) d_78_25 fl_Reader_9 (zb_3 I3) (zs_3 I3) (congrArg ov_r (rg_3_0 I3)) ?_
    refine ov_cV (as := []) (st := []) (d2 := d - 1) d_78_28 lk_Reader_75 rfl (Nat.le_of_ble_eq_true rfl) (c := 8) (zb_1 I3) (zs_1 I3) ⟨by decide, rfl⟩ (by omega) (c_Tape_advance_1 (d - 1) (by omega) U I3 (ov_kws hw (by decide +kernel))) ?_
    rintro _ z5 h6 ⟨rfl, I7, f4⟩
    show ov_R u d ov_m78 31 [(0, ov_r 3)] [] z5 h6 (P_Reader_readChild_3_k3_1_70 F z h)
    have f8 : (h6 3 3) = (h 3 3) ∧ (h6 36 7) = (h 36 7) ∧ (h6 1 1) = (h 1 1) ∧ (h6 90 2) = (h 90 2) ∧ (h6 0 10) = (h 0 10) ∧ (h6 0 11) = (h 0 11) ∧ (h6 0 12) = (h 0 12) ∧ (h6 0 13) = (h 0 13) ∧ (h6 3 1) = (h 3 1) ∧ (h6 36 8) = (h 36 8) ∧ (h6 46 3) = (h 46 3) ∧ (h6 46 4) = (h 46 4) ∧ (h6 49 4) = (h 49 4) ∧ (h6 49 5) = (h 49 5) ∧ (h6 64 0) = (h 64 0) ∧ (h6 76 0) = (h 76 0) := f4
    clear f4
    have e9 : h6 3 1 = 70 := by omega
    refine ov_blk (ls2 := [(0, ov_r 3)]) (st2 := [ov_i 59, ov_r 3]) (pc2 := 34) b_78_31_2 rfl rfl ?_
    refine ov_cV (as := [ov_i 59]) (st := []) (d2 := d - 1) d_78_34 lk_Reader_92 rfl (Nat.le_of_ble_eq_true rfl) (c := 6) (zb_3 I7) (zs_3 I7) ⟨by decide, rfl⟩ (by omega) (c_Reader_takeSign_3_k3_1_70 (d - 1) (by omega) U I7 (ov_kws hw (by decide +kernel)) 59 e9 (by omega)) ?_
    rintro _ z12 h13 ⟨v11, rfl, I14, f10⟩
    show ov_R u d ov_m78 37 [(0, ov_r 3)] [ov_i v11] z12 h13 (P_Reader_readChild_3_k3_1_70 F z h)
    have f15 : (v11 = 0 ∧ 1 ≤ (h13 3 2) ∨ v11 = 1) ∧ (h13 36 7) = (h6 36 7) ∧ (h13 1 1) = (h6 1 1) ∧ (h13 90 2) = (h6 90 2) ∧ (h13 0 10) = (h6 0 10) ∧ (h13 0 11) = (h6 0 11) ∧ (h13 0 12) = (h6 0 12) ∧ (h13 0 13) = (h6 0 13) ∧ (h13 3 1) = (h6 3 1) ∧ (h13 36 8) = (h6 36 8) ∧ (h13 46 3) = (h6 46 3) ∧ (h13 46 4) = (h6 46 4) ∧ (h13 49 4) = (h6 49 4) ∧ (h13 49 5) = (h6 49 5) ∧ (h13 64 0) = (h6 64 0) ∧ (h13 76 0) = (h6 76 0) := f10
    clear f10
    have e16 : h13 3 1 = 70 := by omega
    exact ov_retz (st := []) d_78_37 rfl (by omega) ⟨_, rfl, I14, (by show (v11 = 0 ∧ 1 ≤ (h13 3 2) ∨ v11 = 1) ∧ (h13 36 7) = (h 36 7) ∧ (h13 1 1) = (h 1 1) ∧ (h13 90 2) = (h 90 2) ∧ (h13 0 10) = (h 0 10) ∧ (h13 0 11) = (h 0 11) ∧ (h13 0 12) = (h 0 12) ∧ (h13 0 13) = (h 0 13) ∧ (h13 3 1) = (h 3 1) ∧ (h13 36 8) = (h 36 8) ∧ (h13 46 3) = (h 46 3) ∧ (h13 46 4) = (h 46 4) ∧ (h13 49 4) = (h 49 4) ∧ (h13 49 5) = (h 49 5) ∧ (h13 64 0) = (h 64 0) ∧ (h13 76 0) = (h 76 0); omega)⟩
  · skip
    refine ov_blk (ls2 := [(0, ov_r 3)]) (st2 := [ov_i 3, ov_r 3]) (pc2 := 12) b_78_10_2 rfl rfl ?_
    refine ov_cV (as := [ov_i 3]) (st := []) (d2 := d - 1) d_78_12 lk_Reader_58 rfl (Nat.le_of_ble_eq_true rfl) (c := 6) (zb_3 I) (zs_3 I) ⟨by decide, rfl⟩ (by omega) (c_Reader_fail_3_k3_1_70 (d - 1) (by omega) U I (ov_kws hw (by decide +kernel)) 3 k0 (by omega) (by omega)) ?_
    rintro _ z19 h20 ⟨v18, rfl, I21, f17⟩
    show ov_R u d ov_m78 15 [(0, ov_r 3)] [ov_i v18] z19 h20 (P_Reader_readChild_3_k3_1_70 F z h)
    have f22 : v18 = 0 ∧ 1 ≤ (h20 3 2) ∧ (h20 36 7) = (h 36 7) ∧ (h20 1 1) = (h 1 1) ∧ (h20 90 2) = (h 90 2) ∧ (h20 0 10) = (h 0 10) ∧ (h20 0 11) = (h 0 11) ∧ (h20 0 12) = (h 0 12) ∧ (h20 0 13) = (h 0 13) ∧ (h20 3 1) = (h 3 1) ∧ (h20 36 8) = (h 36 8) ∧ (h20 46 3) = (h 46 3) ∧ (h20 46 4) = (h 46 4) ∧ (h20 49 4) = (h 49 4) ∧ (h20 49 5) = (h 49 5) ∧ (h20 64 0) = (h 64 0) ∧ (h20 76 0) = (h 76 0) := f17
    clear f17
    have e23 : h20 3 1 = 70 := by omega
    exact ov_retz (st := []) d_78_15 rfl (by omega) ⟨_, rfl, I21, (by show (v18 = 0 ∧ 1 ≤ (h20 3 2) ∨ v18 = 1) ∧ (h20 36 7) = (h 36 7) ∧ (h20 1 1) = (h 1 1) ∧ (h20 90 2) = (h 90 2) ∧ (h20 0 10) = (h 0 10) ∧ (h20 0 11) = (h 0 11) ∧ (h20 0 12) = (h 0 12) ∧ (h20 0 13) = (h 0 13) ∧ (h20 3 1) = (h 3 1) ∧ (h20 36 8) = (h 36 8) ∧ (h20 46 3) = (h 46 3) ∧ (h20 46 4) = (h 46 4) ∧ (h20 49 4) = (h 49 4) ∧ (h20 49 5) = (h 49 5) ∧ (h20 64 0) = (h 64 0) ∧ (h20 76 0) = (h 76 0); omega)⟩
abbrev P_Reader_readSetting_3_k3_1_70 (F : ov_H) (z : ov_Z) (h : ov_H) (w : Int) (a : Int) (b : Int) : Option ov_V → ov_Z → ov_H → Prop := fun r0 z' h' => ∃ r : Int, r0 = some (ov_i r) ∧ ov_I F z' h' ∧ ((r = 0 ∧ 1 ≤ (h' 3 2) ∨ r = 1) ∧ (h' 36 7) = (h 36 7) ∧ (h' 1 1) = (h 1 1) ∧ (h' 90 2) = (h 90 2) ∧ (h' 0 10) = (h 0 10) ∧ (h' 0 11) = (h 0 11) ∧ (h' 0 12) = (h 0 12) ∧ (h' 0 13) = (h 0 13) ∧ (h' 3 1) = (h 3 1) ∧ (h' 36 8) = (h 36 8) ∧ (h' 46 3) = (h 46 3) ∧ (h' 46 4) = (h 46 4) ∧ (h' 49 4) = (h 49 4) ∧ (h' 49 5) = (h 49 5) ∧ (h' 64 0) = (h 64 0))
set_option maxHeartbeats 4000000 in
theorem c_Reader_readSetting_3_k3_1_70 {u : ov_U} {F : ov_H} {z : ov_Z} {h : ov_H} (d : Nat) (hd : 6 ≤ d) (U : ov_cap u) (I : ov_I F z h) (hw : ov_kw 75557863725914323419146 F) (w : Int) (a : Int) (b : Int) (k0 : h 3 1 = 70) (g_w : ov_g w) (g_a : ov_g a) (g_b : ov_g b) (p0 : 0 ≤ w ∧ w ≤ 3) (p1 : 0 ≤ a ∧ b ≤ 30 ∧ (w = 3 → b ≤ 9)) : ov_T u d ov_m77 [ov_r 3, ov_i w, ov_i a, ov_i b] z h (P_Reader_readSetting_3_k3_1_70 F z h w a b) := by
  refine ov_en rfl (Nat.le_of_ble_eq_true rfl) ?_
  show ov_R u d ov_m77 0 [(0, ov_r 3), (1, ov_i w), (2, ov_i a), (3, ov_i b)] [] z h (P_Reader_readSetting_3_k3_1_70 F z h w a b)
  refine ov_blk (ls2 := [(0, ov_r 3), (1, ov_i w), (2, ov_i a), (3, ov_i b)]) (st2 := [ov_r 3]) (pc2 := 1) b_77_0_1 rfl rfl ?_
  refine ov_getf (v := ov_r 70) d_77_1 fl_Reader_15 (zb_3 I) (zs_3 I) (congrArg ov_r k0) ?_
  refine ov_getf (v := ov_r 76) d_77_4 fl_Reader_190 (zb_70 I) (zs_70 I) (congrArg ov_r (rg_70_7 I)) ?_
  refine ov_blk (ls2 := [(0, ov_r 3), (1, ov_i w), (2, ov_i a), (3, ov_i b)]) (st2 := [ov_i w, ov_r 76]) (pc2 := 8) b_77_7_1 rfl rfl ?_
  refine ov_iald d_77_8 (zb_76 I) (zs_76 I) (by omega) ?_
  have g1 := ra_76 I w
  refine ov_blk (ls2 := [(0, ov_r 3), (1, ov_i w), (2, ov_i a), (3, ov_i b)]) (st2 := [ov_i (-1), ov_i (h 76 w)]) (pc2 := 10) b_77_9_1 rfl rfl ?_
  refine ov_iceq (tgt := 19) d_77_10 (by decide) (by omega) (by omega) (fun c2 => ?_) (fun c2 => ?_)
  · skip
    refine ov_blk (ls2 := [(0, ov_r 3), (1, ov_i w), (2, ov_i a), (3, ov_i b)]) (st2 := [ov_r 3]) (pc2 := 20) b_77_19_1 rfl rfl ?_
    refine ov_getf (v := ov_r 1) d_77_20 fl_Reader_9 (zb_3 I) (zs_3 I) (congrArg ov_r (rg_3_0 I)) ?_
    refine ov_cV (as := []) (st := []) (d2 := d - 1) d_77_23 lk_Reader_75 rfl (Nat.le_of_ble_eq_true rfl) (c := 8) (zb_1 I) (zs_1 I) ⟨by decide, rfl⟩ (by omega) (c_Tape_advance_1 (d - 1) (by omega) U I (ov_kws hw (by decide +kernel))) ?_
    rintro _ z4 h5 ⟨rfl, I6, f3⟩
    show ov_R u d ov_m77 26 [(0, ov_r 3), (1, ov_i w), (2, ov_i a), (3, ov_i b)] [] z4 h5 (P_Reader_readSetting_3_k3_1_70 F z h w a b)
    have f7 : (h5 3 3) = (h 3 3) ∧ (h5 36 7) = (h 36 7) ∧ (h5 1 1) = (h 1 1) ∧ (h5 90 2) = (h 90 2) ∧ (h5 0 10) = (h 0 10) ∧ (h5 0 11) = (h 0 11) ∧ (h5 0 12) = (h 0 12) ∧ (h5 0 13) = (h 0 13) ∧ (h5 3 1) = (h 3 1) ∧ (h5 36 8) = (h 36 8) ∧ (h5 46 3) = (h 46 3) ∧ (h5 46 4) = (h 46 4) ∧ (h5 49 4) = (h 49 4) ∧ (h5 49 5) = (h 49 5) ∧ (h5 64 0) = (h 64 0) ∧ (h5 76 0) = (h 76 0) := f3
    clear f3
    have e8 : h5 3 1 = 70 := by omega
    refine ov_blk (ls2 := [(0, ov_r 3), (1, ov_i w), (2, ov_i a), (3, ov_i b)]) (st2 := [ov_i b, ov_i a, ov_r 3]) (pc2 := 29) b_77_26_3 rfl rfl ?_
    refine ov_cV (as := [ov_i a, ov_i b]) (st := []) (d2 := d - 1) d_77_29 lk_Reader_78 rfl (Nat.le_of_ble_eq_true rfl) (c := 6) (zb_3 I6) (zs_3 I6) ⟨by decide, rfl⟩ (by omega) (c_Reader_takeNumber_3_k3_1_70 (d - 1) (by omega) U I6 (ov_kws hw (by decide +kernel)) a b e8 (by omega) (by omega)) ?_
    rintro _ z11 h12 ⟨v10, rfl, I13, f9⟩
    show ov_R u d ov_m77 32 [(0, ov_r 3), (1, ov_i w), (2, ov_i a), (3, ov_i b)] [ov_i v10] z11 h12 (P_Reader_readSetting_3_k3_1_70 F z h w a b)
    have f14 : (v10 = 0 ∧ 1 ≤ (h12 3 2) ∨ v10 = 1 ∧ a ≤ (h12 3 3) ∧ (h12 3 3) ≤ b) ∧ (h12 36 7) = (h5 36 7) ∧ (h12 1 1) = (h5 1 1) ∧ (h12 90 2) = (h5 90 2) ∧ (h12 0 10) = (h5 0 10) ∧ (h12 0 11) = (h5 0 11) ∧ (h12 0 12) = (h5 0 12) ∧ (h12 0 13) = (h5 0 13) ∧ (h12 3 1) = (h5 3 1) ∧ (h12 36 8) = (h5 36 8) ∧ (h12 46 3) = (h5 46 3) ∧ (h12 46 4) = (h5 46 4) ∧ (h12 49 4) = (h5 49 4) ∧ (h12 49 5) = (h5 49 5) ∧ (h12 64 0) = (h5 64 0) ∧ (h12 76 0) = (h5 76 0) := f9
    clear f9
    have e15 : h12 3 1 = 70 := by omega
    refine ov_ifne (tgt := 37) d_77_32 (by decide) (by omega) (fun c16 => ?_) (fun c16 => ?_)
    · skip
      refine ov_blk (ls2 := [(0, ov_r 3), (1, ov_i w), (2, ov_i a), (3, ov_i b)]) (st2 := [ov_r 3]) (pc2 := 38) b_77_37_1 rfl rfl ?_
      refine ov_getf (v := ov_r 70) d_77_38 fl_Reader_15 (zb_3 I13) (zs_3 I13) (congrArg ov_r e15) ?_
      refine ov_getf (v := ov_r 76) d_77_41 fl_Reader_190 (zb_70 I13) (zs_70 I13) (congrArg ov_r (rg_70_7 I13)) ?_
      refine ov_blk (ls2 := [(0, ov_r 3), (1, ov_i w), (2, ov_i a), (3, ov_i b)]) (st2 := [ov_r 3, ov_i w, ov_r 76]) (pc2 := 46) b_77_44_2 rfl rfl ?_
      refine ov_getf (v := ov_i (h12 3 3)) d_77_46 fl_Reader_81 (zb_3 I13) (zs_3 I13) rfl ?_
      have g17 := rg_3_3 I13
      refine ov_iast d_77_49 (zb_76 I13) (zs_76 I13) (by omega) ?_
      have I18 := ua_76 (k := w) (x := (h12 3 3)) I13 (by omega) (hw 76 (by decide +kernel))
      refine ov_blk (ls2 := [(0, ov_r 3), (1, ov_i w), (2, ov_i a), (3, ov_i b)]) (st2 := [ov_i 59, ov_r 3]) (pc2 := 53) b_77_50_2 rfl rfl ?_
      refine ov_cV (as := [ov_i 59]) (st := []) (d2 := d - 1) d_77_53 lk_Reader_92 rfl (Nat.le_of_ble_eq_true rfl) (c := 6) (zb_3 I18) (zs_3 I18) ⟨by decide, rfl⟩ (by omega) (c_Reader_takeSign_3_k3_1_70 (d - 1) (by omega) U I18 (ov_kws hw (by decide +kernel)) 59 e15 (by omega)) ?_
      rintro _ z21 h22 ⟨v20, rfl, I23, f19⟩
      show ov_R u d ov_m77 56 [(0, ov_r 3), (1, ov_i w), (2, ov_i a), (3, ov_i b)] [ov_i v20] z21 h22 (P_Reader_readSetting_3_k3_1_70 F z h w a b)
      have f24 : (v20 = 0 ∧ 1 ≤ (h22 3 2) ∨ v20 = 1) ∧ (h22 36 7) = (h12 36 7) ∧ (h22 1 1) = (h12 1 1) ∧ (h22 90 2) = (h12 90 2) ∧ (h22 0 10) = (h12 0 10) ∧ (h22 0 11) = (h12 0 11) ∧ (h22 0 12) = (h12 0 12) ∧ (h22 0 13) = (h12 0 13) ∧ (h22 3 1) = (h12 3 1) ∧ (h22 36 8) = (h12 36 8) ∧ (h22 46 3) = (h12 46 3) ∧ (h22 46 4) = (h12 46 4) ∧ (h22 49 4) = (h12 49 4) ∧ (h22 49 5) = (h12 49 5) ∧ (h22 64 0) = (h12 64 0) ∧ (h22 76 0) = ((ov_up h12 76 w (h12 3 3)) 76 0) := f19
      clear f19
      have e25 : h22 3 1 = 70 := by omega
      exact ov_retz (st := []) d_77_56 rfl (by omega) ⟨_, rfl, I23, (by show (v20 = 0 ∧ 1 ≤ (h22 3 2) ∨ v20 = 1) ∧ (h22 36 7) = (h 36 7) ∧ (h22 1 1) = (h 1 1) ∧ (h22 90 2) = (h 90 2) ∧ (h22 0 10) = (h 0 10) ∧ (h22 0 11) = (h 0 11) ∧ (h22 0 12) = (h 0 12) ∧ (h22 0 13) = (h 0 13) ∧ (h22 3 1) = (h 3 1) ∧ (h22 36 8) = (h 36 8) ∧ (h22 46 3) = (h 46 3) ∧ (h22 46 4) = (h 46 4) ∧ (h22 49 4) = (h 49 4) ∧ (h22 49 5) = (h 49 5) ∧ (h22 64 0) = (h 64 0); omega)⟩
    · skip
      refine ov_blk (ls2 := [(0, ov_r 3), (1, ov_i w), (2, ov_i a), (3, ov_i b)]) (st2 := [ov_i 0]) (pc2 := 36) b_77_35_1 rfl rfl ?_
      exact ov_retz (st := []) d_77_36 rfl (by omega) ⟨_, rfl, I13, (by show (0 = 0 ∧ 1 ≤ (h12 3 2) ∨ 0 = 1) ∧ (h12 36 7) = (h 36 7) ∧ (h12 1 1) = (h 1 1) ∧ (h12 90 2) = (h 90 2) ∧ (h12 0 10) = (h 0 10) ∧ (h12 0 11) = (h 0 11) ∧ (h12 0 12) = (h 0 12) ∧ (h12 0 13) = (h 0 13) ∧ (h12 3 1) = (h 3 1) ∧ (h12 36 8) = (h 36 8) ∧ (h12 46 3) = (h 46 3) ∧ (h12 46 4) = (h 46 4) ∧ (h12 49 4) = (h 49 4) ∧ (h12 49 5) = (h 49 5) ∧ (h12 64 0) = (h 64 0); omega)⟩
  · skip
    refine ov_blk (ls2 := [(0, ov_r 3), (1, ov_i w), (2, ov_i a), (3, ov_i b)]) (st2 := [ov_i 3, ov_r 3]) (pc2 := 15) b_77_13_2 rfl rfl ?_
    refine ov_cV (as := [ov_i 3]) (st := []) (d2 := d - 1) d_77_15 lk_Reader_58 rfl (Nat.le_of_ble_eq_true rfl) (c := 6) (zb_3 I) (zs_3 I) ⟨by decide, rfl⟩ (by omega) (c_Reader_fail_3_k3_1_70 (d - 1) (by omega) U I (ov_kws hw (by decide +kernel)) 3 k0 (by omega) (by omega)) ?_
    rintro _ z28 h29 ⟨v27, rfl, I30, f26⟩
    show ov_R u d ov_m77 18 [(0, ov_r 3), (1, ov_i w), (2, ov_i a), (3, ov_i b)] [ov_i v27] z28 h29 (P_Reader_readSetting_3_k3_1_70 F z h w a b)
    have f31 : v27 = 0 ∧ 1 ≤ (h29 3 2) ∧ (h29 36 7) = (h 36 7) ∧ (h29 1 1) = (h 1 1) ∧ (h29 90 2) = (h 90 2) ∧ (h29 0 10) = (h 0 10) ∧ (h29 0 11) = (h 0 11) ∧ (h29 0 12) = (h 0 12) ∧ (h29 0 13) = (h 0 13) ∧ (h29 3 1) = (h 3 1) ∧ (h29 36 8) = (h 36 8) ∧ (h29 46 3) = (h 46 3) ∧ (h29 46 4) = (h 46 4) ∧ (h29 49 4) = (h 49 4) ∧ (h29 49 5) = (h 49 5) ∧ (h29 64 0) = (h 64 0) ∧ (h29 76 0) = (h 76 0) := f26
    clear f26
    have e32 : h29 3 1 = 70 := by omega
    exact ov_retz (st := []) d_77_18 rfl (by omega) ⟨_, rfl, I30, (by show (v27 = 0 ∧ 1 ≤ (h29 3 2) ∨ v27 = 1) ∧ (h29 36 7) = (h 36 7) ∧ (h29 1 1) = (h 1 1) ∧ (h29 90 2) = (h 90 2) ∧ (h29 0 10) = (h 0 10) ∧ (h29 0 11) = (h 0 11) ∧ (h29 0 12) = (h 0 12) ∧ (h29 0 13) = (h 0 13) ∧ (h29 3 1) = (h 3 1) ∧ (h29 36 8) = (h 36 8) ∧ (h29 46 3) = (h 46 3) ∧ (h29 46 4) = (h 46 4) ∧ (h29 49 4) = (h 49 4) ∧ (h29 49 5) = (h 49 5) ∧ (h29 64 0) = (h 64 0); omega)⟩
abbrev P_Reader_readBar_3_k3_1_70 (F : ov_H) (z : ov_Z) (h : ov_H)  : Option ov_V → ov_Z → ov_H → Prop := fun r0 z' h' => ∃ r : Int, r0 = some (ov_i r) ∧ ov_I F z' h' ∧ ((r = 0 ∧ 1 ≤ (h' 3 2) ∨ r = 1) ∧ (h' 36 7) = (h 36 7) ∧ (h' 1 1) = (h 1 1) ∧ (h' 90 2) = (h 90 2) ∧ (h' 0 10) = (h 0 10) ∧ (h' 0 11) = (h 0 11) ∧ (h' 0 12) = (h 0 12) ∧ (h' 0 13) = (h 0 13) ∧ (h' 3 1) = (h 3 1) ∧ (h' 36 8) = (h 36 8) ∧ (h' 46 3) = (h 46 3) ∧ (h' 46 4) = (h 46 4) ∧ (h' 49 4) = (h 49 4) ∧ (h' 49 5) = (h 49 5) ∧ (h' 64 0) = (h 64 0) ∧ (h' 76 0) = (h 76 0))
set_option maxHeartbeats 4000000 in
theorem c_Reader_readBar_3_k3_1_70 {u : ov_U} {F : ov_H} {z : ov_Z} {h : ov_H} (d : Nat) (hd : 6 ≤ d) (U : ov_cap u) (I : ov_I F z h) (hw : ov_kw 37778931862957161709578 F) (k0 : h 3 1 = 70) : ov_T u d ov_m64 [ov_r 3] z h (P_Reader_readBar_3_k3_1_70 F z h) := by
  refine ov_en rfl (Nat.le_of_ble_eq_true rfl) ?_
  show ov_R u d ov_m64 0 [(0, ov_r 3)] [] z h (P_Reader_readBar_3_k3_1_70 F z h)
  refine ov_blk (ls2 := [(0, ov_r 3)]) (st2 := [ov_r 3]) (pc2 := 1) b_64_0_1 rfl rfl ?_
  refine ov_getf (v := ov_r 1) d_64_1 fl_Reader_9 (zb_3 I) (zs_3 I) (congrArg ov_r (rg_3_0 I)) ?_
  refine ov_cV (as := []) (st := []) (d2 := d - 1) d_64_4 lk_Reader_75 rfl (Nat.le_of_ble_eq_true rfl) (c := 8) (zb_1 I) (zs_1 I) ⟨by decide, rfl⟩ (by omega) (c_Tape_advance_1 (d - 1) (by omega) U I (ov_kws hw (by decide +kernel))) ?_
  rintro _ z2 h3 ⟨rfl, I4, f1⟩
  show ov_R u d ov_m64 7 [(0, ov_r 3)] [] z2 h3 (P_Reader_readBar_3_k3_1_70 F z h)
  have f5 : (h3 3 3) = (h 3 3) ∧ (h3 36 7) = (h 36 7) ∧ (h3 1 1) = (h 1 1) ∧ (h3 90 2) = (h 90 2) ∧ (h3 0 10) = (h 0 10) ∧ (h3 0 11) = (h 0 11) ∧ (h3 0 12) = (h 0 12) ∧ (h3 0 13) = (h 0 13) ∧ (h3 3 1) = (h 3 1) ∧ (h3 36 8) = (h 36 8) ∧ (h3 46 3) = (h 46 3) ∧ (h3 46 4) = (h 46 4) ∧ (h3 49 4) = (h 49 4) ∧ (h3 49 5) = (h 49 5) ∧ (h3 64 0) = (h 64 0) ∧ (h3 76 0) = (h 76 0) := f1
  clear f1
  have e6 : h3 3 1 = 70 := by omega
  refine ov_blk (ls2 := [(0, ov_r 3)]) (st2 := [ov_r 3, ov_i 0, ov_r 3]) (pc2 := 10) b_64_7_3 rfl rfl ?_
  refine ov_getf (v := ov_r 70) d_64_10 fl_Reader_15 (zb_3 I4) (zs_3 I4) (congrArg ov_r e6) ?_
  refine ov_getf (v := ov_i (h3 70 0)) d_64_13 fl_Reader_102 (zb_70 I4) (zs_70 I4) rfl ?_
  have g7 := rg_70_0 I4
  refine ov_blk (ls2 := [(0, ov_r 3)]) (st2 := [ov_i ((h3 70 0) - 1), ov_i 0, ov_r 3]) (pc2 := 18) b_64_16_2 rfl rfl ?_
  refine ov_cV (as := [ov_i 0, ov_i ((h3 70 0) - 1)]) (st := []) (d2 := d - 1) d_64_18 lk_Reader_78 rfl (Nat.le_of_ble_eq_true rfl) (c := 6) (zb_3 I4) (zs_3 I4) ⟨by decide, rfl⟩ (by omega) (c_Reader_takeNumber_3_k3_1_70 (d - 1) (by omega) U I4 (ov_kws hw (by decide +kernel)) 0 ((h3 70 0) - 1) e6 (by omega) (by omega)) ?_
  rintro _ z10 h11 ⟨v9, rfl, I12, f8⟩
  show ov_R u d ov_m64 21 [(0, ov_r 3)] [ov_i v9] z10 h11 (P_Reader_readBar_3_k3_1_70 F z h)
  have f13 : (v9 = 0 ∧ 1 ≤ (h11 3 2) ∨ v9 = 1 ∧ (0 : Int) ≤ (h11 3 3) ∧ (h11 3 3) ≤ ((h3 70 0) - 1)) ∧ (h11 36 7) = (h3 36 7) ∧ (h11 1 1) = (h3 1 1) ∧ (h11 90 2) = (h3 90 2) ∧ (h11 0 10) = (h3 0 10) ∧ (h11 0 11) = (h3 0 11) ∧ (h11 0 12) = (h3 0 12) ∧ (h11 0 13) = (h3 0 13) ∧ (h11 3 1) = (h3 3 1) ∧ (h11 36 8) = (h3 36 8) ∧ (h11 46 3) = (h3 46 3) ∧ (h11 46 4) = (h3 46 4) ∧ (h11 49 4) = (h3 49 4) ∧ (h11 49 5) = (h3 49 5) ∧ (h11 64 0) = (h3 64 0) ∧ (h11 76 0) = (h3 76 0) := f8
  clear f8
  have e14 : h11 3 1 = 70 := by omega
  refine ov_ifne (tgt := 26) d_64_21 (by decide) (by omega) (fun c15 => ?_) (fun c15 => ?_)
  · skip
    refine ov_blk (ls2 := [(0, ov_r 3)]) (st2 := [ov_r 3]) (pc2 := 27) b_64_26_1 rfl rfl ?_
    refine ov_getf (v := ov_i (h11 3 3)) d_64_27 fl_Reader_81 (zb_3 I12) (zs_3 I12) rfl ?_
    have g16 := rg_3_3 I12
    refine ov_blk (ls2 := [(0, ov_r 3), (1, ov_i (h11 3 3))]) (st2 := [ov_r 3, ov_i 0, ov_r 3]) (pc2 := 34) b_64_30_4 rfl rfl ?_
    refine ov_getf (v := ov_r 70) d_64_34 fl_Reader_15 (zb_3 I12) (zs_3 I12) (congrArg ov_r e14) ?_
    refine ov_getf (v := ov_i (h11 70 1)) d_64_37 fl_Reader_105 (zb_70 I12) (zs_70 I12) rfl ?_
    have g17 := rg_70_1 I12
    refine ov_blk (ls2 := [(0, ov_r 3), (1, ov_i (h11 3 3))]) (st2 := [ov_i ((h11 70 1) - 1), ov_i 0, ov_r 3]) (pc2 := 42) b_64_40_2 rfl rfl ?_
    refine ov_cV (as := [ov_i 0, ov_i ((h11 70 1) - 1)]) (st := []) (d2 := d - 1) d_64_42 lk_Reader_78 rfl (Nat.le_of_ble_eq_true rfl) (c := 6) (zb_3 I12) (zs_3 I12) ⟨by decide, rfl⟩ (by omega) (c_Reader_takeNumber_3_k3_1_70 (d - 1) (by omega) U I12 (ov_kws hw (by decide +kernel)) 0 ((h11 70 1) - 1) e14 (by omega) (by omega)) ?_
    rintro _ z20 h21 ⟨v19, rfl, I22, f18⟩
    show ov_R u d ov_m64 45 [(0, ov_r 3), (1, ov_i (h11 3 3))] [ov_i v19] z20 h21 (P_Reader_readBar_3_k3_1_70 F z h)
    have f23 : (v19 = 0 ∧ 1 ≤ (h21 3 2) ∨ v19 = 1 ∧ (0 : Int) ≤ (h21 3 3) ∧ (h21 3 3) ≤ ((h11 70 1) - 1)) ∧ (h21 36 7) = (h11 36 7) ∧ (h21 1 1) = (h11 1 1) ∧ (h21 90 2) = (h11 90 2) ∧ (h21 0 10) = (h11 0 10) ∧ (h21 0 11) = (h11 0 11) ∧ (h21 0 12) = (h11 0 12) ∧ (h21 0 13) = (h11 0 13) ∧ (h21 3 1) = (h11 3 1) ∧ (h21 36 8) = (h11 36 8) ∧ (h21 46 3) = (h11 46 3) ∧ (h21 46 4) = (h11 46 4) ∧ (h21 49 4) = (h11 49 4) ∧ (h21 49 5) = (h11 49 5) ∧ (h21 64 0) = (h11 64 0) ∧ (h21 76 0) = (h11 76 0) := f18
    clear f18
    have e24 : h21 3 1 = 70 := by omega
    refine ov_ifne (tgt := 50) d_64_45 (by decide) (by omega) (fun c25 => ?_) (fun c25 => ?_)
    · skip
      refine ov_blk (ls2 := [(0, ov_r 3), (1, ov_i (h11 3 3))]) (st2 := [ov_r 3, ov_i 6, ov_i (h11 3 3)]) (pc2 := 54) b_64_50_3 rfl rfl ?_
      refine ov_getf (v := ov_i (h21 3 3)) d_64_54 fl_Reader_81 (zb_3 I22) (zs_3 I22) rfl ?_
      have g26 := rg_3_3 I22
      refine ov_blk (ls2 := [(0, ov_r 3), (1, ov_i ((h11 3 3) + (6 * (h21 3 3))))]) (st2 := [ov_r 3]) (pc2 := 61) b_64_57_4 rfl rfl ?_
      refine ov_cV (as := []) (st := []) (d2 := d - 1) d_64_61 lk_Reader_54 rfl (Nat.le_of_ble_eq_true rfl) (c := 6) (zb_3 I22) (zs_3 I22) ⟨by decide, rfl⟩ (by omega) (c_Reader_wayTold_3_k3_1_70 (d - 1) (by omega) U I22 e24) ?_
      rintro _ _ _ ⟨v28, rfl, rfl, rfl, f27⟩
      show ov_R u d ov_m64 64 [(0, ov_r 3), (1, ov_i ((h11 3 3) + (6 * (h21 3 3))))] [ov_i v28] z20 h21 (P_Reader_readBar_3_k3_1_70 F z h)
      have f29 : -1 ≤ v28 ∧ v28 ≤ 1 := f27
      clear f27
      refine ov_blk (ls2 := [(0, ov_r 3), (1, ov_i ((h11 3 3) + (6 * (h21 3 3)))), (2, ov_i v28)]) (st2 := [ov_i (-1), ov_i v28]) (pc2 := 67) b_64_64_3 rfl rfl ?_
      refine ov_icne (tgt := 76) d_64_67 (by decide) (by omega) (by omega) (fun c30 => ?_) (fun c30 => ?_)
      · skip
        refine ov_blk (ls2 := [(0, ov_r 3), (1, ov_i ((h11 3 3) + (6 * (h21 3 3)))), (2, ov_i v28)]) (st2 := [ov_r 3]) (pc2 := 77) b_64_76_1 rfl rfl ?_
        refine ov_getf (v := ov_r 70) d_64_77 fl_Reader_15 (zb_3 I22) (zs_3 I22) (congrArg ov_r e24) ?_
        refine ov_blk (ls2 := [(0, ov_r 3), (1, ov_i ((h11 3 3) + (6 * (h21 3 3)))), (2, ov_i v28)]) (st2 := [ov_i v28, ov_i ((h11 3 3) + (6 * (h21 3 3))), ov_r 70]) (pc2 := 82) b_64_80_2 rfl rfl ?_
        refine ov_cV (as := [ov_i ((h11 3 3) + (6 * (h21 3 3))), ov_i v28]) (st := []) (d2 := d - 1) d_64_82 lk_Reader_69 rfl (Nat.le_of_ble_eq_true rfl) (c := 9) (zb_70 I22) (zs_70 I22) ⟨by decide, rfl⟩ (by omega) (c_Town_isBarred_70 (d - 1) (by omega) U I22 ((h11 3 3) + (6 * (h21 3 3))) v28 (by omega) (by omega) (by omega)) ?_
        rintro _ _ _ ⟨v32, rfl, rfl, rfl, f31⟩
        show ov_R u d ov_m64 85 [(0, ov_r 3), (1, ov_i ((h11 3 3) + (6 * (h21 3 3)))), (2, ov_i v28)] [ov_i v32] z20 h21 (P_Reader_readBar_3_k3_1_70 F z h)
        have f33 : (v32 = 0 ∨ v32 = 1) := f31
        clear f31
        refine ov_ifeq (tgt := 94) d_64_85 (by decide) (by omega) (fun c34 => ?_) (fun c34 => ?_)
        · skip
          refine ov_blk (ls2 := [(0, ov_r 3), (1, ov_i ((h11 3 3) + (6 * (h21 3 3)))), (2, ov_i v28)]) (st2 := [ov_r 3]) (pc2 := 95) b_64_94_1 rfl rfl ?_
          refine ov_getf (v := ov_r 70) d_64_95 fl_Reader_15 (zb_3 I22) (zs_3 I22) (congrArg ov_r e24) ?_
          refine ov_getf (v := ov_r 75) d_64_98 fl_Reader_187 (zb_70 I22) (zs_70 I22) (congrArg ov_r (rg_70_6 I22)) ?_
          refine ov_blk (ls2 := [(0, ov_r 3), (1, ov_i ((h11 3 3) + (6 * (h21 3 3)))), (2, ov_i v28)]) (st2 := [ov_i ((h11 3 3) + (6 * (h21 3 3))), ov_r 75, ov_i ((h11 3 3) + (6 * (h21 3 3))), ov_r 75]) (pc2 := 103) b_64_101_2 rfl rfl ?_
          refine ov_iald d_64_103 (zb_75 I22) (zs_75 I22) (by omega) ?_
          have g35 := ra_75 I22 ((h11 3 3) + (6 * (h21 3 3)))
          refine ov_blk (ls2 := [(0, ov_r 3), (1, ov_i ((h11 3 3) + (6 * (h21 3 3)))), (2, ov_i v28)]) (st2 := [ov_i (ov_or (h21 75 ((h11 3 3) + (6 * (h21 3 3)))) (ov_shl 1 v28)), ov_i ((h11 3 3) + (6 * (h21 3 3))), ov_r 75]) (pc2 := 108) b_64_104_4 rfl rfl ?_
          have g36 := ov_shlg 1 v28
          have g37 := ov_org (h21 75 ((h11 3 3) + (6 * (h21 3 3)))) (ov_shl 1 v28)
          refine ov_iast d_64_108 (zb_75 I22) (zs_75 I22) (by omega) ?_
          have I38 := ua_75 (k := ((h11 3 3) + (6 * (h21 3 3)))) (x := (ov_or (h21 75 ((h11 3 3) + (6 * (h21 3 3)))) (ov_shl 1 v28))) I22 (by omega) (hw 75 (by decide +kernel))
          refine ov_blk (ls2 := [(0, ov_r 3), (1, ov_i ((h11 3 3) + (6 * (h21 3 3)))), (2, ov_i v28)]) (st2 := [ov_r 3]) (pc2 := 110) b_64_109_1 rfl rfl ?_
          refine ov_getf (v := ov_r 1) d_64_110 fl_Reader_9 (zb_3 I38) (zs_3 I38) (congrArg ov_r (rg_3_0 I38)) ?_
          refine ov_cV (as := []) (st := []) (d2 := d - 1) d_64_113 lk_Reader_75 rfl (Nat.le_of_ble_eq_true rfl) (c := 8) (zb_1 I38) (zs_1 I38) ⟨by decide, rfl⟩ (by omega) (c_Tape_advance_1 (d - 1) (by omega) U I38 (ov_kws hw (by decide +kernel))) ?_
          rintro _ z40 h41 ⟨rfl, I42, f39⟩
          show ov_R u d ov_m64 116 [(0, ov_r 3), (1, ov_i ((h11 3 3) + (6 * (h21 3 3)))), (2, ov_i v28)] [] z40 h41 (P_Reader_readBar_3_k3_1_70 F z h)
          have f43 : (h41 3 3) = (h21 3 3) ∧ (h41 36 7) = (h21 36 7) ∧ (h41 1 1) = (h21 1 1) ∧ (h41 90 2) = (h21 90 2) ∧ (h41 0 10) = (h21 0 10) ∧ (h41 0 11) = (h21 0 11) ∧ (h41 0 12) = (h21 0 12) ∧ (h41 0 13) = (h21 0 13) ∧ (h41 3 1) = (h21 3 1) ∧ (h41 36 8) = (h21 36 8) ∧ (h41 46 3) = (h21 46 3) ∧ (h41 46 4) = (h21 46 4) ∧ (h41 49 4) = (h21 49 4) ∧ (h41 49 5) = (h21 49 5) ∧ (h41 64 0) = (h21 64 0) ∧ (h41 76 0) = (h21 76 0) := f39
          clear f39
          have e44 : h41 3 1 = 70 := by omega
          refine ov_blk (ls2 := [(0, ov_r 3), (1, ov_i ((h11 3 3) + (6 * (h21 3 3)))), (2, ov_i v28)]) (st2 := [ov_i 59, ov_r 3]) (pc2 := 119) b_64_116_2 rfl rfl ?_
          refine ov_cV (as := [ov_i 59]) (st := []) (d2 := d - 1) d_64_119 lk_Reader_92 rfl (Nat.le_of_ble_eq_true rfl) (c := 6) (zb_3 I42) (zs_3 I42) ⟨by decide, rfl⟩ (by omega) (c_Reader_takeSign_3_k3_1_70 (d - 1) (by omega) U I42 (ov_kws hw (by decide +kernel)) 59 e44 (by omega)) ?_
          rintro _ z47 h48 ⟨v46, rfl, I49, f45⟩
          show ov_R u d ov_m64 122 [(0, ov_r 3), (1, ov_i ((h11 3 3) + (6 * (h21 3 3)))), (2, ov_i v28)] [ov_i v46] z47 h48 (P_Reader_readBar_3_k3_1_70 F z h)
          have f50 : (v46 = 0 ∧ 1 ≤ (h48 3 2) ∨ v46 = 1) ∧ (h48 36 7) = (h41 36 7) ∧ (h48 1 1) = (h41 1 1) ∧ (h48 90 2) = (h41 90 2) ∧ (h48 0 10) = (h41 0 10) ∧ (h48 0 11) = (h41 0 11) ∧ (h48 0 12) = (h41 0 12) ∧ (h48 0 13) = (h41 0 13) ∧ (h48 3 1) = (h41 3 1) ∧ (h48 36 8) = (h41 36 8) ∧ (h48 46 3) = (h41 46 3) ∧ (h48 46 4) = (h41 46 4) ∧ (h48 49 4) = (h41 49 4) ∧ (h48 49 5) = (h41 49 5) ∧ (h48 64 0) = (h41 64 0) ∧ (h48 76 0) = (h41 76 0) := f45
          clear f45
          have e51 : h48 3 1 = 70 := by omega
          exact ov_retz (st := []) d_64_122 rfl (by omega) ⟨_, rfl, I49, (by show (v46 = 0 ∧ 1 ≤ (h48 3 2) ∨ v46 = 1) ∧ (h48 36 7) = (h 36 7) ∧ (h48 1 1) = (h 1 1) ∧ (h48 90 2) = (h 90 2) ∧ (h48 0 10) = (h 0 10) ∧ (h48 0 11) = (h 0 11) ∧ (h48 0 12) = (h 0 12) ∧ (h48 0 13) = (h 0 13) ∧ (h48 3 1) = (h 3 1) ∧ (h48 36 8) = (h 36 8) ∧ (h48 46 3) = (h 46 3) ∧ (h48 46 4) = (h 46 4) ∧ (h48 49 4) = (h 49 4) ∧ (h48 49 5) = (h 49 5) ∧ (h48 64 0) = (h 64 0) ∧ (h48 76 0) = (h 76 0); omega)⟩
        · skip
          refine ov_blk (ls2 := [(0, ov_r 3), (1, ov_i ((h11 3 3) + (6 * (h21 3 3)))), (2, ov_i v28)]) (st2 := [ov_i 3, ov_r 3]) (pc2 := 90) b_64_88_2 rfl rfl ?_
          refine ov_cV (as := [ov_i 3]) (st := []) (d2 := d - 1) d_64_90 lk_Reader_58 rfl (Nat.le_of_ble_eq_true rfl) (c := 6) (zb_3 I22) (zs_3 I22) ⟨by decide, rfl⟩ (by omega) (c_Reader_fail_3_k3_1_70 (d - 1) (by omega) U I22 (ov_kws hw (by decide +kernel)) 3 e24 (by omega) (by omega)) ?_
          rintro _ z54 h55 ⟨v53, rfl, I56, f52⟩
          show ov_R u d ov_m64 93 [(0, ov_r 3), (1, ov_i ((h11 3 3) + (6 * (h21 3 3)))), (2, ov_i v28)] [ov_i v53] z54 h55 (P_Reader_readBar_3_k3_1_70 F z h)
          have f57 : v53 = 0 ∧ 1 ≤ (h55 3 2) ∧ (h55 36 7) = (h21 36 7) ∧ (h55 1 1) = (h21 1 1) ∧ (h55 90 2) = (h21 90 2) ∧ (h55 0 10) = (h21 0 10) ∧ (h55 0 11) = (h21 0 11) ∧ (h55 0 12) = (h21 0 12) ∧ (h55 0 13) = (h21 0 13) ∧ (h55 3 1) = (h21 3 1) ∧ (h55 36 8) = (h21 36 8) ∧ (h55 46 3) = (h21 46 3) ∧ (h55 46 4) = (h21 46 4) ∧ (h55 49 4) = (h21 49 4) ∧ (h55 49 5) = (h21 49 5) ∧ (h55 64 0) = (h21 64 0) ∧ (h55 76 0) = (h21 76 0) := f52
          clear f52
          have e58 : h55 3 1 = 70 := by omega
          exact ov_retz (st := []) d_64_93 rfl (by omega) ⟨_, rfl, I56, (by show (v53 = 0 ∧ 1 ≤ (h55 3 2) ∨ v53 = 1) ∧ (h55 36 7) = (h 36 7) ∧ (h55 1 1) = (h 1 1) ∧ (h55 90 2) = (h 90 2) ∧ (h55 0 10) = (h 0 10) ∧ (h55 0 11) = (h 0 11) ∧ (h55 0 12) = (h 0 12) ∧ (h55 0 13) = (h 0 13) ∧ (h55 3 1) = (h 3 1) ∧ (h55 36 8) = (h 36 8) ∧ (h55 46 3) = (h 46 3) ∧ (h55 46 4) = (h 46 4) ∧ (h55 49 4) = (h 49 4) ∧ (h55 49 5) = (h 49 5) ∧ (h55 64 0) = (h 64 0) ∧ (h55 76 0) = (h 76 0); omega)⟩
      · skip
        refine ov_blk (ls2 := [(0, ov_r 3), (1, ov_i ((h11 3 3) + (6 * (h21 3 3)))), (2, ov_i v28)]) (st2 := [ov_i 1, ov_r 3]) (pc2 := 72) b_64_70_2 rfl rfl ?_
        refine ov_cV (as := [ov_i 1]) (st := []) (d2 := d - 1) d_64_72 lk_Reader_58 rfl (Nat.le_of_ble_eq_true rfl) (c := 6) (zb_3 I22) (zs_3 I22) ⟨by decide, rfl⟩ (by omega) (c_Reader_fail_3_k3_1_70 (d - 1) (by omega) U I22 (ov_kws hw (by decide +kernel)) 1 e24 (by omega) (by omega)) ?_
        rintro _ z61 h62 ⟨v60, rfl, I63, f59⟩
        show ov_R u d ov_m64 75 [(0, ov_r 3), (1, ov_i ((h11 3 3) + (6 * (h21 3 3)))), (2, ov_i v28)] [ov_i v60] z61 h62 (P_Reader_readBar_3_k3_1_70 F z h)
        have f64 : v60 = 0 ∧ 1 ≤ (h62 3 2) ∧ (h62 36 7) = (h21 36 7) ∧ (h62 1 1) = (h21 1 1) ∧ (h62 90 2) = (h21 90 2) ∧ (h62 0 10) = (h21 0 10) ∧ (h62 0 11) = (h21 0 11) ∧ (h62 0 12) = (h21 0 12) ∧ (h62 0 13) = (h21 0 13) ∧ (h62 3 1) = (h21 3 1) ∧ (h62 36 8) = (h21 36 8) ∧ (h62 46 3) = (h21 46 3) ∧ (h62 46 4) = (h21 46 4) ∧ (h62 49 4) = (h21 49 4) ∧ (h62 49 5) = (h21 49 5) ∧ (h62 64 0) = (h21 64 0) ∧ (h62 76 0) = (h21 76 0) := f59
        clear f59
        have e65 : h62 3 1 = 70 := by omega
        exact ov_retz (st := []) d_64_75 rfl (by omega) ⟨_, rfl, I63, (by show (v60 = 0 ∧ 1 ≤ (h62 3 2) ∨ v60 = 1) ∧ (h62 36 7) = (h 36 7) ∧ (h62 1 1) = (h 1 1) ∧ (h62 90 2) = (h 90 2) ∧ (h62 0 10) = (h 0 10) ∧ (h62 0 11) = (h 0 11) ∧ (h62 0 12) = (h 0 12) ∧ (h62 0 13) = (h 0 13) ∧ (h62 3 1) = (h 3 1) ∧ (h62 36 8) = (h 36 8) ∧ (h62 46 3) = (h 46 3) ∧ (h62 46 4) = (h 46 4) ∧ (h62 49 4) = (h 49 4) ∧ (h62 49 5) = (h 49 5) ∧ (h62 64 0) = (h 64 0) ∧ (h62 76 0) = (h 76 0); omega)⟩
    · skip
      refine ov_blk (ls2 := [(0, ov_r 3), (1, ov_i (h11 3 3))]) (st2 := [ov_i 0]) (pc2 := 49) b_64_48_1 rfl rfl ?_
      exact ov_retz (st := []) d_64_49 rfl (by omega) ⟨_, rfl, I22, (by show (0 = 0 ∧ 1 ≤ (h21 3 2) ∨ 0 = 1) ∧ (h21 36 7) = (h 36 7) ∧ (h21 1 1) = (h 1 1) ∧ (h21 90 2) = (h 90 2) ∧ (h21 0 10) = (h 0 10) ∧ (h21 0 11) = (h 0 11) ∧ (h21 0 12) = (h 0 12) ∧ (h21 0 13) = (h 0 13) ∧ (h21 3 1) = (h 3 1) ∧ (h21 36 8) = (h 36 8) ∧ (h21 46 3) = (h 46 3) ∧ (h21 46 4) = (h 46 4) ∧ (h21 49 4) = (h 49 4) ∧ (h21 49 5) = (h 49 5) ∧ (h21 64 0) = (h 64 0) ∧ (h21 76 0) = (h 76 0); omega)⟩
  · skip
    refine ov_blk (ls2 := [(0, ov_r 3)]) (st2 := [ov_i 0]) (pc2 := 25) b_64_24_1 rfl rfl ?_
    exact ov_retz (st := []) d_64_25 rfl (by omega) ⟨_, rfl, I12, (by show (0 = 0 ∧ 1 ≤ (h11 3 2) ∨ 0 = 1) ∧ (h11 36 7) = (h 36 7) ∧ (h11 1 1) = (h 1 1) ∧ (h11 90 2) = (h 90 2) ∧ (h11 0 10) = (h 0 10) ∧ (h11 0 11) = (h 0 11) ∧ (h11 0 12) = (h 0 12) ∧ (h11 0 13) = (h 0 13) ∧ (h11 3 1) = (h 3 1) ∧ (h11 36 8) = (h 36 8) ∧ (h11 46 3) = (h 46 3) ∧ (h11 46 4) = (h 46 4) ∧ (h11 49 4) = (h 49 4) ∧ (h11 49 5) = (h 49 5) ∧ (h11 64 0) = (h 64 0) ∧ (h11 76 0) = (h 76 0); omega)⟩
abbrev P_Reader_readGreen_3_k3_1_70 (F : ov_H) (z : ov_Z) (h : ov_H) (c : Int) : Option ov_V → ov_Z → ov_H → Prop := fun r0 z' h' => ∃ r : Int, r0 = some (ov_i r) ∧ ov_I F z' h' ∧ ((r = 0 ∧ 1 ≤ (h' 3 2) ∨ r = 1) ∧ (h' 36 7) = (h 36 7) ∧ (h' 1 1) = (h 1 1) ∧ (h' 90 2) = (h 90 2) ∧ (h' 0 10) = (h 0 10) ∧ (h' 0 11) = (h 0 11) ∧ (h' 0 12) = (h 0 12) ∧ (h' 0 13) = (h 0 13) ∧ (h' 3 1) = (h 3 1) ∧ (h' 36 8) = (h 36 8) ∧ (h' 46 3) = (h 46 3) ∧ (h' 46 4) = (h 46 4) ∧ (h' 49 4) = (h 49 4) ∧ (h' 49 5) = (h 49 5) ∧ (h' 64 0) = (h 64 0) ∧ (h' 76 0) = (h 76 0))
set_option maxHeartbeats 4000000 in
theorem c_Reader_readGreen_3_k3_1_70 {u : ov_U} {F : ov_H} {z : ov_Z} {h : ov_H} (d : Nat) (hd : 6 ≤ d) (U : ov_cap u) (I : ov_I F z h) (hw : ov_kw 28334198897217871282186 F) (c : Int) (k0 : h 3 1 = 70) (g_c : ov_g c) (p0 : 0 ≤ c ∧ c ≤ 53) : ov_T u d ov_m63 [ov_r 3, ov_i c] z h (P_Reader_readGreen_3_k3_1_70 F z h c) := by
  refine ov_en rfl (Nat.le_of_ble_eq_true rfl) ?_
  show ov_R u d ov_m63 0 [(0, ov_r 3), (1, ov_i c)] [] z h (P_Reader_readGreen_3_k3_1_70 F z h c)
  refine ov_blk (ls2 := [(0, ov_r 3), (1, ov_i c)]) (st2 := [ov_r 3]) (pc2 := 1) b_63_0_1 rfl rfl ?_
  refine ov_ldc2 (n := 1870030194) d_63_1 kc_Reader_177 ?_
  refine ov_cV (as := [ov_l 1870030194]) (st := []) (d2 := d - 1) d_63_4 lk_Reader_98 rfl (Nat.le_of_ble_eq_true rfl) (c := 6) (zb_3 I) (zs_3 I) ⟨by decide, rfl⟩ (by omega) (c_Reader_takeWord_3_k3_1_70 (d - 1) (by omega) U I (ov_kws hw (by decide +kernel)) 1870030194 k0) ?_
  rintro _ z3 h4 ⟨v2, rfl, I5, f1⟩
  show ov_R u d ov_m63 7 [(0, ov_r 3), (1, ov_i c)] [ov_i v2] z3 h4 (P_Reader_readGreen_3_k3_1_70 F z h c)
  have f6 : (v2 = 0 ∧ 1 ≤ (h4 3 2) ∨ v2 = 1) ∧ (h4 36 7) = (h 36 7) ∧ (h4 1 1) = (h 1 1) ∧ (h4 90 2) = (h 90 2) ∧ (h4 0 10) = (h 0 10) ∧ (h4 0 11) = (h 0 11) ∧ (h4 0 12) = (h 0 12) ∧ (h4 0 13) = (h 0 13) ∧ (h4 3 1) = (h 3 1) ∧ (h4 36 8) = (h 36 8) ∧ (h4 46 3) = (h 46 3) ∧ (h4 46 4) = (h 46 4) ∧ (h4 49 4) = (h 49 4) ∧ (h4 49 5) = (h 49 5) ∧ (h4 64 0) = (h 64 0) ∧ (h4 76 0) = (h 76 0) := f1
  clear f1
  have e7 : h4 3 1 = 70 := by omega
  refine ov_ifeq (tgt := 29) d_63_7 (by decide) (by omega) (fun c8 => ?_) (fun c8 => ?_)
  · skip
    refine ov_blk (ls2 := [(0, ov_r 3), (1, ov_i c)]) (st2 := [ov_i 0]) (pc2 := 30) b_63_29_1 rfl rfl ?_
    exact ov_retz (st := []) d_63_30 rfl (by omega) ⟨_, rfl, I5, (by show (0 = 0 ∧ 1 ≤ (h4 3 2) ∨ 0 = 1) ∧ (h4 36 7) = (h 36 7) ∧ (h4 1 1) = (h 1 1) ∧ (h4 90 2) = (h 90 2) ∧ (h4 0 10) = (h 0 10) ∧ (h4 0 11) = (h 0 11) ∧ (h4 0 12) = (h 0 12) ∧ (h4 0 13) = (h 0 13) ∧ (h4 3 1) = (h 3 1) ∧ (h4 36 8) = (h 36 8) ∧ (h4 46 3) = (h 46 3) ∧ (h4 46 4) = (h 46 4) ∧ (h4 49 4) = (h 49 4) ∧ (h4 49 5) = (h 49 5) ∧ (h4 64 0) = (h 64 0) ∧ (h4 76 0) = (h 76 0); omega)⟩
  · skip
    refine ov_blk (ls2 := [(0, ov_r 3), (1, ov_i c)]) (st2 := [ov_r 3, ov_i 0, ov_r 3]) (pc2 := 13) b_63_10_3 rfl rfl ?_
    refine ov_getf (v := ov_r 70) d_63_13 fl_Reader_15 (zb_3 I5) (zs_3 I5) (congrArg ov_r e7) ?_
    refine ov_getf (v := ov_r 72) d_63_16 fl_Reader_165 (zb_70 I5) (zs_70 I5) (congrArg ov_r (rg_70_3 I5)) ?_
    refine ov_blk (ls2 := [(0, ov_r 3), (1, ov_i c)]) (st2 := [ov_i c, ov_r 72, ov_i 0, ov_r 3]) (pc2 := 20) b_63_19_1 rfl rfl ?_
    refine ov_iald d_63_20 (zb_72 I5) (zs_72 I5) (by omega) ?_
    have g9 := ra_72 I5 c
    refine ov_blk (ls2 := [(0, ov_r 3), (1, ov_i c)]) (st2 := [ov_i ((h4 72 c) - 1), ov_i 0, ov_r 3]) (pc2 := 23) b_63_21_2 rfl rfl ?_
    refine ov_cV (as := [ov_i 0, ov_i ((h4 72 c) - 1)]) (st := []) (d2 := d - 1) d_63_23 lk_Reader_78 rfl (Nat.le_of_ble_eq_true rfl) (c := 6) (zb_3 I5) (zs_3 I5) ⟨by decide, rfl⟩ (by omega) (c_Reader_takeNumber_3_k3_1_70 (d - 1) (by omega) U I5 (ov_kws hw (by decide +kernel)) 0 ((h4 72 c) - 1) e7 (by omega) (by omega)) ?_
    rintro _ z12 h13 ⟨v11, rfl, I14, f10⟩
    show ov_R u d ov_m63 26 [(0, ov_r 3), (1, ov_i c)] [ov_i v11] z12 h13 (P_Reader_readGreen_3_k3_1_70 F z h c)
    have f15 : (v11 = 0 ∧ 1 ≤ (h13 3 2) ∨ v11 = 1 ∧ (0 : Int) ≤ (h13 3 3) ∧ (h13 3 3) ≤ ((h4 72 c) - 1)) ∧ (h13 36 7) = (h4 36 7) ∧ (h13 1 1) = (h4 1 1) ∧ (h13 90 2) = (h4 90 2) ∧ (h13 0 10) = (h4 0 10) ∧ (h13 0 11) = (h4 0 11) ∧ (h13 0 12) = (h4 0 12) ∧ (h13 0 13) = (h4 0 13) ∧ (h13 3 1) = (h4 3 1) ∧ (h13 36 8) = (h4 36 8) ∧ (h13 46 3) = (h4 46 3) ∧ (h13 46 4) = (h4 46 4) ∧ (h13 49 4) = (h4 49 4) ∧ (h13 49 5) = (h4 49 5) ∧ (h13 64 0) = (h4 64 0) ∧ (h13 76 0) = (h4 76 0) := f10
    clear f10
    have e16 : h13 3 1 = 70 := by omega
    refine ov_ifne (tgt := 31) d_63_26 (by decide) (by omega) (fun c17 => ?_) (fun c17 => ?_)
    · skip
      refine ov_blk (ls2 := [(0, ov_r 3), (1, ov_i c)]) (st2 := [ov_r 3]) (pc2 := 32) b_63_31_1 rfl rfl ?_
      refine ov_getf (v := ov_r 70) d_63_32 fl_Reader_15 (zb_3 I14) (zs_3 I14) (congrArg ov_r e16) ?_
      refine ov_getf (v := ov_r 73) d_63_35 fl_Reader_179 (zb_70 I14) (zs_70 I14) (congrArg ov_r (rg_70_4 I14)) ?_
      refine ov_blk (ls2 := [(0, ov_r 3), (1, ov_i c)]) (st2 := [ov_r 3, ov_i c, ov_r 73]) (pc2 := 40) b_63_38_2 rfl rfl ?_
      refine ov_getf (v := ov_i (h13 3 3)) d_63_40 fl_Reader_81 (zb_3 I14) (zs_3 I14) rfl ?_
      have g18 := rg_3_3 I14
      refine ov_iast d_63_43 (zb_73 I14) (zs_73 I14) (by omega) ?_
      have I19 := ua_73 (k := c) (x := (h13 3 3)) I14 (by omega) (hw 73 (by decide +kernel))
      refine ov_blk (ls2 := [(0, ov_r 3), (1, ov_i c)]) (st2 := [ov_r 3]) (pc2 := 45) b_63_44_1 rfl rfl ?_
      refine ov_ldc2 (n := 6713202) d_63_45 kc_Reader_182 ?_
      refine ov_cV (as := [ov_l 6713202]) (st := []) (d2 := d - 1) d_63_48 lk_Reader_98 rfl (Nat.le_of_ble_eq_true rfl) (c := 6) (zb_3 I19) (zs_3 I19) ⟨by decide, rfl⟩ (by omega) (c_Reader_takeWord_3_k3_1_70 (d - 1) (by omega) U I19 (ov_kws hw (by decide +kernel)) 6713202 e16) ?_
      rintro _ z22 h23 ⟨v21, rfl, I24, f20⟩
      show ov_R u d ov_m63 51 [(0, ov_r 3), (1, ov_i c)] [ov_i v21] z22 h23 (P_Reader_readGreen_3_k3_1_70 F z h c)
      have f25 : (v21 = 0 ∧ 1 ≤ (h23 3 2) ∨ v21 = 1) ∧ (h23 36 7) = (h13 36 7) ∧ (h23 1 1) = (h13 1 1) ∧ (h23 90 2) = (h13 90 2) ∧ (h23 0 10) = (h13 0 10) ∧ (h23 0 11) = (h13 0 11) ∧ (h23 0 12) = (h13 0 12) ∧ (h23 0 13) = (h13 0 13) ∧ (h23 3 1) = (h13 3 1) ∧ (h23 36 8) = (h13 36 8) ∧ (h23 46 3) = (h13 46 3) ∧ (h23 46 4) = (h13 46 4) ∧ (h23 49 4) = (h13 49 4) ∧ (h23 49 5) = (h13 49 5) ∧ (h23 64 0) = (h13 64 0) ∧ (h23 76 0) = (h13 76 0) := f20
      clear f20
      have e26 : h23 3 1 = 70 := by omega
      refine ov_ifeq (tgt := 71) d_63_51 (by decide) (by omega) (fun c27 => ?_) (fun c27 => ?_)
      · skip
        refine ov_blk (ls2 := [(0, ov_r 3), (1, ov_i c)]) (st2 := [ov_i 0]) (pc2 := 72) b_63_71_1 rfl rfl ?_
        exact ov_retz (st := []) d_63_72 rfl (by omega) ⟨_, rfl, I24, (by show (0 = 0 ∧ 1 ≤ (h23 3 2) ∨ 0 = 1) ∧ (h23 36 7) = (h 36 7) ∧ (h23 1 1) = (h 1 1) ∧ (h23 90 2) = (h 90 2) ∧ (h23 0 10) = (h 0 10) ∧ (h23 0 11) = (h 0 11) ∧ (h23 0 12) = (h 0 12) ∧ (h23 0 13) = (h 0 13) ∧ (h23 3 1) = (h 3 1) ∧ (h23 36 8) = (h 36 8) ∧ (h23 46 3) = (h 46 3) ∧ (h23 46 4) = (h 46 4) ∧ (h23 49 4) = (h 49 4) ∧ (h23 49 5) = (h 49 5) ∧ (h23 64 0) = (h 64 0) ∧ (h23 76 0) = (h 76 0); omega)⟩
      · skip
        refine ov_blk (ls2 := [(0, ov_r 3), (1, ov_i c)]) (st2 := [ov_r 3, ov_i 0, ov_r 3]) (pc2 := 57) b_63_54_3 rfl rfl ?_
        refine ov_getf (v := ov_r 70) d_63_57 fl_Reader_15 (zb_3 I24) (zs_3 I24) (congrArg ov_r e26) ?_
        refine ov_getf (v := ov_r 72) d_63_60 fl_Reader_165 (zb_70 I24) (zs_70 I24) (congrArg ov_r (rg_70_3 I24)) ?_
        refine ov_blk (ls2 := [(0, ov_r 3), (1, ov_i c)]) (st2 := [ov_i c, ov_r 72, ov_i 0, ov_r 3]) (pc2 := 64) b_63_63_1 rfl rfl ?_
        refine ov_iald d_63_64 (zb_72 I24) (zs_72 I24) (by omega) ?_
        have g28 := ra_72 I24 c
        refine ov_cV (as := [ov_i 0, ov_i (h23 72 c)]) (st := []) (d2 := d - 1) d_63_65 lk_Reader_78 rfl (Nat.le_of_ble_eq_true rfl) (c := 6) (zb_3 I24) (zs_3 I24) ⟨by decide, rfl⟩ (by omega) (c_Reader_takeNumber_3_k3_1_70 (d - 1) (by omega) U I24 (ov_kws hw (by decide +kernel)) 0 (h23 72 c) e26 (by omega) (by omega)) ?_
        rintro _ z31 h32 ⟨v30, rfl, I33, f29⟩
        show ov_R u d ov_m63 68 [(0, ov_r 3), (1, ov_i c)] [ov_i v30] z31 h32 (P_Reader_readGreen_3_k3_1_70 F z h c)
        have f34 : (v30 = 0 ∧ 1 ≤ (h32 3 2) ∨ v30 = 1 ∧ (0 : Int) ≤ (h32 3 3) ∧ (h32 3 3) ≤ (h23 72 c)) ∧ (h32 36 7) = (h23 36 7) ∧ (h32 1 1) = (h23 1 1) ∧ (h32 90 2) = (h23 90 2) ∧ (h32 0 10) = (h23 0 10) ∧ (h32 0 11) = (h23 0 11) ∧ (h32 0 12) = (h23 0 12) ∧ (h32 0 13) = (h23 0 13) ∧ (h32 3 1) = (h23 3 1) ∧ (h32 36 8) = (h23 36 8) ∧ (h32 46 3) = (h23 46 3) ∧ (h32 46 4) = (h23 46 4) ∧ (h32 49 4) = (h23 49 4) ∧ (h32 49 5) = (h23 49 5) ∧ (h32 64 0) = (h23 64 0) ∧ (h32 76 0) = (h23 76 0) := f29
        clear f29
        have e35 : h32 3 1 = 70 := by omega
        refine ov_ifne (tgt := 73) d_63_68 (by decide) (by omega) (fun c36 => ?_) (fun c36 => ?_)
        · skip
          refine ov_blk (ls2 := [(0, ov_r 3), (1, ov_i c)]) (st2 := [ov_r 3]) (pc2 := 74) b_63_73_1 rfl rfl ?_
          refine ov_getf (v := ov_r 70) d_63_74 fl_Reader_15 (zb_3 I33) (zs_3 I33) (congrArg ov_r e35) ?_
          refine ov_getf (v := ov_r 74) d_63_77 fl_Reader_184 (zb_70 I33) (zs_70 I33) (congrArg ov_r (rg_70_5 I33)) ?_
          refine ov_blk (ls2 := [(0, ov_r 3), (1, ov_i c)]) (st2 := [ov_r 3, ov_i c, ov_r 74]) (pc2 := 82) b_63_80_2 rfl rfl ?_
          refine ov_getf (v := ov_i (h32 3 3)) d_63_82 fl_Reader_81 (zb_3 I33) (zs_3 I33) rfl ?_
          have g37 := rg_3_3 I33
          refine ov_iast d_63_85 (zb_74 I33) (zs_74 I33) (by omega) ?_
          have I38 := ua_74 (k := c) (x := (h32 3 3)) I33 (by omega) (hw 74 (by decide +kernel))
          refine ov_blk (ls2 := [(0, ov_r 3), (1, ov_i c)]) (st2 := [ov_i 1]) (pc2 := 87) b_63_86_1 rfl rfl ?_
          exact ov_retz (st := []) d_63_87 rfl (by omega) ⟨_, rfl, I38, (by show (1 = 0 ∧ 1 ≤ (h32 3 2) ∨ 1 = 1) ∧ (h32 36 7) = (h 36 7) ∧ (h32 1 1) = (h 1 1) ∧ (h32 90 2) = (h 90 2) ∧ (h32 0 10) = (h 0 10) ∧ (h32 0 11) = (h 0 11) ∧ (h32 0 12) = (h 0 12) ∧ (h32 0 13) = (h 0 13) ∧ (h32 3 1) = (h 3 1) ∧ (h32 36 8) = (h 36 8) ∧ (h32 46 3) = (h 46 3) ∧ (h32 46 4) = (h 46 4) ∧ (h32 49 4) = (h 49 4) ∧ (h32 49 5) = (h 49 5) ∧ (h32 64 0) = (h 64 0) ∧ (h32 76 0) = (h 76 0); omega)⟩
        · skip
          refine ov_blk (ls2 := [(0, ov_r 3), (1, ov_i c)]) (st2 := [ov_i 0]) (pc2 := 72) b_63_71_1 rfl rfl ?_
          exact ov_retz (st := []) d_63_72 rfl (by omega) ⟨_, rfl, I33, (by show (0 = 0 ∧ 1 ≤ (h32 3 2) ∨ 0 = 1) ∧ (h32 36 7) = (h 36 7) ∧ (h32 1 1) = (h 1 1) ∧ (h32 90 2) = (h 90 2) ∧ (h32 0 10) = (h 0 10) ∧ (h32 0 11) = (h 0 11) ∧ (h32 0 12) = (h 0 12) ∧ (h32 0 13) = (h 0 13) ∧ (h32 3 1) = (h 3 1) ∧ (h32 36 8) = (h 36 8) ∧ (h32 46 3) = (h 46 3) ∧ (h32 46 4) = (h 46 4) ∧ (h32 49 4) = (h 49 4) ∧ (h32 49 5) = (h 49 5) ∧ (h32 64 0) = (h 64 0) ∧ (h32 76 0) = (h 76 0); omega)⟩
    · skip
      refine ov_blk (ls2 := [(0, ov_r 3), (1, ov_i c)]) (st2 := [ov_i 0]) (pc2 := 30) b_63_29_1 rfl rfl ?_
      exact ov_retz (st := []) d_63_30 rfl (by omega) ⟨_, rfl, I14, (by show (0 = 0 ∧ 1 ≤ (h13 3 2) ∨ 0 = 1) ∧ (h13 36 7) = (h 36 7) ∧ (h13 1 1) = (h 1 1) ∧ (h13 90 2) = (h 90 2) ∧ (h13 0 10) = (h 0 10) ∧ (h13 0 11) = (h 0 11) ∧ (h13 0 12) = (h 0 12) ∧ (h13 0 13) = (h 0 13) ∧ (h13 3 1) = (h 3 1) ∧ (h13 36 8) = (h 36 8) ∧ (h13 46 3) = (h 46 3) ∧ (h13 46 4) = (h 46 4) ∧ (h13 49 4) = (h 49 4) ∧ (h13 49 5) = (h 49 5) ∧ (h13 64 0) = (h 64 0) ∧ (h13 76 0) = (h 76 0); omega)⟩
abbrev P_Reader_readRound_3_k3_1_70 (F : ov_H) (z : ov_Z) (h : ov_H) (c : Int) : Option ov_V → ov_Z → ov_H → Prop := fun r0 z' h' => ∃ r : Int, r0 = some (ov_i r) ∧ ov_I F z' h' ∧ ((r = 0 ∧ 1 ≤ (h' 3 2) ∨ r = 1) ∧ (h' 36 7) = (h 36 7) ∧ (h' 1 1) = (h 1 1) ∧ (h' 90 2) = (h 90 2) ∧ (h' 0 10) = (h 0 10) ∧ (h' 0 11) = (h 0 11) ∧ (h' 0 12) = (h 0 12) ∧ (h' 0 13) = (h 0 13) ∧ (h' 3 1) = (h 3 1) ∧ (h' 36 8) = (h 36 8) ∧ (h' 46 3) = (h 46 3) ∧ (h' 46 4) = (h 46 4) ∧ (h' 49 4) = (h 49 4) ∧ (h' 49 5) = (h 49 5) ∧ (h' 64 0) = (h 64 0) ∧ (h' 76 0) = (h 76 0))
set_option maxHeartbeats 4000000 in
theorem c_Reader_readRound_3_k3_1_70 {u : ov_U} {F : ov_H} {z : ov_Z} {h : ov_H} (d : Nat) (hd : 6 ≤ d) (U : ov_cap u) (I : ov_I F z h) (hw : ov_kw 5902958103587056517130 F) (c : Int) (k0 : h 3 1 = 70) (g_c : ov_g c) (p0 : 0 ≤ c ∧ c ≤ 53) : ov_T u d ov_m60 [ov_r 3, ov_i c] z h (P_Reader_readRound_3_k3_1_70 F z h c) := by
  refine ov_en rfl (Nat.le_of_ble_eq_true rfl) ?_
  show ov_R u d ov_m60 0 [(0, ov_r 3), (1, ov_i c)] [] z h (P_Reader_readRound_3_k3_1_70 F z h c)
  refine ov_blk (ls2 := [(0, ov_r 3), (1, ov_i c)]) (st2 := [ov_r 3]) (pc2 := 1) b_60_0_1 rfl rfl ?_
  refine ov_ldc2 (n := 491496238692) d_60_1 kc_Reader_163 ?_
  refine ov_cV (as := [ov_l 491496238692]) (st := []) (d2 := d - 1) d_60_4 lk_Reader_98 rfl (Nat.le_of_ble_eq_true rfl) (c := 6) (zb_3 I) (zs_3 I) ⟨by decide, rfl⟩ (by omega) (c_Reader_takeWord_3_k3_1_70 (d - 1) (by omega) U I (ov_kws hw (by decide +kernel)) 491496238692 k0) ?_
  rintro _ z3 h4 ⟨v2, rfl, I5, f1⟩
  show ov_R u d ov_m60 7 [(0, ov_r 3), (1, ov_i c)] [ov_i v2] z3 h4 (P_Reader_readRound_3_k3_1_70 F z h c)
  have f6 : (v2 = 0 ∧ 1 ≤ (h4 3 2) ∨ v2 = 1) ∧ (h4 36 7) = (h 36 7) ∧ (h4 1 1) = (h 1 1) ∧ (h4 90 2) = (h 90 2) ∧ (h4 0 10) = (h 0 10) ∧ (h4 0 11) = (h 0 11) ∧ (h4 0 12) = (h 0 12) ∧ (h4 0 13) = (h 0 13) ∧ (h4 3 1) = (h 3 1) ∧ (h4 36 8) = (h 36 8) ∧ (h4 46 3) = (h 46 3) ∧ (h4 46 4) = (h 46 4) ∧ (h4 49 4) = (h 49 4) ∧ (h4 49 5) = (h 49 5) ∧ (h4 64 0) = (h 64 0) ∧ (h4 76 0) = (h 76 0) := f1
  clear f1
  have e7 : h4 3 1 = 70 := by omega
  refine ov_ifeq (tgt := 20) d_60_7 (by decide) (by omega) (fun c8 => ?_) (fun c8 => ?_)
  · skip
    refine ov_blk (ls2 := [(0, ov_r 3), (1, ov_i c)]) (st2 := [ov_i 0]) (pc2 := 21) b_60_20_1 rfl rfl ?_
    exact ov_retz (st := []) d_60_21 rfl (by omega) ⟨_, rfl, I5, (by show (0 = 0 ∧ 1 ≤ (h4 3 2) ∨ 0 = 1) ∧ (h4 36 7) = (h 36 7) ∧ (h4 1 1) = (h 1 1) ∧ (h4 90 2) = (h 90 2) ∧ (h4 0 10) = (h 0 10) ∧ (h4 0 11) = (h 0 11) ∧ (h4 0 12) = (h 0 12) ∧ (h4 0 13) = (h 0 13) ∧ (h4 3 1) = (h 3 1) ∧ (h4 36 8) = (h 36 8) ∧ (h4 46 3) = (h 46 3) ∧ (h4 46 4) = (h 46 4) ∧ (h4 49 4) = (h 49 4) ∧ (h4 49 5) = (h 49 5) ∧ (h4 64 0) = (h 64 0) ∧ (h4 76 0) = (h 76 0); omega)⟩
  · skip
    refine ov_blk (ls2 := [(0, ov_r 3), (1, ov_i c)]) (st2 := [ov_i 60, ov_i 1, ov_r 3]) (pc2 := 14) b_60_10_3 rfl rfl ?_
    refine ov_cV (as := [ov_i 1, ov_i 60]) (st := []) (d2 := d - 1) d_60_14 lk_Reader_143 rfl (Nat.le_of_ble_eq_true rfl) (c := 6) (zb_3 I5) (zs_3 I5) ⟨by decide, rfl⟩ (by omega) (c_Reader_isNumber_3_k3_1_70 (d - 1) (by omega) U I5 (ov_kws hw (by decide +kernel)) 1 60 e7 (by omega) (by omega)) ?_
    rintro _ z11 h12 ⟨v10, rfl, I13, f9⟩
    show ov_R u d ov_m60 17 [(0, ov_r 3), (1, ov_i c)] [ov_i v10] z11 h12 (P_Reader_readRound_3_k3_1_70 F z h c)
    have f14 : (v10 = 0 ∧ 1 ≤ (h12 3 2) ∨ v10 = 1 ∧ (1 : Int) ≤ (h12 1 4) ∧ (h12 1 4) ≤ (60 : Int)) ∧ (h12 36 7) = (h4 36 7) ∧ (h12 1 1) = (h4 1 1) ∧ (h12 90 2) = (h4 90 2) ∧ (h12 0 10) = (h4 0 10) ∧ (h12 0 11) = (h4 0 11) ∧ (h12 0 12) = (h4 0 12) ∧ (h12 0 13) = (h4 0 13) ∧ (h12 3 1) = (h4 3 1) ∧ (h12 36 8) = (h4 36 8) ∧ (h12 46 3) = (h4 46 3) ∧ (h12 46 4) = (h4 46 4) ∧ (h12 49 4) = (h4 49 4) ∧ (h12 49 5) = (h4 49 5) ∧ (h12 64 0) = (h4 64 0) ∧ (h12 76 0) = (h4 76 0) := f9
    clear f9
    have e15 : h12 3 1 = 70 := by omega
    refine ov_ifne (tgt := 22) d_60_17 (by decide) (by omega) (fun c16 => ?_) (fun c16 => ?_)
    · skip
      refine ov_blk (ls2 := [(0, ov_r 3), (1, ov_i c)]) (st2 := [ov_r 3]) (pc2 := 23) b_60_22_1 rfl rfl ?_
      refine ov_getf (v := ov_r 70) d_60_23 fl_Reader_15 (zb_3 I13) (zs_3 I13) (congrArg ov_r e15) ?_
      refine ov_getf (v := ov_r 72) d_60_26 fl_Reader_165 (zb_70 I13) (zs_70 I13) (congrArg ov_r (rg_70_3 I13)) ?_
      refine ov_blk (ls2 := [(0, ov_r 3), (1, ov_i c)]) (st2 := [ov_r 3, ov_i c, ov_r 72]) (pc2 := 31) b_60_29_2 rfl rfl ?_
      refine ov_getf (v := ov_r 1) d_60_31 fl_Reader_9 (zb_3 I13) (zs_3 I13) (congrArg ov_r (rg_3_0 I13)) ?_
      refine ov_getf (v := ov_i (h12 1 4)) d_60_34 fl_Reader_146 (zb_1 I13) (zs_1 I13) rfl ?_
      have g17 := rg_1_4 I13
      refine ov_iast d_60_37 (zb_72 I13) (zs_72 I13) (by omega) ?_
      have I18 := ua_72 (k := c) (x := (h12 1 4)) I13 (by omega) (hw 72 (by decide +kernel))
      refine ov_blk (ls2 := [(0, ov_r 3), (1, ov_i c)]) (st2 := [ov_r 3]) (pc2 := 39) b_60_38_1 rfl rfl ?_
      refine ov_getf (v := ov_r 70) d_60_39 fl_Reader_15 (zb_3 I18) (zs_3 I18) (congrArg ov_r e15) ?_
      refine ov_blk (ls2 := [(0, ov_r 3), (1, ov_i c)]) (st2 := [ov_i c, ov_r 70]) (pc2 := 43) b_60_42_1 rfl rfl ?_
      refine ov_cV (as := [ov_i c]) (st := []) (d2 := d - 1) d_60_43 lk_Reader_168 rfl (Nat.le_of_ble_eq_true rfl) (c := 9) (zb_70 I18) (zs_70 I18) ⟨by decide, rfl⟩ (by omega) (c_Town_isTimed_70 (d - 1) (by omega) U I18 c (by omega) (by omega)) ?_
      rintro _ _ _ ⟨v20, rfl, rfl, rfl, f19⟩
      show ov_R u d ov_m60 46 [(0, ov_r 3), (1, ov_i c)] [ov_i v20] z11 (ov_up h12 72 c (h12 1 4)) (P_Reader_readRound_3_k3_1_70 F z h c)
      have f21 : (v20 = 0 ∨ v20 = 1) := f19
      clear f19
      refine ov_ifeq (tgt := 88) d_60_46 (by decide) (by omega) (fun c22 => ?_) (fun c22 => ?_)
      · skip
        refine ov_blk (ls2 := [(0, ov_r 3), (1, ov_i c)]) (st2 := [ov_r 3]) (pc2 := 89) b_60_88_1 rfl rfl ?_
        refine ov_getf (v := ov_r 1) d_60_89 fl_Reader_9 (zb_3 I18) (zs_3 I18) (congrArg ov_r (rg_3_0 I18)) ?_
        refine ov_cV (as := []) (st := []) (d2 := d - 1) d_60_92 lk_Reader_75 rfl (Nat.le_of_ble_eq_true rfl) (c := 8) (zb_1 I18) (zs_1 I18) ⟨by decide, rfl⟩ (by omega) (c_Tape_advance_1 (d - 1) (by omega) U I18 (ov_kws hw (by decide +kernel))) ?_
        rintro _ z24 h25 ⟨rfl, I26, f23⟩
        show ov_R u d ov_m60 95 [(0, ov_r 3), (1, ov_i c)] [] z24 h25 (P_Reader_readRound_3_k3_1_70 F z h c)
        have f27 : (h25 3 3) = (h12 3 3) ∧ (h25 36 7) = (h12 36 7) ∧ (h25 1 1) = (h12 1 1) ∧ (h25 90 2) = (h12 90 2) ∧ (h25 0 10) = (h12 0 10) ∧ (h25 0 11) = (h12 0 11) ∧ (h25 0 12) = (h12 0 12) ∧ (h25 0 13) = (h12 0 13) ∧ (h25 3 1) = (h12 3 1) ∧ (h25 36 8) = (h12 36 8) ∧ (h25 46 3) = (h12 46 3) ∧ (h25 46 4) = (h12 46 4) ∧ (h25 49 4) = (h12 49 4) ∧ (h25 49 5) = (h12 49 5) ∧ (h25 64 0) = (h12 64 0) ∧ (h25 76 0) = (h12 76 0) := f23
        clear f23
        have e28 : h25 3 1 = 70 := by omega
        refine ov_blk (ls2 := [(0, ov_r 3), (1, ov_i c)]) (st2 := [ov_i 1]) (pc2 := 96) b_60_95_1 rfl rfl ?_
        exact ov_retz (st := []) d_60_96 rfl (by omega) ⟨_, rfl, I26, (by show (1 = 0 ∧ 1 ≤ (h25 3 2) ∨ 1 = 1) ∧ (h25 36 7) = (h 36 7) ∧ (h25 1 1) = (h 1 1) ∧ (h25 90 2) = (h 90 2) ∧ (h25 0 10) = (h 0 10) ∧ (h25 0 11) = (h 0 11) ∧ (h25 0 12) = (h 0 12) ∧ (h25 0 13) = (h 0 13) ∧ (h25 3 1) = (h 3 1) ∧ (h25 36 8) = (h 36 8) ∧ (h25 46 3) = (h 46 3) ∧ (h25 46 4) = (h 46 4) ∧ (h25 49 4) = (h 49 4) ∧ (h25 49 5) = (h 49 5) ∧ (h25 64 0) = (h 64 0) ∧ (h25 76 0) = (h 76 0); omega)⟩
      · skip
        refine ov_blk (ls2 := [(0, ov_r 3), (1, ov_i c)]) (st2 := [ov_r 3]) (pc2 := 50) b_60_49_1 rfl rfl ?_
        refine ov_getf (v := ov_r 70) d_60_50 fl_Reader_15 (zb_3 I18) (zs_3 I18) (congrArg ov_r e15) ?_
        refine ov_getf (v := ov_i (h12 70 10)) d_60_53 fl_Reader_171 (zb_70 I18) (zs_70 I18) rfl ?_
        have g29 := rg_70_10 I13
        refine ov_blk (ls2 := [(0, ov_r 3), (1, ov_i c)]) (st2 := [ov_r 3, ov_i (h12 70 10)]) (pc2 := 57) b_60_56_1 rfl rfl ?_
        refine ov_getf (v := ov_r 1) d_60_57 fl_Reader_9 (zb_3 I18) (zs_3 I18) (congrArg ov_r (rg_3_0 I18)) ?_
        refine ov_getf (v := ov_i (h12 1 4)) d_60_60 fl_Reader_146 (zb_1 I18) (zs_1 I18) rfl ?_
        refine ov_cSN (as := [ov_i (h12 70 10), ov_i (h12 1 4)]) (st := []) (d2 := d - 1) d_60_63 lk_Reader_174 rfl (Nat.le_of_ble_eq_true rfl) (by omega) (c_OF_commonMultiple (d - 1) (by omega) U I18 (h12 70 10) (h12 1 4) (by omega) (by omega)) ?_
        rintro _ _ _ ⟨v32, rfl, rfl, rfl, f31⟩
        show ov_R u d ov_m60 66 [(0, ov_r 3), (1, ov_i c)] [ov_i v32] z11 (ov_up h12 72 c (h12 1 4)) (P_Reader_readRound_3_k3_1_70 F z h c)
        have f33 : -2147483648 ≤ v32 ∧ v32 ≤ 2147483647 ∧ (0 ≤ (h12 70 10) → (h12 70 10) ≤ 1200 → 0 ≤ (h12 1 4) → (h12 1 4) ≤ 60 → 0 ≤ v32 ∧ v32 ≤ 72000) := f31
        clear f31
        refine ov_blk (ls2 := [(0, ov_r 3), (1, ov_i c), (2, ov_i v32)]) (st2 := [ov_i 1200, ov_i v32]) (pc2 := 71) b_60_66_3 rfl rfl ?_
        refine ov_icle (tgt := 80) d_60_71 (by decide) (by omega) (by omega) (fun c34 => ?_) (fun c34 => ?_)
        · skip
          refine ov_blk (ls2 := [(0, ov_r 3), (1, ov_i c), (2, ov_i v32)]) (st2 := [ov_r 3]) (pc2 := 81) b_60_80_1 rfl rfl ?_
          refine ov_getf (v := ov_r 70) d_60_81 fl_Reader_15 (zb_3 I18) (zs_3 I18) (congrArg ov_r e15) ?_
          refine ov_blk (ls2 := [(0, ov_r 3), (1, ov_i c), (2, ov_i v32)]) (st2 := [ov_i v32, ov_r 70]) (pc2 := 85) b_60_84_1 rfl rfl ?_
          refine ov_putf (x := v32) d_60_85 fl_Reader_171 (zb_70 I18) (zs_70 I18) rfl nk_0 rfl ?_
          have I35 := up_70_10 (x := v32) I18 (by omega) (hw 70 (by decide +kernel))
          refine ov_blk (ls2 := [(0, ov_r 3), (1, ov_i c), (2, ov_i v32)]) (st2 := [ov_r 3]) (pc2 := 89) b_60_88_1 rfl rfl ?_
          refine ov_getf (v := ov_r 1) d_60_89 fl_Reader_9 (zb_3 I35) (zs_3 I35) (congrArg ov_r (rg_3_0 I35)) ?_
          refine ov_cV (as := []) (st := []) (d2 := d - 1) d_60_92 lk_Reader_75 rfl (Nat.le_of_ble_eq_true rfl) (c := 8) (zb_1 I35) (zs_1 I35) ⟨by decide, rfl⟩ (by omega) (c_Tape_advance_1 (d - 1) (by omega) U I35 (ov_kws hw (by decide +kernel))) ?_
          rintro _ z37 h38 ⟨rfl, I39, f36⟩
          show ov_R u d ov_m60 95 [(0, ov_r 3), (1, ov_i c), (2, ov_i v32)] [] z37 h38 (P_Reader_readRound_3_k3_1_70 F z h c)
          have f40 : (h38 3 3) = (h12 3 3) ∧ (h38 36 7) = (h12 36 7) ∧ (h38 1 1) = (h12 1 1) ∧ (h38 90 2) = (h12 90 2) ∧ (h38 0 10) = (h12 0 10) ∧ (h38 0 11) = (h12 0 11) ∧ (h38 0 12) = (h12 0 12) ∧ (h38 0 13) = (h12 0 13) ∧ (h38 3 1) = (h12 3 1) ∧ (h38 36 8) = (h12 36 8) ∧ (h38 46 3) = (h12 46 3) ∧ (h38 46 4) = (h12 46 4) ∧ (h38 49 4) = (h12 49 4) ∧ (h38 49 5) = (h12 49 5) ∧ (h38 64 0) = (h12 64 0) ∧ (h38 76 0) = (h12 76 0) := f36
          clear f36
          have e41 : h38 3 1 = 70 := by omega
          refine ov_blk (ls2 := [(0, ov_r 3), (1, ov_i c), (2, ov_i v32)]) (st2 := [ov_i 1]) (pc2 := 96) b_60_95_1 rfl rfl ?_
          exact ov_retz (st := []) d_60_96 rfl (by omega) ⟨_, rfl, I39, (by show (1 = 0 ∧ 1 ≤ (h38 3 2) ∨ 1 = 1) ∧ (h38 36 7) = (h 36 7) ∧ (h38 1 1) = (h 1 1) ∧ (h38 90 2) = (h 90 2) ∧ (h38 0 10) = (h 0 10) ∧ (h38 0 11) = (h 0 11) ∧ (h38 0 12) = (h 0 12) ∧ (h38 0 13) = (h 0 13) ∧ (h38 3 1) = (h 3 1) ∧ (h38 36 8) = (h 36 8) ∧ (h38 46 3) = (h 46 3) ∧ (h38 46 4) = (h 46 4) ∧ (h38 49 4) = (h 49 4) ∧ (h38 49 5) = (h 49 5) ∧ (h38 64 0) = (h 64 0) ∧ (h38 76 0) = (h 76 0); omega)⟩
        · skip
          refine ov_blk (ls2 := [(0, ov_r 3), (1, ov_i c), (2, ov_i v32)]) (st2 := [ov_i 4, ov_r 3]) (pc2 := 76) b_60_74_2 rfl rfl ?_
          refine ov_cV (as := [ov_i 4]) (st := []) (d2 := d - 1) d_60_76 lk_Reader_58 rfl (Nat.le_of_ble_eq_true rfl) (c := 6) (zb_3 I18) (zs_3 I18) ⟨by decide, rfl⟩ (by omega) (c_Reader_fail_3_k3_1_70 (d - 1) (by omega) U I18 (ov_kws hw (by decide +kernel)) 4 e15 (by omega) (by omega)) ?_
          rintro _ z44 h45 ⟨v43, rfl, I46, f42⟩
          show ov_R u d ov_m60 79 [(0, ov_r 3), (1, ov_i c), (2, ov_i v32)] [ov_i v43] z44 h45 (P_Reader_readRound_3_k3_1_70 F z h c)
          have f47 : v43 = 0 ∧ 1 ≤ (h45 3 2) ∧ (h45 36 7) = (h12 36 7) ∧ (h45 1 1) = (h12 1 1) ∧ (h45 90 2) = (h12 90 2) ∧ (h45 0 10) = (h12 0 10) ∧ (h45 0 11) = (h12 0 11) ∧ (h45 0 12) = (h12 0 12) ∧ (h45 0 13) = (h12 0 13) ∧ (h45 3 1) = (h12 3 1) ∧ (h45 36 8) = (h12 36 8) ∧ (h45 46 3) = (h12 46 3) ∧ (h45 46 4) = (h12 46 4) ∧ (h45 49 4) = (h12 49 4) ∧ (h45 49 5) = (h12 49 5) ∧ (h45 64 0) = (h12 64 0) ∧ (h45 76 0) = (h12 76 0) := f42
          clear f42
          have e48 : h45 3 1 = 70 := by omega
          exact ov_retz (st := []) d_60_79 rfl (by omega) ⟨_, rfl, I46, (by show (v43 = 0 ∧ 1 ≤ (h45 3 2) ∨ v43 = 1) ∧ (h45 36 7) = (h 36 7) ∧ (h45 1 1) = (h 1 1) ∧ (h45 90 2) = (h 90 2) ∧ (h45 0 10) = (h 0 10) ∧ (h45 0 11) = (h 0 11) ∧ (h45 0 12) = (h 0 12) ∧ (h45 0 13) = (h 0 13) ∧ (h45 3 1) = (h 3 1) ∧ (h45 36 8) = (h 36 8) ∧ (h45 46 3) = (h 46 3) ∧ (h45 46 4) = (h 46 4) ∧ (h45 49 4) = (h 49 4) ∧ (h45 49 5) = (h 49 5) ∧ (h45 64 0) = (h 64 0) ∧ (h45 76 0) = (h 76 0); omega)⟩
    · skip
      refine ov_blk (ls2 := [(0, ov_r 3), (1, ov_i c)]) (st2 := [ov_i 0]) (pc2 := 21) b_60_20_1 rfl rfl ?_
      exact ov_retz (st := []) d_60_21 rfl (by omega) ⟨_, rfl, I13, (by show (0 = 0 ∧ 1 ≤ (h12 3 2) ∨ 0 = 1) ∧ (h12 36 7) = (h 36 7) ∧ (h12 1 1) = (h 1 1) ∧ (h12 90 2) = (h 90 2) ∧ (h12 0 10) = (h 0 10) ∧ (h12 0 11) = (h 0 11) ∧ (h12 0 12) = (h 0 12) ∧ (h12 0 13) = (h 0 13) ∧ (h12 3 1) = (h 3 1) ∧ (h12 36 8) = (h 36 8) ∧ (h12 46 3) = (h 46 3) ∧ (h12 46 4) = (h 46 4) ∧ (h12 49 4) = (h 49 4) ∧ (h12 49 5) = (h 49 5) ∧ (h12 64 0) = (h 64 0) ∧ (h12 76 0) = (h 76 0); omega)⟩
abbrev P_Reader_readLight_3_k3_1_70 (F : ov_H) (z : ov_Z) (h : ov_H)  : Option ov_V → ov_Z → ov_H → Prop := fun r0 z' h' => ∃ r : Int, r0 = some (ov_i r) ∧ ov_I F z' h' ∧ ((r = 0 ∧ 1 ≤ (h' 3 2) ∨ r = 1) ∧ (h' 36 7) = (h 36 7) ∧ (h' 1 1) = (h 1 1) ∧ (h' 90 2) = (h 90 2) ∧ (h' 0 10) = (h 0 10) ∧ (h' 0 11) = (h 0 11) ∧ (h' 0 12) = (h 0 12) ∧ (h' 0 13) = (h 0 13) ∧ (h' 3 1) = (h 3 1) ∧ (h' 36 8) = (h 36 8) ∧ (h' 46 3) = (h 46 3) ∧ (h' 46 4) = (h 46 4) ∧ (h' 49 4) = (h 49 4) ∧ (h' 49 5) = (h 49 5) ∧ (h' 64 0) = (h 64 0) ∧ (h' 76 0) = (h 76 0))
set_option maxHeartbeats 4000000 in
theorem c_Reader_readLight_3_k3_1_70 {u : ov_U} {F : ov_H} {z : ov_Z} {h : ov_H} (d : Nat) (hd : 7 ≤ d) (U : ov_cap u) (I : ov_I F z h) (hw : ov_kw 36598340242239750406154 F) (k0 : h 3 1 = 70) : ov_T u d ov_m58 [ov_r 3] z h (P_Reader_readLight_3_k3_1_70 F z h) := by
  refine ov_en rfl (Nat.le_of_ble_eq_true rfl) ?_
  show ov_R u d ov_m58 0 [(0, ov_r 3)] [] z h (P_Reader_readLight_3_k3_1_70 F z h)
  refine ov_blk (ls2 := [(0, ov_r 3)]) (st2 := [ov_r 3]) (pc2 := 1) b_58_0_1 rfl rfl ?_
  refine ov_getf (v := ov_r 1) d_58_1 fl_Reader_9 (zb_3 I) (zs_3 I) (congrArg ov_r (rg_3_0 I)) ?_
  refine ov_cV (as := []) (st := []) (d2 := d - 1) d_58_4 lk_Reader_75 rfl (Nat.le_of_ble_eq_true rfl) (c := 8) (zb_1 I) (zs_1 I) ⟨by decide, rfl⟩ (by omega) (c_Tape_advance_1 (d - 1) (by omega) U I (ov_kws hw (by decide +kernel))) ?_
  rintro _ z2 h3 ⟨rfl, I4, f1⟩
  show ov_R u d ov_m58 7 [(0, ov_r 3)] [] z2 h3 (P_Reader_readLight_3_k3_1_70 F z h)
  have f5 : (h3 3 3) = (h 3 3) ∧ (h3 36 7) = (h 36 7) ∧ (h3 1 1) = (h 1 1) ∧ (h3 90 2) = (h 90 2) ∧ (h3 0 10) = (h 0 10) ∧ (h3 0 11) = (h 0 11) ∧ (h3 0 12) = (h 0 12) ∧ (h3 0 13) = (h 0 13) ∧ (h3 3 1) = (h 3 1) ∧ (h3 36 8) = (h 36 8) ∧ (h3 46 3) = (h 46 3) ∧ (h3 46 4) = (h 46 4) ∧ (h3 49 4) = (h 49 4) ∧ (h3 49 5) = (h 49 5) ∧ (h3 64 0) = (h 64 0) ∧ (h3 76 0) = (h 76 0) := f1
  clear f1
  have e6 : h3 3 1 = 70 := by omega
  refine ov_blk (ls2 := [(0, ov_r 3)]) (st2 := [ov_r 3, ov_i 0, ov_r 3]) (pc2 := 10) b_58_7_3 rfl rfl ?_
  refine ov_getf (v := ov_r 70) d_58_10 fl_Reader_15 (zb_3 I4) (zs_3 I4) (congrArg ov_r e6) ?_
  refine ov_getf (v := ov_i (h3 70 0)) d_58_13 fl_Reader_102 (zb_70 I4) (zs_70 I4) rfl ?_
  have g7 := rg_70_0 I4
  refine ov_blk (ls2 := [(0, ov_r 3)]) (st2 := [ov_i ((h3 70 0) - 1), ov_i 0, ov_r 3]) (pc2 := 18) b_58_16_2 rfl rfl ?_
  refine ov_cV (as := [ov_i 0, ov_i ((h3 70 0) - 1)]) (st := []) (d2 := d - 1) d_58_18 lk_Reader_78 rfl (Nat.le_of_ble_eq_true rfl) (c := 6) (zb_3 I4) (zs_3 I4) ⟨by decide, rfl⟩ (by omega) (c_Reader_takeNumber_3_k3_1_70 (d - 1) (by omega) U I4 (ov_kws hw (by decide +kernel)) 0 ((h3 70 0) - 1) e6 (by omega) (by omega)) ?_
  rintro _ z10 h11 ⟨v9, rfl, I12, f8⟩
  show ov_R u d ov_m58 21 [(0, ov_r 3)] [ov_i v9] z10 h11 (P_Reader_readLight_3_k3_1_70 F z h)
  have f13 : (v9 = 0 ∧ 1 ≤ (h11 3 2) ∨ v9 = 1 ∧ (0 : Int) ≤ (h11 3 3) ∧ (h11 3 3) ≤ ((h3 70 0) - 1)) ∧ (h11 36 7) = (h3 36 7) ∧ (h11 1 1) = (h3 1 1) ∧ (h11 90 2) = (h3 90 2) ∧ (h11 0 10) = (h3 0 10) ∧ (h11 0 11) = (h3 0 11) ∧ (h11 0 12) = (h3 0 12) ∧ (h11 0 13) = (h3 0 13) ∧ (h11 3 1) = (h3 3 1) ∧ (h11 36 8) = (h3 36 8) ∧ (h11 46 3) = (h3 46 3) ∧ (h11 46 4) = (h3 46 4) ∧ (h11 49 4) = (h3 49 4) ∧ (h11 49 5) = (h3 49 5) ∧ (h11 64 0) = (h3 64 0) ∧ (h11 76 0) = (h3 76 0) := f8
  clear f8
  have e14 : h11 3 1 = 70 := by omega
  refine ov_ifne (tgt := 26) d_58_21 (by decide) (by omega) (fun c15 => ?_) (fun c15 => ?_)
  · skip
    refine ov_blk (ls2 := [(0, ov_r 3)]) (st2 := [ov_r 3]) (pc2 := 27) b_58_26_1 rfl rfl ?_
    refine ov_getf (v := ov_i (h11 3 3)) d_58_27 fl_Reader_81 (zb_3 I12) (zs_3 I12) rfl ?_
    have g16 := rg_3_3 I12
    refine ov_blk (ls2 := [(0, ov_r 3), (1, ov_i (h11 3 3))]) (st2 := [ov_r 3, ov_i 0, ov_r 3]) (pc2 := 34) b_58_30_4 rfl rfl ?_
    refine ov_getf (v := ov_r 70) d_58_34 fl_Reader_15 (zb_3 I12) (zs_3 I12) (congrArg ov_r e14) ?_
    refine ov_getf (v := ov_i (h11 70 1)) d_58_37 fl_Reader_105 (zb_70 I12) (zs_70 I12) rfl ?_
    have g17 := rg_70_1 I12
    refine ov_blk (ls2 := [(0, ov_r 3), (1, ov_i (h11 3 3))]) (st2 := [ov_i ((h11 70 1) - 1), ov_i 0, ov_r 3]) (pc2 := 42) b_58_40_2 rfl rfl ?_
    refine ov_cV (as := [ov_i 0, ov_i ((h11 70 1) - 1)]) (st := []) (d2 := d - 1) d_58_42 lk_Reader_143 rfl (Nat.le_of_ble_eq_true rfl) (c := 6) (zb_3 I12) (zs_3 I12) ⟨by decide, rfl⟩ (by omega) (c_Reader_isNumber_3_k3_1_70 (d - 1) (by omega) U I12 (ov_kws hw (by decide +kernel)) 0 ((h11 70 1) - 1) e14 (by omega) (by omega)) ?_
    rintro _ z20 h21 ⟨v19, rfl, I22, f18⟩
    show ov_R u d ov_m58 45 [(0, ov_r 3), (1, ov_i (h11 3 3))] [ov_i v19] z20 h21 (P_Reader_readLight_3_k3_1_70 F z h)
    have f23 : (v19 = 0 ∧ 1 ≤ (h21 3 2) ∨ v19 = 1 ∧ (0 : Int) ≤ (h21 1 4) ∧ (h21 1 4) ≤ ((h11 70 1) - 1)) ∧ (h21 36 7) = (h11 36 7) ∧ (h21 1 1) = (h11 1 1) ∧ (h21 90 2) = (h11 90 2) ∧ (h21 0 10) = (h11 0 10) ∧ (h21 0 11) = (h11 0 11) ∧ (h21 0 12) = (h11 0 12) ∧ (h21 0 13) = (h11 0 13) ∧ (h21 3 1) = (h11 3 1) ∧ (h21 36 8) = (h11 36 8) ∧ (h21 46 3) = (h11 46 3) ∧ (h21 46 4) = (h11 46 4) ∧ (h21 49 4) = (h11 49 4) ∧ (h21 49 5) = (h11 49 5) ∧ (h21 64 0) = (h11 64 0) ∧ (h21 76 0) = (h11 76 0) := f18
    clear f18
    have e24 : h21 3 1 = 70 := by omega
    refine ov_ifne (tgt := 50) d_58_45 (by decide) (by omega) (fun c25 => ?_) (fun c25 => ?_)
    · skip
      refine ov_blk (ls2 := [(0, ov_r 3), (1, ov_i (h11 3 3))]) (st2 := [ov_r 3, ov_i 6, ov_i (h11 3 3)]) (pc2 := 54) b_58_50_3 rfl rfl ?_
      refine ov_getf (v := ov_r 1) d_58_54 fl_Reader_9 (zb_3 I22) (zs_3 I22) (congrArg ov_r (rg_3_0 I22)) ?_
      refine ov_getf (v := ov_i (h21 1 4)) d_58_57 fl_Reader_146 (zb_1 I22) (zs_1 I22) rfl ?_
      have g26 := rg_1_4 I22
      refine ov_blk (ls2 := [(0, ov_r 3), (1, ov_i (h11 3 3))]) (st2 := [ov_i ((h11 3 3) + (6 * (h21 1 4)))]) (pc2 := 62) b_58_60_2 rfl rfl ?_
      refine ov_havw (fun w27 gw27 qw27 => ?_)
      refine ov_blk (ls2 := [(0, ov_r 3), (1, ov_i w27)]) (st2 := [ov_r 3]) (pc2 := 64) b_58_62_2 rfl rfl ?_
      refine ov_getf (v := ov_r 70) d_58_64 fl_Reader_15 (zb_3 I22) (zs_3 I22) (congrArg ov_r e24) ?_
      refine ov_getf (v := ov_r 71) d_58_67 fl_Reader_147 (zb_70 I22) (zs_70 I22) (congrArg ov_r (rg_70_2 I22)) ?_
      refine ov_blk (ls2 := [(0, ov_r 3), (1, ov_i w27)]) (st2 := [ov_i w27, ov_r 71]) (pc2 := 71) b_58_70_1 rfl rfl ?_
      refine ov_iald d_58_71 (zb_71 I22) (zs_71 I22) (by omega) ?_
      have g28 := ra_71 I22 w27
      refine ov_blk (ls2 := [(0, ov_r 3), (1, ov_i w27)]) (st2 := [ov_i (-1), ov_i (h21 71 w27)]) (pc2 := 73) b_58_72_1 rfl rfl ?_
      refine ov_iceq (tgt := 82) d_58_73 (by decide) (by omega) (by omega) (fun c29 => ?_) (fun c29 => ?_)
      · skip
        refine ov_blk (ls2 := [(0, ov_r 3), (1, ov_i w27)]) (st2 := [ov_r 3]) (pc2 := 83) b_58_82_1 rfl rfl ?_
        refine ov_getf (v := ov_r 1) d_58_83 fl_Reader_9 (zb_3 I22) (zs_3 I22) (congrArg ov_r (rg_3_0 I22)) ?_
        refine ov_cV (as := []) (st := []) (d2 := d - 1) d_58_86 lk_Reader_75 rfl (Nat.le_of_ble_eq_true rfl) (c := 8) (zb_1 I22) (zs_1 I22) ⟨by decide, rfl⟩ (by omega) (c_Tape_advance_1 (d - 1) (by omega) U I22 (ov_kws hw (by decide +kernel))) ?_
        rintro _ z31 h32 ⟨rfl, I33, f30⟩
        show ov_R u d ov_m58 89 [(0, ov_r 3), (1, ov_i w27)] [] z31 h32 (P_Reader_readLight_3_k3_1_70 F z h)
        have f34 : (h32 3 3) = (h21 3 3) ∧ (h32 36 7) = (h21 36 7) ∧ (h32 1 1) = (h21 1 1) ∧ (h32 90 2) = (h21 90 2) ∧ (h32 0 10) = (h21 0 10) ∧ (h32 0 11) = (h21 0 11) ∧ (h32 0 12) = (h21 0 12) ∧ (h32 0 13) = (h21 0 13) ∧ (h32 3 1) = (h21 3 1) ∧ (h32 36 8) = (h21 36 8) ∧ (h32 46 3) = (h21 46 3) ∧ (h32 46 4) = (h21 46 4) ∧ (h32 49 4) = (h21 49 4) ∧ (h32 49 5) = (h21 49 5) ∧ (h32 64 0) = (h21 64 0) ∧ (h32 76 0) = (h21 76 0) := f30
        clear f30
        have e35 : h32 3 1 = 70 := by omega
        refine ov_blk (ls2 := [(0, ov_r 3), (1, ov_i w27)]) (st2 := [ov_r 3]) (pc2 := 90) b_58_89_1 rfl rfl ?_
        refine ov_cV (as := []) (st := []) (d2 := d - 1) d_58_90 lk_Reader_151 rfl (Nat.le_of_ble_eq_true rfl) (c := 6) (zb_3 I33) (zs_3 I33) ⟨by decide, rfl⟩ (by omega) (c_Reader_kindTold_3_k3_1_70 (d - 1) (by omega) U I33 e35) ?_
        rintro _ _ _ ⟨v37, rfl, rfl, rfl, f36⟩
        show ov_R u d ov_m58 93 [(0, ov_r 3), (1, ov_i w27)] [ov_i v37] z31 h32 (P_Reader_readLight_3_k3_1_70 F z h)
        have f38 : -1 ≤ v37 ∧ v37 ≤ 3 := f36
        clear f36
        refine ov_blk (ls2 := [(0, ov_r 3), (1, ov_i w27), (2, ov_i v37)]) (st2 := [ov_i (-1), ov_i v37]) (pc2 := 96) b_58_93_3 rfl rfl ?_
        refine ov_icne (tgt := 105) d_58_96 (by decide) (by omega) (by omega) (fun c39 => ?_) (fun c39 => ?_)
        · skip
          refine ov_blk (ls2 := [(0, ov_r 3), (1, ov_i w27), (2, ov_i v37)]) (st2 := [ov_r 3]) (pc2 := 106) b_58_105_1 rfl rfl ?_
          refine ov_getf (v := ov_r 70) d_58_106 fl_Reader_15 (zb_3 I33) (zs_3 I33) (congrArg ov_r e35) ?_
          refine ov_getf (v := ov_r 71) d_58_109 fl_Reader_147 (zb_70 I33) (zs_70 I33) (congrArg ov_r (rg_70_2 I33)) ?_
          refine ov_blk (ls2 := [(0, ov_r 3), (1, ov_i w27), (2, ov_i v37)]) (st2 := [ov_i v37, ov_i w27, ov_r 71]) (pc2 := 114) b_58_112_2 rfl rfl ?_
          refine ov_iast d_58_114 (zb_71 I33) (zs_71 I33) (by omega) ?_
          have I40 := ua_71 (k := w27) (x := v37) I33 (by omega) (hw 71 (by decide +kernel))
          refine ov_blk (ls2 := [(0, ov_r 3), (1, ov_i w27), (2, ov_i v37)]) (st2 := [ov_r 3]) (pc2 := 116) b_58_115_1 rfl rfl ?_
          refine ov_getf (v := ov_r 70) d_58_116 fl_Reader_15 (zb_3 I40) (zs_3 I40) (congrArg ov_r e35) ?_
          refine ov_blk (ls2 := [(0, ov_r 3), (1, ov_i w27), (2, ov_i v37)]) (st2 := [ov_r 70, ov_r 70]) (pc2 := 120) b_58_119_1 rfl rfl ?_
          refine ov_getf (v := ov_i (h32 70 9)) d_58_120 fl_Reader_154 (zb_70 I40) (zs_70 I40) rfl ?_
          have g41 := rg_70_9 I33
          refine ov_blk (ls2 := [(0, ov_r 3), (1, ov_i w27), (2, ov_i v37)]) (st2 := [ov_i ((h32 70 9) + 1), ov_r 70]) (pc2 := 125) b_58_123_2 rfl rfl ?_
          refine ov_havw (fun w42 gw42 qw42 => ?_)
          refine ov_putf (x := w42) d_58_125 fl_Reader_154 (zb_70 I40) (zs_70 I40) rfl nk_0 rfl ?_
          have I43 := up_70_9 (x := w42) I40 (by omega) (hw 70 (by decide +kernel))
          refine ov_blk (ls2 := [(0, ov_r 3), (1, ov_i w27), (2, ov_i v37)]) (st2 := [ov_r 3]) (pc2 := 129) b_58_128_1 rfl rfl ?_
          refine ov_getf (v := ov_r 1) d_58_129 fl_Reader_9 (zb_3 I43) (zs_3 I43) (congrArg ov_r (rg_3_0 I43)) ?_
          refine ov_cV (as := []) (st := []) (d2 := d - 1) d_58_132 lk_Reader_75 rfl (Nat.le_of_ble_eq_true rfl) (c := 8) (zb_1 I43) (zs_1 I43) ⟨by decide, rfl⟩ (by omega) (c_Tape_advance_1 (d - 1) (by omega) U I43 (ov_kws hw (by decide +kernel))) ?_
          rintro _ z45 h46 ⟨rfl, I47, f44⟩
          show ov_R u d ov_m58 135 [(0, ov_r 3), (1, ov_i w27), (2, ov_i v37)] [] z45 h46 (P_Reader_readLight_3_k3_1_70 F z h)
          have f48 : (h46 3 3) = (h32 3 3) ∧ (h46 36 7) = (h32 36 7) ∧ (h46 1 1) = (h32 1 1) ∧ (h46 90 2) = (h32 90 2) ∧ (h46 0 10) = (h32 0 10) ∧ (h46 0 11) = (h32 0 11) ∧ (h46 0 12) = (h32 0 12) ∧ (h46 0 13) = (h32 0 13) ∧ (h46 3 1) = (h32 3 1) ∧ (h46 36 8) = (h32 36 8) ∧ (h46 46 3) = (h32 46 3) ∧ (h46 46 4) = (h32 46 4) ∧ (h46 49 4) = (h32 49 4) ∧ (h46 49 5) = (h32 49 5) ∧ (h46 64 0) = (h32 64 0) ∧ (h46 76 0) = (h32 76 0) := f44
          clear f44
          have e49 : h46 3 1 = 70 := by omega
          refine ov_blk (ls2 := [(0, ov_r 3), (1, ov_i w27), (2, ov_i v37)]) (st2 := [ov_i w27, ov_r 3]) (pc2 := 137) b_58_135_2 rfl rfl ?_
          refine ov_cV (as := [ov_i w27]) (st := []) (d2 := d - 1) d_58_137 lk_Reader_157 rfl (Nat.le_of_ble_eq_true rfl) (c := 6) (zb_3 I47) (zs_3 I47) ⟨by decide, rfl⟩ (by omega) (c_Reader_readRound_3_k3_1_70 (d - 1) (by omega) U I47 (ov_kws hw (by decide +kernel)) w27 e49 (by omega) (by omega)) ?_
          rintro _ z52 h53 ⟨v51, rfl, I54, f50⟩
          show ov_R u d ov_m58 140 [(0, ov_r 3), (1, ov_i w27), (2, ov_i v37)] [ov_i v51] z52 h53 (P_Reader_readLight_3_k3_1_70 F z h)
          have f55 : (v51 = 0 ∧ 1 ≤ (h53 3 2) ∨ v51 = 1) ∧ (h53 36 7) = (h46 36 7) ∧ (h53 1 1) = (h46 1 1) ∧ (h53 90 2) = (h46 90 2) ∧ (h53 0 10) = (h46 0 10) ∧ (h53 0 11) = (h46 0 11) ∧ (h53 0 12) = (h46 0 12) ∧ (h53 0 13) = (h46 0 13) ∧ (h53 3 1) = (h46 3 1) ∧ (h53 36 8) = (h46 36 8) ∧ (h53 46 3) = (h46 46 3) ∧ (h53 46 4) = (h46 46 4) ∧ (h53 49 4) = (h46 49 4) ∧ (h53 49 5) = (h46 49 5) ∧ (h53 64 0) = (h46 64 0) ∧ (h53 76 0) = (h46 76 0) := f50
          clear f50
          have e56 : h53 3 1 = 70 := by omega
          refine ov_ifeq (tgt := 164) d_58_140 (by decide) (by omega) (fun c57 => ?_) (fun c57 => ?_)
          · skip
            refine ov_blk (ls2 := [(0, ov_r 3), (1, ov_i w27), (2, ov_i v37)]) (st2 := [ov_i 0]) (pc2 := 165) b_58_164_1 rfl rfl ?_
            exact ov_retz (st := []) d_58_165 rfl (by omega) ⟨_, rfl, I54, (by show (0 = 0 ∧ 1 ≤ (h53 3 2) ∨ 0 = 1) ∧ (h53 36 7) = (h 36 7) ∧ (h53 1 1) = (h 1 1) ∧ (h53 90 2) = (h 90 2) ∧ (h53 0 10) = (h 0 10) ∧ (h53 0 11) = (h 0 11) ∧ (h53 0 12) = (h 0 12) ∧ (h53 0 13) = (h 0 13) ∧ (h53 3 1) = (h 3 1) ∧ (h53 36 8) = (h 36 8) ∧ (h53 46 3) = (h 46 3) ∧ (h53 46 4) = (h 46 4) ∧ (h53 49 4) = (h 49 4) ∧ (h53 49 5) = (h 49 5) ∧ (h53 64 0) = (h 64 0) ∧ (h53 76 0) = (h 76 0); omega)⟩
          · skip
            refine ov_blk (ls2 := [(0, ov_r 3), (1, ov_i w27), (2, ov_i v37)]) (st2 := [ov_i w27, ov_r 3]) (pc2 := 145) b_58_143_2 rfl rfl ?_
            refine ov_cV (as := [ov_i w27]) (st := []) (d2 := d - 1) d_58_145 lk_Reader_160 rfl (Nat.le_of_ble_eq_true rfl) (c := 6) (zb_3 I54) (zs_3 I54) ⟨by decide, rfl⟩ (by omega) (c_Reader_readGreen_3_k3_1_70 (d - 1) (by omega) U I54 (ov_kws hw (by decide +kernel)) w27 e56 (by omega) (by omega)) ?_
            rintro _ z60 h61 ⟨v59, rfl, I62, f58⟩
            show ov_R u d ov_m58 148 [(0, ov_r 3), (1, ov_i w27), (2, ov_i v37)] [ov_i v59] z60 h61 (P_Reader_readLight_3_k3_1_70 F z h)
            have f63 : (v59 = 0 ∧ 1 ≤ (h61 3 2) ∨ v59 = 1) ∧ (h61 36 7) = (h53 36 7) ∧ (h61 1 1) = (h53 1 1) ∧ (h61 90 2) = (h53 90 2) ∧ (h61 0 10) = (h53 0 10) ∧ (h61 0 11) = (h53 0 11) ∧ (h61 0 12) = (h53 0 12) ∧ (h61 0 13) = (h53 0 13) ∧ (h61 3 1) = (h53 3 1) ∧ (h61 36 8) = (h53 36 8) ∧ (h61 46 3) = (h53 46 3) ∧ (h61 46 4) = (h53 46 4) ∧ (h61 49 4) = (h53 49 4) ∧ (h61 49 5) = (h53 49 5) ∧ (h61 64 0) = (h53 64 0) ∧ (h61 76 0) = (h53 76 0) := f58
            clear f58
            have e64 : h61 3 1 = 70 := by omega
            refine ov_ifeq (tgt := 164) d_58_148 (by decide) (by omega) (fun c65 => ?_) (fun c65 => ?_)
            · skip
              refine ov_blk (ls2 := [(0, ov_r 3), (1, ov_i w27), (2, ov_i v37)]) (st2 := [ov_i 0]) (pc2 := 165) b_58_164_1 rfl rfl ?_
              exact ov_retz (st := []) d_58_165 rfl (by omega) ⟨_, rfl, I62, (by show (0 = 0 ∧ 1 ≤ (h61 3 2) ∨ 0 = 1) ∧ (h61 36 7) = (h 36 7) ∧ (h61 1 1) = (h 1 1) ∧ (h61 90 2) = (h 90 2) ∧ (h61 0 10) = (h 0 10) ∧ (h61 0 11) = (h 0 11) ∧ (h61 0 12) = (h 0 12) ∧ (h61 0 13) = (h 0 13) ∧ (h61 3 1) = (h 3 1) ∧ (h61 36 8) = (h 36 8) ∧ (h61 46 3) = (h 46 3) ∧ (h61 46 4) = (h 46 4) ∧ (h61 49 4) = (h 49 4) ∧ (h61 49 5) = (h 49 5) ∧ (h61 64 0) = (h 64 0) ∧ (h61 76 0) = (h 76 0); omega)⟩
            · skip
              refine ov_blk (ls2 := [(0, ov_r 3), (1, ov_i w27), (2, ov_i v37)]) (st2 := [ov_i 59, ov_r 3]) (pc2 := 154) b_58_151_2 rfl rfl ?_
              refine ov_cV (as := [ov_i 59]) (st := []) (d2 := d - 1) d_58_154 lk_Reader_92 rfl (Nat.le_of_ble_eq_true rfl) (c := 6) (zb_3 I62) (zs_3 I62) ⟨by decide, rfl⟩ (by omega) (c_Reader_takeSign_3_k3_1_70 (d - 1) (by omega) U I62 (ov_kws hw (by decide +kernel)) 59 e64 (by omega)) ?_
              rintro _ z68 h69 ⟨v67, rfl, I70, f66⟩
              show ov_R u d ov_m58 157 [(0, ov_r 3), (1, ov_i w27), (2, ov_i v37)] [ov_i v67] z68 h69 (P_Reader_readLight_3_k3_1_70 F z h)
              have f71 : (v67 = 0 ∧ 1 ≤ (h69 3 2) ∨ v67 = 1) ∧ (h69 36 7) = (h61 36 7) ∧ (h69 1 1) = (h61 1 1) ∧ (h69 90 2) = (h61 90 2) ∧ (h69 0 10) = (h61 0 10) ∧ (h69 0 11) = (h61 0 11) ∧ (h69 0 12) = (h61 0 12) ∧ (h69 0 13) = (h61 0 13) ∧ (h69 3 1) = (h61 3 1) ∧ (h69 36 8) = (h61 36 8) ∧ (h69 46 3) = (h61 46 3) ∧ (h69 46 4) = (h61 46 4) ∧ (h69 49 4) = (h61 49 4) ∧ (h69 49 5) = (h61 49 5) ∧ (h69 64 0) = (h61 64 0) ∧ (h69 76 0) = (h61 76 0) := f66
              clear f66
              have e72 : h69 3 1 = 70 := by omega
              refine ov_ifeq (tgt := 164) d_58_157 (by decide) (by omega) (fun c73 => ?_) (fun c73 => ?_)
              · skip
                refine ov_blk (ls2 := [(0, ov_r 3), (1, ov_i w27), (2, ov_i v37)]) (st2 := [ov_i 0]) (pc2 := 165) b_58_164_1 rfl rfl ?_
                exact ov_retz (st := []) d_58_165 rfl (by omega) ⟨_, rfl, I70, (by show (0 = 0 ∧ 1 ≤ (h69 3 2) ∨ 0 = 1) ∧ (h69 36 7) = (h 36 7) ∧ (h69 1 1) = (h 1 1) ∧ (h69 90 2) = (h 90 2) ∧ (h69 0 10) = (h 0 10) ∧ (h69 0 11) = (h 0 11) ∧ (h69 0 12) = (h 0 12) ∧ (h69 0 13) = (h 0 13) ∧ (h69 3 1) = (h 3 1) ∧ (h69 36 8) = (h 36 8) ∧ (h69 46 3) = (h 46 3) ∧ (h69 46 4) = (h 46 4) ∧ (h69 49 4) = (h 49 4) ∧ (h69 49 5) = (h 49 5) ∧ (h69 64 0) = (h 64 0) ∧ (h69 76 0) = (h 76 0); omega)⟩
              · skip
                refine ov_blk (ls2 := [(0, ov_r 3), (1, ov_i w27), (2, ov_i v37)]) (st2 := [ov_i 1]) (pc2 := 161) b_58_160_1 rfl rfl ?_
                refine ov_goto (tgt := 165) d_58_161 (by decide) ?_
                exact ov_retz (st := []) d_58_165 rfl (by omega) ⟨_, rfl, I70, (by show (1 = 0 ∧ 1 ≤ (h69 3 2) ∨ 1 = 1) ∧ (h69 36 7) = (h 36 7) ∧ (h69 1 1) = (h 1 1) ∧ (h69 90 2) = (h 90 2) ∧ (h69 0 10) = (h 0 10) ∧ (h69 0 11) = (h 0 11) ∧ (h69 0 12) = (h 0 12) ∧ (h69 0 13) = (h 0 13) ∧ (h69 3 1) = (h 3 1) ∧ (h69 36 8) = (h 36 8) ∧ (h69 46 3) = (h 46 3) ∧ (h69 46 4) = (h 46 4) ∧ (h69 49 4) = (h 49 4) ∧ (h69 49 5) = (h 49 5) ∧ (h69 64 0) = (h 64 0) ∧ (h69 76 0) = (h 76 0); omega)⟩
        · skip
          refine ov_blk (ls2 := [(0, ov_r 3), (1, ov_i w27), (2, ov_i v37)]) (st2 := [ov_i 1, ov_r 3]) (pc2 := 101) b_58_99_2 rfl rfl ?_
          refine ov_cV (as := [ov_i 1]) (st := []) (d2 := d - 1) d_58_101 lk_Reader_58 rfl (Nat.le_of_ble_eq_true rfl) (c := 6) (zb_3 I33) (zs_3 I33) ⟨by decide, rfl⟩ (by omega) (c_Reader_fail_3_k3_1_70 (d - 1) (by omega) U I33 (ov_kws hw (by decide +kernel)) 1 e35 (by omega) (by omega)) ?_
          rintro _ z76 h77 ⟨v75, rfl, I78, f74⟩
          show ov_R u d ov_m58 104 [(0, ov_r 3), (1, ov_i w27), (2, ov_i v37)] [ov_i v75] z76 h77 (P_Reader_readLight_3_k3_1_70 F z h)
          have f79 : v75 = 0 ∧ 1 ≤ (h77 3 2) ∧ (h77 36 7) = (h32 36 7) ∧ (h77 1 1) = (h32 1 1) ∧ (h77 90 2) = (h32 90 2) ∧ (h77 0 10) = (h32 0 10) ∧ (h77 0 11) = (h32 0 11) ∧ (h77 0 12) = (h32 0 12) ∧ (h77 0 13) = (h32 0 13) ∧ (h77 3 1) = (h32 3 1) ∧ (h77 36 8) = (h32 36 8) ∧ (h77 46 3) = (h32 46 3) ∧ (h77 46 4) = (h32 46 4) ∧ (h77 49 4) = (h32 49 4) ∧ (h77 49 5) = (h32 49 5) ∧ (h77 64 0) = (h32 64 0) ∧ (h77 76 0) = (h32 76 0) := f74
          clear f74
          have e80 : h77 3 1 = 70 := by omega
          exact ov_retz (st := []) d_58_104 rfl (by omega) ⟨_, rfl, I78, (by show (v75 = 0 ∧ 1 ≤ (h77 3 2) ∨ v75 = 1) ∧ (h77 36 7) = (h 36 7) ∧ (h77 1 1) = (h 1 1) ∧ (h77 90 2) = (h 90 2) ∧ (h77 0 10) = (h 0 10) ∧ (h77 0 11) = (h 0 11) ∧ (h77 0 12) = (h 0 12) ∧ (h77 0 13) = (h 0 13) ∧ (h77 3 1) = (h 3 1) ∧ (h77 36 8) = (h 36 8) ∧ (h77 46 3) = (h 46 3) ∧ (h77 46 4) = (h 46 4) ∧ (h77 49 4) = (h 49 4) ∧ (h77 49 5) = (h 49 5) ∧ (h77 64 0) = (h 64 0) ∧ (h77 76 0) = (h 76 0); omega)⟩
      · skip
        refine ov_blk (ls2 := [(0, ov_r 3), (1, ov_i w27)]) (st2 := [ov_i 3, ov_r 3]) (pc2 := 78) b_58_76_2 rfl rfl ?_
        refine ov_cV (as := [ov_i 3]) (st := []) (d2 := d - 1) d_58_78 lk_Reader_58 rfl (Nat.le_of_ble_eq_true rfl) (c := 6) (zb_3 I22) (zs_3 I22) ⟨by decide, rfl⟩ (by omega) (c_Reader_fail_3_k3_1_70 (d - 1) (by omega) U I22 (ov_kws hw (by decide +kernel)) 3 e24 (by omega) (by omega)) ?_
        rintro _ z83 h84 ⟨v82, rfl, I85, f81⟩
        show ov_R u d ov_m58 81 [(0, ov_r 3), (1, ov_i w27)] [ov_i v82] z83 h84 (P_Reader_readLight_3_k3_1_70 F z h)
        have f86 : v82 = 0 ∧ 1 ≤ (h84 3 2) ∧ (h84 36 7) = (h21 36 7) ∧ (h84 1 1) = (h21 1 1) ∧ (h84 90 2) = (h21 90 2) ∧ (h84 0 10) = (h21 0 10) ∧ (h84 0 11) = (h21 0 11) ∧ (h84 0 12) = (h21 0 12) ∧ (h84 0 13) = (h21 0 13) ∧ (h84 3 1) = (h21 3 1) ∧ (h84 36 8) = (h21 36 8) ∧ (h84 46 3) = (h21 46 3) ∧ (h84 46 4) = (h21 46 4) ∧ (h84 49 4) = (h21 49 4) ∧ (h84 49 5) = (h21 49 5) ∧ (h84 64 0) = (h21 64 0) ∧ (h84 76 0) = (h21 76 0) := f81
        clear f81
        have e87 : h84 3 1 = 70 := by omega
        exact ov_retz (st := []) d_58_81 rfl (by omega) ⟨_, rfl, I85, (by show (v82 = 0 ∧ 1 ≤ (h84 3 2) ∨ v82 = 1) ∧ (h84 36 7) = (h 36 7) ∧ (h84 1 1) = (h 1 1) ∧ (h84 90 2) = (h 90 2) ∧ (h84 0 10) = (h 0 10) ∧ (h84 0 11) = (h 0 11) ∧ (h84 0 12) = (h 0 12) ∧ (h84 0 13) = (h 0 13) ∧ (h84 3 1) = (h 3 1) ∧ (h84 36 8) = (h 36 8) ∧ (h84 46 3) = (h 46 3) ∧ (h84 46 4) = (h 46 4) ∧ (h84 49 4) = (h 49 4) ∧ (h84 49 5) = (h 49 5) ∧ (h84 64 0) = (h 64 0) ∧ (h84 76 0) = (h 76 0); omega)⟩
    · skip
      refine ov_blk (ls2 := [(0, ov_r 3), (1, ov_i (h11 3 3))]) (st2 := [ov_i 0]) (pc2 := 49) b_58_48_1 rfl rfl ?_
      exact ov_retz (st := []) d_58_49 rfl (by omega) ⟨_, rfl, I22, (by show (0 = 0 ∧ 1 ≤ (h21 3 2) ∨ 0 = 1) ∧ (h21 36 7) = (h 36 7) ∧ (h21 1 1) = (h 1 1) ∧ (h21 90 2) = (h 90 2) ∧ (h21 0 10) = (h 0 10) ∧ (h21 0 11) = (h 0 11) ∧ (h21 0 12) = (h 0 12) ∧ (h21 0 13) = (h 0 13) ∧ (h21 3 1) = (h 3 1) ∧ (h21 36 8) = (h 36 8) ∧ (h21 46 3) = (h 46 3) ∧ (h21 46 4) = (h 46 4) ∧ (h21 49 4) = (h 49 4) ∧ (h21 49 5) = (h 49 5) ∧ (h21 64 0) = (h 64 0) ∧ (h21 76 0) = (h 76 0); omega)⟩
  · skip
    refine ov_blk (ls2 := [(0, ov_r 3)]) (st2 := [ov_i 0]) (pc2 := 25) b_58_24_1 rfl rfl ?_
    exact ov_retz (st := []) d_58_25 rfl (by omega) ⟨_, rfl, I12, (by show (0 = 0 ∧ 1 ≤ (h11 3 2) ∨ 0 = 1) ∧ (h11 36 7) = (h 36 7) ∧ (h11 1 1) = (h 1 1) ∧ (h11 90 2) = (h 90 2) ∧ (h11 0 10) = (h 0 10) ∧ (h11 0 11) = (h 0 11) ∧ (h11 0 12) = (h 0 12) ∧ (h11 0 13) = (h 0 13) ∧ (h11 3 1) = (h 3 1) ∧ (h11 36 8) = (h 36 8) ∧ (h11 46 3) = (h 46 3) ∧ (h11 46 4) = (h 46 4) ∧ (h11 49 4) = (h 49 4) ∧ (h11 49 5) = (h 49 5) ∧ (h11 64 0) = (h 64 0) ∧ (h11 76 0) = (h 76 0); omega)⟩
abbrev P_Reader_readLine_3_k3_1_70 (F : ov_H) (z : ov_Z) (h : ov_H)  : Option ov_V → ov_Z → ov_H → Prop := fun r0 z' h' => ∃ r : Int, r0 = some (ov_i r) ∧ ov_I F z' h' ∧ ((r = 0 ∧ 1 ≤ (h' 3 2) ∨ r = 1) ∧ (h' 36 7) = (h 36 7) ∧ (h' 1 1) = (h 1 1) ∧ (h' 90 2) = (h 90 2) ∧ (h' 0 10) = (h 0 10) ∧ (h' 0 11) = (h 0 11) ∧ (h' 0 12) = (h 0 12) ∧ (h' 0 13) = (h 0 13) ∧ (h' 3 1) = (h 3 1) ∧ (h' 36 8) = (h 36 8) ∧ (h' 46 3) = (h 46 3) ∧ (h' 46 4) = (h 46 4) ∧ (h' 49 4) = (h 49 4) ∧ (h' 49 5) = (h 49 5) ∧ (h' 64 0) = (h 64 0))
set_option maxHeartbeats 4000000 in
theorem c_Reader_readLine_3_k3_1_70 {u : ov_U} {F : ov_H} {z : ov_Z} {h : ov_H} (d : Nat) (hd : 41 ≤ d) (U : ov_cap u) (I : ov_I F z h) (hw : ov_kw 2265555320156712291270666 F) (k0 : h 3 1 = 70) : ov_T u d ov_m57 [ov_r 3] z h (P_Reader_readLine_3_k3_1_70 F z h) := by
  refine ov_en rfl (Nat.le_of_ble_eq_true rfl) ?_
  show ov_R u d ov_m57 0 [(0, ov_r 3)] [] z h (P_Reader_readLine_3_k3_1_70 F z h)
  refine ov_blk (ls2 := [(0, ov_r 3)]) (st2 := [ov_r 3]) (pc2 := 1) b_57_0_1 rfl rfl ?_
  refine ov_getf (v := ov_r 1) d_57_1 fl_Reader_9 (zb_3 I) (zs_3 I) (congrArg ov_r (rg_3_0 I)) ?_
  refine ov_ldc2 (n := 465624852596) d_57_4 kc_Reader_108 ?_
  refine ov_cV (as := [ov_l 465624852596]) (st := []) (d2 := d - 1) d_57_7 lk_Reader_110 rfl (Nat.le_of_ble_eq_true rfl) (c := 8) (zb_1 I) (zs_1 I) ⟨by decide, rfl⟩ (by omega) (c_Tape_isWord_1 (d - 1) (by omega) U I 465624852596) ?_
  rintro _ _ _ ⟨v2, rfl, rfl, rfl, f1⟩
  show ov_R u d ov_m57 10 [(0, ov_r 3)] [ov_i v2] z h (P_Reader_readLine_3_k3_1_70 F z h)
  have f3 : (v2 = 0 ∨ v2 = 1) ∧ (v2 = 1 → (h 1 2) = 2) := f1
  clear f1
  refine ov_ifeq (tgt := 18) d_57_10 (by decide) (by omega) (fun c4 => ?_) (fun c4 => ?_)
  · skip
    refine ov_blk (ls2 := [(0, ov_r 3)]) (st2 := [ov_r 3]) (pc2 := 19) b_57_18_1 rfl rfl ?_
    refine ov_getf (v := ov_r 1) d_57_19 fl_Reader_9 (zb_3 I) (zs_3 I) (congrArg ov_r (rg_3_0 I)) ?_
    refine ov_ldc2 (n := 6447474) d_57_22 kc_Reader_116 ?_
    refine ov_cV (as := [ov_l 6447474]) (st := []) (d2 := d - 1) d_57_25 lk_Reader_110 rfl (Nat.le_of_ble_eq_true rfl) (c := 8) (zb_1 I) (zs_1 I) ⟨by decide, rfl⟩ (by omega) (c_Tape_isWord_1 (d - 1) (by omega) U I 6447474) ?_
    rintro _ _ _ ⟨v6, rfl, rfl, rfl, f5⟩
    show ov_R u d ov_m57 28 [(0, ov_r 3)] [ov_i v6] z h (P_Reader_readLine_3_k3_1_70 F z h)
    have f7 : (v6 = 0 ∨ v6 = 1) ∧ (v6 = 1 → (h 1 2) = 2) := f5
    clear f5
    refine ov_ifeq (tgt := 36) d_57_28 (by decide) (by omega) (fun c8 => ?_) (fun c8 => ?_)
    · skip
      refine ov_blk (ls2 := [(0, ov_r 3)]) (st2 := [ov_r 3]) (pc2 := 37) b_57_36_1 rfl rfl ?_
      refine ov_getf (v := ov_r 1) d_57_37 fl_Reader_9 (zb_3 I) (zs_3 I) (congrArg ov_r (rg_3_0 I)) ?_
      refine ov_ldc2 (n := 1920298085) d_57_40 kc_Reader_121 ?_
      refine ov_cV (as := [ov_l 1920298085]) (st := []) (d2 := d - 1) d_57_43 lk_Reader_110 rfl (Nat.le_of_ble_eq_true rfl) (c := 8) (zb_1 I) (zs_1 I) ⟨by decide, rfl⟩ (by omega) (c_Tape_isWord_1 (d - 1) (by omega) U I 1920298085) ?_
      rintro _ _ _ ⟨v10, rfl, rfl, rfl, f9⟩
      show ov_R u d ov_m57 46 [(0, ov_r 3)] [ov_i v10] z h (P_Reader_readLine_3_k3_1_70 F z h)
      have f11 : (v10 = 0 ∨ v10 = 1) ∧ (v10 = 1 → (h 1 2) = 2) := f9
      clear f9
      refine ov_ifeq (tgt := 54) d_57_46 (by decide) (by omega) (fun c12 => ?_) (fun c12 => ?_)
      · skip
        refine ov_blk (ls2 := [(0, ov_r 3)]) (st2 := [ov_r 3]) (pc2 := 55) b_57_54_1 rfl rfl ?_
        refine ov_getf (v := ov_r 1) d_57_55 fl_Reader_9 (zb_3 I) (zs_3 I) (congrArg ov_r (rg_3_0 I)) ?_
        refine ov_ldc2 (n := 2002873451) d_57_58 kc_Reader_126 ?_
        refine ov_cV (as := [ov_l 2002873451]) (st := []) (d2 := d - 1) d_57_61 lk_Reader_110 rfl (Nat.le_of_ble_eq_true rfl) (c := 8) (zb_1 I) (zs_1 I) ⟨by decide, rfl⟩ (by omega) (c_Tape_isWord_1 (d - 1) (by omega) U I 2002873451) ?_
        rintro _ _ _ ⟨v14, rfl, rfl, rfl, f13⟩
        show ov_R u d ov_m57 64 [(0, ov_r 3)] [ov_i v14] z h (P_Reader_readLine_3_k3_1_70 F z h)
        have f15 : (v14 = 0 ∨ v14 = 1) ∧ (v14 = 1 → (h 1 2) = 2) := f13
        clear f13
        refine ov_ifeq (tgt := 76) d_57_64 (by decide) (by omega) (fun c16 => ?_) (fun c16 => ?_)
        · skip
          refine ov_blk (ls2 := [(0, ov_r 3)]) (st2 := [ov_r 3]) (pc2 := 77) b_57_76_1 rfl rfl ?_
          refine ov_getf (v := ov_r 1) d_57_77 fl_Reader_9 (zb_3 I) (zs_3 I) (congrArg ov_r (rg_3_0 I)) ?_
          refine ov_ldc2 (n := 7501166) d_57_80 kc_Reader_132 ?_
          refine ov_cV (as := [ov_l 7501166]) (st := []) (d2 := d - 1) d_57_83 lk_Reader_110 rfl (Nat.le_of_ble_eq_true rfl) (c := 8) (zb_1 I) (zs_1 I) ⟨by decide, rfl⟩ (by omega) (c_Tape_isWord_1 (d - 1) (by omega) U I 7501166) ?_
          rintro _ _ _ ⟨v18, rfl, rfl, rfl, f17⟩
          show ov_R u d ov_m57 86 [(0, ov_r 3)] [ov_i v18] z h (P_Reader_readLine_3_k3_1_70 F z h)
          have f19 : (v18 = 0 ∨ v18 = 1) ∧ (v18 = 1 → (h 1 2) = 2) := f17
          clear f17
          refine ov_ifeq (tgt := 98) d_57_86 (by decide) (by omega) (fun c20 => ?_) (fun c20 => ?_)
          · skip
            refine ov_blk (ls2 := [(0, ov_r 3)]) (st2 := [ov_r 3]) (pc2 := 99) b_57_98_1 rfl rfl ?_
            refine ov_getf (v := ov_r 1) d_57_99 fl_Reader_9 (zb_3 I) (zs_3 I) (congrArg ov_r (rg_3_0 I)) ?_
            refine ov_ldc2 (n := 1936486263) d_57_102 kc_Reader_134 ?_
            refine ov_cV (as := [ov_l 1936486263]) (st := []) (d2 := d - 1) d_57_105 lk_Reader_110 rfl (Nat.le_of_ble_eq_true rfl) (c := 8) (zb_1 I) (zs_1 I) ⟨by decide, rfl⟩ (by omega) (c_Tape_isWord_1 (d - 1) (by omega) U I 1936486263) ?_
            rintro _ _ _ ⟨v22, rfl, rfl, rfl, f21⟩
            show ov_R u d ov_m57 108 [(0, ov_r 3)] [ov_i v22] z h (P_Reader_readLine_3_k3_1_70 F z h)
            have f23 : (v22 = 0 ∨ v22 = 1) ∧ (v22 = 1 → (h 1 2) = 2) := f21
            clear f21
            refine ov_ifeq (tgt := 120) d_57_108 (by decide) (by omega) (fun c24 => ?_) (fun c24 => ?_)
            · skip
              refine ov_blk (ls2 := [(0, ov_r 3)]) (st2 := [ov_r 3]) (pc2 := 121) b_57_120_1 rfl rfl ?_
              refine ov_getf (v := ov_r 1) d_57_121 fl_Reader_9 (zb_3 I) (zs_3 I) (congrArg ov_r (rg_3_0 I)) ?_
              refine ov_ldc2 (n := 1920298611) d_57_124 kc_Reader_136 ?_
              refine ov_cV (as := [ov_l 1920298611]) (st := []) (d2 := d - 1) d_57_127 lk_Reader_110 rfl (Nat.le_of_ble_eq_true rfl) (c := 8) (zb_1 I) (zs_1 I) ⟨by decide, rfl⟩ (by omega) (c_Tape_isWord_1 (d - 1) (by omega) U I 1920298611) ?_
              rintro _ _ _ ⟨v26, rfl, rfl, rfl, f25⟩
              show ov_R u d ov_m57 130 [(0, ov_r 3)] [ov_i v26] z h (P_Reader_readLine_3_k3_1_70 F z h)
              have f27 : (v26 = 0 ∨ v26 = 1) ∧ (v26 = 1 → (h 1 2) = 2) := f25
              clear f25
              refine ov_ifeq (tgt := 142) d_57_130 (by decide) (by omega) (fun c28 => ?_) (fun c28 => ?_)
              · skip
                refine ov_blk (ls2 := [(0, ov_r 3)]) (st2 := [ov_r 3]) (pc2 := 143) b_57_142_1 rfl rfl ?_
                refine ov_getf (v := ov_r 1) d_57_143 fl_Reader_9 (zb_3 I) (zs_3 I) (congrArg ov_r (rg_3_0 I)) ?_
                refine ov_ldc2 (n := 426953501796) d_57_146 kc_Reader_138 ?_
                refine ov_cV (as := [ov_l 426953501796]) (st := []) (d2 := d - 1) d_57_149 lk_Reader_110 rfl (Nat.le_of_ble_eq_true rfl) (c := 8) (zb_1 I) (zs_1 I) ⟨by decide, rfl⟩ (by omega) (c_Tape_isWord_1 (d - 1) (by omega) U I 426953501796) ?_
                rintro _ _ _ ⟨v30, rfl, rfl, rfl, f29⟩
                show ov_R u d ov_m57 152 [(0, ov_r 3)] [ov_i v30] z h (P_Reader_readLine_3_k3_1_70 F z h)
                have f31 : (v30 = 0 ∨ v30 = 1) ∧ (v30 = 1 → (h 1 2) = 2) := f29
                clear f29
                refine ov_ifeq (tgt := 162) d_57_152 (by decide) (by omega) (fun c32 => ?_) (fun c32 => ?_)
                · skip
                  refine ov_blk (ls2 := [(0, ov_r 3)]) (st2 := [ov_i 1, ov_r 3]) (pc2 := 164) b_57_162_2 rfl rfl ?_
                  refine ov_cV (as := [ov_i 1]) (st := []) (d2 := d - 1) d_57_164 lk_Reader_58 rfl (Nat.le_of_ble_eq_true rfl) (c := 6) (zb_3 I) (zs_3 I) ⟨by decide, rfl⟩ (by omega) (c_Reader_fail_3_k3_1_70 (d - 1) (by omega) U I (ov_kws hw (by decide +kernel)) 1 k0 (by omega) (by omega)) ?_
                  rintro _ z35 h36 ⟨v34, rfl, I37, f33⟩
                  show ov_R u d ov_m57 167 [(0, ov_r 3)] [ov_i v34] z35 h36 (P_Reader_readLine_3_k3_1_70 F z h)
                  have f38 : v34 = 0 ∧ 1 ≤ (h36 3 2) ∧ (h36 36 7) = (h 36 7) ∧ (h36 1 1) = (h 1 1) ∧ (h36 90 2) = (h 90 2) ∧ (h36 0 10) = (h 0 10) ∧ (h36 0 11) = (h 0 11) ∧ (h36 0 12) = (h 0 12) ∧ (h36 0 13) = (h 0 13) ∧ (h36 3 1) = (h 3 1) ∧ (h36 36 8) = (h 36 8) ∧ (h36 46 3) = (h 46 3) ∧ (h36 46 4) = (h 46 4) ∧ (h36 49 4) = (h 49 4) ∧ (h36 49 5) = (h 49 5) ∧ (h36 64 0) = (h 64 0) ∧ (h36 76 0) = (h 76 0) := f33
                  clear f33
                  have e39 : h36 3 1 = 70 := by omega
                  exact ov_retz (st := []) d_57_167 rfl (by omega) ⟨_, rfl, I37, (by show (v34 = 0 ∧ 1 ≤ (h36 3 2) ∨ v34 = 1) ∧ (h36 36 7) = (h 36 7) ∧ (h36 1 1) = (h 1 1) ∧ (h36 90 2) = (h 90 2) ∧ (h36 0 10) = (h 0 10) ∧ (h36 0 11) = (h 0 11) ∧ (h36 0 12) = (h 0 12) ∧ (h36 0 13) = (h 0 13) ∧ (h36 3 1) = (h 3 1) ∧ (h36 36 8) = (h 36 8) ∧ (h36 46 3) = (h 46 3) ∧ (h36 46 4) = (h 46 4) ∧ (h36 49 4) = (h 49 4) ∧ (h36 49 5) = (h 49 5) ∧ (h36 64 0) = (h 64 0); omega)⟩
                · skip
                  refine ov_blk (ls2 := [(0, ov_r 3)]) (st2 := [ov_r 3]) (pc2 := 156) b_57_155_1 rfl rfl ?_
                  refine ov_cV (as := []) (st := []) (d2 := d - 1) d_57_156 lk_Reader_140 rfl (Nat.le_of_ble_eq_true rfl) (c := 6) (zb_3 I) (zs_3 I) ⟨by decide, rfl⟩ (by omega) (c_Reader_readChild_3_k3_1_70 (d - 1) (by omega) U I (ov_kws hw (by decide +kernel)) k0) ?_
                  rintro _ z42 h43 ⟨v41, rfl, I44, f40⟩
                  show ov_R u d ov_m57 159 [(0, ov_r 3)] [ov_i v41] z42 h43 (P_Reader_readLine_3_k3_1_70 F z h)
                  have f45 : (v41 = 0 ∧ 1 ≤ (h43 3 2) ∨ v41 = 1) ∧ (h43 36 7) = (h 36 7) ∧ (h43 1 1) = (h 1 1) ∧ (h43 90 2) = (h 90 2) ∧ (h43 0 10) = (h 0 10) ∧ (h43 0 11) = (h 0 11) ∧ (h43 0 12) = (h 0 12) ∧ (h43 0 13) = (h 0 13) ∧ (h43 3 1) = (h 3 1) ∧ (h43 36 8) = (h 36 8) ∧ (h43 46 3) = (h 46 3) ∧ (h43 46 4) = (h 46 4) ∧ (h43 49 4) = (h 49 4) ∧ (h43 49 5) = (h 49 5) ∧ (h43 64 0) = (h 64 0) ∧ (h43 76 0) = (h 76 0) := f40
                  clear f40
                  have e46 : h43 3 1 = 70 := by omega
                  refine ov_goto (tgt := 167) d_57_159 (by decide) ?_
                  exact ov_retz (st := []) d_57_167 rfl (by omega) ⟨_, rfl, I44, (by show (v41 = 0 ∧ 1 ≤ (h43 3 2) ∨ v41 = 1) ∧ (h43 36 7) = (h 36 7) ∧ (h43 1 1) = (h 1 1) ∧ (h43 90 2) = (h 90 2) ∧ (h43 0 10) = (h 0 10) ∧ (h43 0 11) = (h 0 11) ∧ (h43 0 12) = (h 0 12) ∧ (h43 0 13) = (h 0 13) ∧ (h43 3 1) = (h 3 1) ∧ (h43 36 8) = (h 36 8) ∧ (h43 46 3) = (h 46 3) ∧ (h43 46 4) = (h 46 4) ∧ (h43 49 4) = (h 49 4) ∧ (h43 49 5) = (h 49 5) ∧ (h43 64 0) = (h 64 0); omega)⟩
              · skip
                refine ov_blk (ls2 := [(0, ov_r 3)]) (st2 := [ov_i 9, ov_i 0, ov_i 3, ov_r 3]) (pc2 := 138) b_57_133_4 rfl rfl ?_
                refine ov_cV (as := [ov_i 3, ov_i 0, ov_i 9]) (st := []) (d2 := d - 1) d_57_138 lk_Reader_128 rfl (Nat.le_of_ble_eq_true rfl) (c := 6) (zb_3 I) (zs_3 I) ⟨by decide, rfl⟩ (by omega) (c_Reader_readSetting_3_k3_1_70 (d - 1) (by omega) U I (ov_kws hw (by decide +kernel)) 3 0 9 k0 (by omega) (by omega) (by omega) (by omega) (by omega)) ?_
                rintro _ z49 h50 ⟨v48, rfl, I51, f47⟩
                show ov_R u d ov_m57 141 [(0, ov_r 3)] [ov_i v48] z49 h50 (P_Reader_readLine_3_k3_1_70 F z h)
                have f52 : (v48 = 0 ∧ 1 ≤ (h50 3 2) ∨ v48 = 1) ∧ (h50 36 7) = (h 36 7) ∧ (h50 1 1) = (h 1 1) ∧ (h50 90 2) = (h 90 2) ∧ (h50 0 10) = (h 0 10) ∧ (h50 0 11) = (h 0 11) ∧ (h50 0 12) = (h 0 12) ∧ (h50 0 13) = (h 0 13) ∧ (h50 3 1) = (h 3 1) ∧ (h50 36 8) = (h 36 8) ∧ (h50 46 3) = (h 46 3) ∧ (h50 46 4) = (h 46 4) ∧ (h50 49 4) = (h 49 4) ∧ (h50 49 5) = (h 49 5) ∧ (h50 64 0) = (h 64 0) := f47
                clear f47
                have e53 : h50 3 1 = 70 := by omega
                exact ov_retz (st := []) d_57_141 rfl (by omega) ⟨_, rfl, I51, (by show (v48 = 0 ∧ 1 ≤ (h50 3 2) ∨ v48 = 1) ∧ (h50 36 7) = (h 36 7) ∧ (h50 1 1) = (h 1 1) ∧ (h50 90 2) = (h 90 2) ∧ (h50 0 10) = (h 0 10) ∧ (h50 0 11) = (h 0 11) ∧ (h50 0 12) = (h 0 12) ∧ (h50 0 13) = (h 0 13) ∧ (h50 3 1) = (h 3 1) ∧ (h50 36 8) = (h 36 8) ∧ (h50 46 3) = (h 46 3) ∧ (h50 46 4) = (h 46 4) ∧ (h50 49 4) = (h 49 4) ∧ (h50 49 5) = (h 49 5) ∧ (h50 64 0) = (h 64 0); omega)⟩
            · skip
              refine ov_blk (ls2 := [(0, ov_r 3)]) (st2 := [ov_i 30, ov_i 1, ov_i 2, ov_r 3]) (pc2 := 116) b_57_111_4 rfl rfl ?_
              refine ov_cV (as := [ov_i 2, ov_i 1, ov_i 30]) (st := []) (d2 := d - 1) d_57_116 lk_Reader_128 rfl (Nat.le_of_ble_eq_true rfl) (c := 6) (zb_3 I) (zs_3 I) ⟨by decide, rfl⟩ (by omega) (c_Reader_readSetting_3_k3_1_70 (d - 1) (by omega) U I (ov_kws hw (by decide +kernel)) 2 1 30 k0 (by omega) (by omega) (by omega) (by omega) (by omega)) ?_
              rintro _ z56 h57 ⟨v55, rfl, I58, f54⟩
              show ov_R u d ov_m57 119 [(0, ov_r 3)] [ov_i v55] z56 h57 (P_Reader_readLine_3_k3_1_70 F z h)
              have f59 : (v55 = 0 ∧ 1 ≤ (h57 3 2) ∨ v55 = 1) ∧ (h57 36 7) = (h 36 7) ∧ (h57 1 1) = (h 1 1) ∧ (h57 90 2) = (h 90 2) ∧ (h57 0 10) = (h 0 10) ∧ (h57 0 11) = (h 0 11) ∧ (h57 0 12) = (h 0 12) ∧ (h57 0 13) = (h 0 13) ∧ (h57 3 1) = (h 3 1) ∧ (h57 36 8) = (h 36 8) ∧ (h57 46 3) = (h 46 3) ∧ (h57 46 4) = (h 46 4) ∧ (h57 49 4) = (h 49 4) ∧ (h57 49 5) = (h 49 5) ∧ (h57 64 0) = (h 64 0) := f54
              clear f54
              have e60 : h57 3 1 = 70 := by omega
              exact ov_retz (st := []) d_57_119 rfl (by omega) ⟨_, rfl, I58, (by show (v55 = 0 ∧ 1 ≤ (h57 3 2) ∨ v55 = 1) ∧ (h57 36 7) = (h 36 7) ∧ (h57 1 1) = (h 1 1) ∧ (h57 90 2) = (h 90 2) ∧ (h57 0 10) = (h 0 10) ∧ (h57 0 11) = (h 0 11) ∧ (h57 0 12) = (h 0 12) ∧ (h57 0 13) = (h 0 13) ∧ (h57 3 1) = (h 3 1) ∧ (h57 36 8) = (h 36 8) ∧ (h57 46 3) = (h 46 3) ∧ (h57 46 4) = (h 46 4) ∧ (h57 49 4) = (h 49 4) ∧ (h57 49 5) = (h 49 5) ∧ (h57 64 0) = (h 64 0); omega)⟩
          · skip
            refine ov_blk (ls2 := [(0, ov_r 3)]) (st2 := [ov_i 30, ov_i 1, ov_i 1, ov_r 3]) (pc2 := 94) b_57_89_4 rfl rfl ?_
            refine ov_cV (as := [ov_i 1, ov_i 1, ov_i 30]) (st := []) (d2 := d - 1) d_57_94 lk_Reader_128 rfl (Nat.le_of_ble_eq_true rfl) (c := 6) (zb_3 I) (zs_3 I) ⟨by decide, rfl⟩ (by omega) (c_Reader_readSetting_3_k3_1_70 (d - 1) (by omega) U I (ov_kws hw (by decide +kernel)) 1 1 30 k0 (by omega) (by omega) (by omega) (by omega) (by omega)) ?_
            rintro _ z63 h64 ⟨v62, rfl, I65, f61⟩
            show ov_R u d ov_m57 97 [(0, ov_r 3)] [ov_i v62] z63 h64 (P_Reader_readLine_3_k3_1_70 F z h)
            have f66 : (v62 = 0 ∧ 1 ≤ (h64 3 2) ∨ v62 = 1) ∧ (h64 36 7) = (h 36 7) ∧ (h64 1 1) = (h 1 1) ∧ (h64 90 2) = (h 90 2) ∧ (h64 0 10) = (h 0 10) ∧ (h64 0 11) = (h 0 11) ∧ (h64 0 12) = (h 0 12) ∧ (h64 0 13) = (h 0 13) ∧ (h64 3 1) = (h 3 1) ∧ (h64 36 8) = (h 36 8) ∧ (h64 46 3) = (h 46 3) ∧ (h64 46 4) = (h 46 4) ∧ (h64 49 4) = (h 49 4) ∧ (h64 49 5) = (h 49 5) ∧ (h64 64 0) = (h 64 0) := f61
            clear f61
            have e67 : h64 3 1 = 70 := by omega
            exact ov_retz (st := []) d_57_97 rfl (by omega) ⟨_, rfl, I65, (by show (v62 = 0 ∧ 1 ≤ (h64 3 2) ∨ v62 = 1) ∧ (h64 36 7) = (h 36 7) ∧ (h64 1 1) = (h 1 1) ∧ (h64 90 2) = (h 90 2) ∧ (h64 0 10) = (h 0 10) ∧ (h64 0 11) = (h 0 11) ∧ (h64 0 12) = (h 0 12) ∧ (h64 0 13) = (h 0 13) ∧ (h64 3 1) = (h 3 1) ∧ (h64 36 8) = (h 36 8) ∧ (h64 46 3) = (h 46 3) ∧ (h64 46 4) = (h 46 4) ∧ (h64 49 4) = (h 49 4) ∧ (h64 49 5) = (h 49 5) ∧ (h64 64 0) = (h 64 0); omega)⟩
        · skip
          refine ov_blk (ls2 := [(0, ov_r 3)]) (st2 := [ov_i 30, ov_i 1, ov_i 0, ov_r 3]) (pc2 := 72) b_57_67_4 rfl rfl ?_
          refine ov_cV (as := [ov_i 0, ov_i 1, ov_i 30]) (st := []) (d2 := d - 1) d_57_72 lk_Reader_128 rfl (Nat.le_of_ble_eq_true rfl) (c := 6) (zb_3 I) (zs_3 I) ⟨by decide, rfl⟩ (by omega) (c_Reader_readSetting_3_k3_1_70 (d - 1) (by omega) U I (ov_kws hw (by decide +kernel)) 0 1 30 k0 (by omega) (by omega) (by omega) (by omega) (by omega)) ?_
          rintro _ z70 h71 ⟨v69, rfl, I72, f68⟩
          show ov_R u d ov_m57 75 [(0, ov_r 3)] [ov_i v69] z70 h71 (P_Reader_readLine_3_k3_1_70 F z h)
          have f73 : (v69 = 0 ∧ 1 ≤ (h71 3 2) ∨ v69 = 1) ∧ (h71 36 7) = (h 36 7) ∧ (h71 1 1) = (h 1 1) ∧ (h71 90 2) = (h 90 2) ∧ (h71 0 10) = (h 0 10) ∧ (h71 0 11) = (h 0 11) ∧ (h71 0 12) = (h 0 12) ∧ (h71 0 13) = (h 0 13) ∧ (h71 3 1) = (h 3 1) ∧ (h71 36 8) = (h 36 8) ∧ (h71 46 3) = (h 46 3) ∧ (h71 46 4) = (h 46 4) ∧ (h71 49 4) = (h 49 4) ∧ (h71 49 5) = (h 49 5) ∧ (h71 64 0) = (h 64 0) := f68
          clear f68
          have e74 : h71 3 1 = 70 := by omega
          exact ov_retz (st := []) d_57_75 rfl (by omega) ⟨_, rfl, I72, (by show (v69 = 0 ∧ 1 ≤ (h71 3 2) ∨ v69 = 1) ∧ (h71 36 7) = (h 36 7) ∧ (h71 1 1) = (h 1 1) ∧ (h71 90 2) = (h 90 2) ∧ (h71 0 10) = (h 0 10) ∧ (h71 0 11) = (h 0 11) ∧ (h71 0 12) = (h 0 12) ∧ (h71 0 13) = (h 0 13) ∧ (h71 3 1) = (h 3 1) ∧ (h71 36 8) = (h 36 8) ∧ (h71 46 3) = (h 46 3) ∧ (h71 46 4) = (h 46 4) ∧ (h71 49 4) = (h 49 4) ∧ (h71 49 5) = (h 49 5) ∧ (h71 64 0) = (h 64 0); omega)⟩
      · skip
        refine ov_blk (ls2 := [(0, ov_r 3)]) (st2 := [ov_r 3]) (pc2 := 50) b_57_49_1 rfl rfl ?_
        refine ov_cV (as := []) (st := []) (d2 := d - 1) d_57_50 lk_Reader_123 rfl (Nat.le_of_ble_eq_true rfl) (c := 6) (zb_3 I) (zs_3 I) ⟨by decide, rfl⟩ (by omega) (c_Reader_readRule_3_k3_1_70 (d - 1) (by omega) U I (ov_kws hw (by decide +kernel)) k0) ?_
        rintro _ z77 h78 ⟨v76, rfl, I79, f75⟩
        show ov_R u d ov_m57 53 [(0, ov_r 3)] [ov_i v76] z77 h78 (P_Reader_readLine_3_k3_1_70 F z h)
        have f80 : (v76 = 0 ∧ 1 ≤ (h78 3 2) ∨ v76 = 1) ∧ (h78 36 7) = (h 36 7) ∧ (h78 1 1) = (h 1 1) ∧ (h78 90 2) = (h 90 2) ∧ (h78 0 10) = (h 0 10) ∧ (h78 0 11) = (h 0 11) ∧ (h78 0 12) = (h 0 12) ∧ (h78 0 13) = (h 0 13) ∧ (h78 3 1) = (h 3 1) ∧ (h78 36 8) = (h 36 8) ∧ (h78 46 3) = (h 46 3) ∧ (h78 46 4) = (h 46 4) ∧ (h78 49 4) = (h 49 4) ∧ (h78 49 5) = (h 49 5) ∧ (h78 64 0) = (h 64 0) ∧ (h78 76 0) = (h 76 0) := f75
        clear f75
        have e81 : h78 3 1 = 70 := by omega
        exact ov_retz (st := []) d_57_53 rfl (by omega) ⟨_, rfl, I79, (by show (v76 = 0 ∧ 1 ≤ (h78 3 2) ∨ v76 = 1) ∧ (h78 36 7) = (h 36 7) ∧ (h78 1 1) = (h 1 1) ∧ (h78 90 2) = (h 90 2) ∧ (h78 0 10) = (h 0 10) ∧ (h78 0 11) = (h 0 11) ∧ (h78 0 12) = (h 0 12) ∧ (h78 0 13) = (h 0 13) ∧ (h78 3 1) = (h 3 1) ∧ (h78 36 8) = (h 36 8) ∧ (h78 46 3) = (h 46 3) ∧ (h78 46 4) = (h 46 4) ∧ (h78 49 4) = (h 49 4) ∧ (h78 49 5) = (h 49 5) ∧ (h78 64 0) = (h 64 0); omega)⟩
    · skip
      refine ov_blk (ls2 := [(0, ov_r 3)]) (st2 := [ov_r 3]) (pc2 := 32) b_57_31_1 rfl rfl ?_
      refine ov_cV (as := []) (st := []) (d2 := d - 1) d_57_32 lk_Reader_118 rfl (Nat.le_of_ble_eq_true rfl) (c := 6) (zb_3 I) (zs_3 I) ⟨by decide, rfl⟩ (by omega) (c_Reader_readBar_3_k3_1_70 (d - 1) (by omega) U I (ov_kws hw (by decide +kernel)) k0) ?_
      rintro _ z84 h85 ⟨v83, rfl, I86, f82⟩
      show ov_R u d ov_m57 35 [(0, ov_r 3)] [ov_i v83] z84 h85 (P_Reader_readLine_3_k3_1_70 F z h)
      have f87 : (v83 = 0 ∧ 1 ≤ (h85 3 2) ∨ v83 = 1) ∧ (h85 36 7) = (h 36 7) ∧ (h85 1 1) = (h 1 1) ∧ (h85 90 2) = (h 90 2) ∧ (h85 0 10) = (h 0 10) ∧ (h85 0 11) = (h 0 11) ∧ (h85 0 12) = (h 0 12) ∧ (h85 0 13) = (h 0 13) ∧ (h85 3 1) = (h 3 1) ∧ (h85 36 8) = (h 36 8) ∧ (h85 46 3) = (h 46 3) ∧ (h85 46 4) = (h 46 4) ∧ (h85 49 4) = (h 49 4) ∧ (h85 49 5) = (h 49 5) ∧ (h85 64 0) = (h 64 0) ∧ (h85 76 0) = (h 76 0) := f82
      clear f82
      have e88 : h85 3 1 = 70 := by omega
      exact ov_retz (st := []) d_57_35 rfl (by omega) ⟨_, rfl, I86, (by show (v83 = 0 ∧ 1 ≤ (h85 3 2) ∨ v83 = 1) ∧ (h85 36 7) = (h 36 7) ∧ (h85 1 1) = (h 1 1) ∧ (h85 90 2) = (h 90 2) ∧ (h85 0 10) = (h 0 10) ∧ (h85 0 11) = (h 0 11) ∧ (h85 0 12) = (h 0 12) ∧ (h85 0 13) = (h 0 13) ∧ (h85 3 1) = (h 3 1) ∧ (h85 36 8) = (h 36 8) ∧ (h85 46 3) = (h 46 3) ∧ (h85 46 4) = (h 46 4) ∧ (h85 49 4) = (h 49 4) ∧ (h85 49 5) = (h 49 5) ∧ (h85 64 0) = (h 64 0); omega)⟩
  · skip
    refine ov_blk (ls2 := [(0, ov_r 3)]) (st2 := [ov_r 3]) (pc2 := 14) b_57_13_1 rfl rfl ?_
    refine ov_cV (as := []) (st := []) (d2 := d - 1) d_57_14 lk_Reader_113 rfl (Nat.le_of_ble_eq_true rfl) (c := 6) (zb_3 I) (zs_3 I) ⟨by decide, rfl⟩ (by omega) (c_Reader_readLight_3_k3_1_70 (d - 1) (by omega) U I (ov_kws hw (by decide +kernel)) k0) ?_
    rintro _ z91 h92 ⟨v90, rfl, I93, f89⟩
    show ov_R u d ov_m57 17 [(0, ov_r 3)] [ov_i v90] z91 h92 (P_Reader_readLine_3_k3_1_70 F z h)
    have f94 : (v90 = 0 ∧ 1 ≤ (h92 3 2) ∨ v90 = 1) ∧ (h92 36 7) = (h 36 7) ∧ (h92 1 1) = (h 1 1) ∧ (h92 90 2) = (h 90 2) ∧ (h92 0 10) = (h 0 10) ∧ (h92 0 11) = (h 0 11) ∧ (h92 0 12) = (h 0 12) ∧ (h92 0 13) = (h 0 13) ∧ (h92 3 1) = (h 3 1) ∧ (h92 36 8) = (h 36 8) ∧ (h92 46 3) = (h 46 3) ∧ (h92 46 4) = (h 46 4) ∧ (h92 49 4) = (h 49 4) ∧ (h92 49 5) = (h 49 5) ∧ (h92 64 0) = (h 64 0) ∧ (h92 76 0) = (h 76 0) := f89
    clear f89
    have e95 : h92 3 1 = 70 := by omega
    exact ov_retz (st := []) d_57_17 rfl (by omega) ⟨_, rfl, I93, (by show (v90 = 0 ∧ 1 ≤ (h92 3 2) ∨ v90 = 1) ∧ (h92 36 7) = (h 36 7) ∧ (h92 1 1) = (h 1 1) ∧ (h92 90 2) = (h 90 2) ∧ (h92 0 10) = (h 0 10) ∧ (h92 0 11) = (h 0 11) ∧ (h92 0 12) = (h 0 12) ∧ (h92 0 13) = (h 0 13) ∧ (h92 3 1) = (h 3 1) ∧ (h92 36 8) = (h 36 8) ∧ (h92 46 3) = (h 46 3) ∧ (h92 46 4) = (h 46 4) ∧ (h92 49 4) = (h 49 4) ∧ (h92 49 5) = (h 49 5) ∧ (h92 64 0) = (h 64 0); omega)⟩
abbrev P_Reader_readSize_3_k3_1_70 (F : ov_H) (z : ov_Z) (h : ov_H)  : Option ov_V → ov_Z → ov_H → Prop := fun r0 z' h' => ∃ r : Int, r0 = some (ov_i r) ∧ ov_I F z' h' ∧ ((r = 0 ∧ 1 ≤ (h' 3 2) ∨ r = 1) ∧ (h' 36 7) = (h 36 7) ∧ (h' 1 1) = (h 1 1) ∧ (h' 90 2) = (h 90 2) ∧ (h' 0 10) = (h 0 10) ∧ (h' 0 11) = (h 0 11) ∧ (h' 0 12) = (h 0 12) ∧ (h' 0 13) = (h 0 13) ∧ (h' 3 1) = (h 3 1) ∧ (h' 36 8) = (h 36 8) ∧ (h' 46 3) = (h 46 3) ∧ (h' 46 4) = (h 46 4) ∧ (h' 49 4) = (h 49 4) ∧ (h' 49 5) = (h 49 5) ∧ (h' 64 0) = (h 64 0) ∧ (h' 76 0) = (h 76 0))
set_option maxHeartbeats 4000000 in
theorem c_Reader_readSize_3_k3_1_70 {u : ov_U} {F : ov_H} {z : ov_Z} {h : ov_H} (d : Nat) (hd : 6 ≤ d) (U : ov_cap u) (I : ov_I F z h) (hw : ov_kw 1180591620717411303434 F) (k0 : h 3 1 = 70) : ov_T u d ov_m49 [ov_r 3] z h (P_Reader_readSize_3_k3_1_70 F z h) := by
  refine ov_en rfl (Nat.le_of_ble_eq_true rfl) ?_
  show ov_R u d ov_m49 0 [(0, ov_r 3)] [] z h (P_Reader_readSize_3_k3_1_70 F z h)
  refine ov_blk (ls2 := [(0, ov_r 3)]) (st2 := [ov_r 3]) (pc2 := 1) b_49_0_1 rfl rfl ?_
  refine ov_ldc2 (n := 1953462126) d_49_1 kc_Reader_96 ?_
  refine ov_cV (as := [ov_l 1953462126]) (st := []) (d2 := d - 1) d_49_4 lk_Reader_98 rfl (Nat.le_of_ble_eq_true rfl) (c := 6) (zb_3 I) (zs_3 I) ⟨by decide, rfl⟩ (by omega) (c_Reader_takeWord_3_k3_1_70 (d - 1) (by omega) U I (ov_kws hw (by decide +kernel)) 1953462126 k0) ?_
  rintro _ z3 h4 ⟨v2, rfl, I5, f1⟩
  show ov_R u d ov_m49 7 [(0, ov_r 3)] [ov_i v2] z3 h4 (P_Reader_readSize_3_k3_1_70 F z h)
  have f6 : (v2 = 0 ∧ 1 ≤ (h4 3 2) ∨ v2 = 1) ∧ (h4 36 7) = (h 36 7) ∧ (h4 1 1) = (h 1 1) ∧ (h4 90 2) = (h 90 2) ∧ (h4 0 10) = (h 0 10) ∧ (h4 0 11) = (h 0 11) ∧ (h4 0 12) = (h 0 12) ∧ (h4 0 13) = (h 0 13) ∧ (h4 3 1) = (h 3 1) ∧ (h4 36 8) = (h 36 8) ∧ (h4 46 3) = (h 46 3) ∧ (h4 46 4) = (h 46 4) ∧ (h4 49 4) = (h 49 4) ∧ (h4 49 5) = (h 49 5) ∧ (h4 64 0) = (h 64 0) ∧ (h4 76 0) = (h 76 0) := f1
  clear f1
  have e7 : h4 3 1 = 70 := by omega
  refine ov_ifeq (tgt := 20) d_49_7 (by decide) (by omega) (fun c8 => ?_) (fun c8 => ?_)
  · skip
    refine ov_blk (ls2 := [(0, ov_r 3)]) (st2 := [ov_i 0]) (pc2 := 21) b_49_20_1 rfl rfl ?_
    exact ov_retz (st := []) d_49_21 rfl (by omega) ⟨_, rfl, I5, (by show (0 = 0 ∧ 1 ≤ (h4 3 2) ∨ 0 = 1) ∧ (h4 36 7) = (h 36 7) ∧ (h4 1 1) = (h 1 1) ∧ (h4 90 2) = (h 90 2) ∧ (h4 0 10) = (h 0 10) ∧ (h4 0 11) = (h 0 11) ∧ (h4 0 12) = (h 0 12) ∧ (h4 0 13) = (h 0 13) ∧ (h4 3 1) = (h 3 1) ∧ (h4 36 8) = (h 36 8) ∧ (h4 46 3) = (h 46 3) ∧ (h4 46 4) = (h 46 4) ∧ (h4 49 4) = (h 49 4) ∧ (h4 49 5) = (h 49 5) ∧ (h4 64 0) = (h 64 0) ∧ (h4 76 0) = (h 76 0); omega)⟩
  · skip
    refine ov_blk (ls2 := [(0, ov_r 3)]) (st2 := [ov_i 6, ov_i 1, ov_r 3]) (pc2 := 14) b_49_10_3 rfl rfl ?_
    refine ov_cV (as := [ov_i 1, ov_i 6]) (st := []) (d2 := d - 1) d_49_14 lk_Reader_78 rfl (Nat.le_of_ble_eq_true rfl) (c := 6) (zb_3 I5) (zs_3 I5) ⟨by decide, rfl⟩ (by omega) (c_Reader_takeNumber_3_k3_1_70 (d - 1) (by omega) U I5 (ov_kws hw (by decide +kernel)) 1 6 e7 (by omega) (by omega)) ?_
    rintro _ z11 h12 ⟨v10, rfl, I13, f9⟩
    show ov_R u d ov_m49 17 [(0, ov_r 3)] [ov_i v10] z11 h12 (P_Reader_readSize_3_k3_1_70 F z h)
    have f14 : (v10 = 0 ∧ 1 ≤ (h12 3 2) ∨ v10 = 1 ∧ (1 : Int) ≤ (h12 3 3) ∧ (h12 3 3) ≤ (6 : Int)) ∧ (h12 36 7) = (h4 36 7) ∧ (h12 1 1) = (h4 1 1) ∧ (h12 90 2) = (h4 90 2) ∧ (h12 0 10) = (h4 0 10) ∧ (h12 0 11) = (h4 0 11) ∧ (h12 0 12) = (h4 0 12) ∧ (h12 0 13) = (h4 0 13) ∧ (h12 3 1) = (h4 3 1) ∧ (h12 36 8) = (h4 36 8) ∧ (h12 46 3) = (h4 46 3) ∧ (h12 46 4) = (h4 46 4) ∧ (h12 49 4) = (h4 49 4) ∧ (h12 49 5) = (h4 49 5) ∧ (h12 64 0) = (h4 64 0) ∧ (h12 76 0) = (h4 76 0) := f9
    clear f9
    have e15 : h12 3 1 = 70 := by omega
    refine ov_ifne (tgt := 22) d_49_17 (by decide) (by omega) (fun c16 => ?_) (fun c16 => ?_)
    · skip
      refine ov_blk (ls2 := [(0, ov_r 3)]) (st2 := [ov_r 3]) (pc2 := 23) b_49_22_1 rfl rfl ?_
      refine ov_getf (v := ov_r 70) d_49_23 fl_Reader_15 (zb_3 I13) (zs_3 I13) (congrArg ov_r e15) ?_
      refine ov_blk (ls2 := [(0, ov_r 3)]) (st2 := [ov_r 3, ov_r 70]) (pc2 := 27) b_49_26_1 rfl rfl ?_
      refine ov_getf (v := ov_i (h12 3 3)) d_49_27 fl_Reader_81 (zb_3 I13) (zs_3 I13) rfl ?_
      have g17 := rg_3_3 I13
      refine ov_putf (x := (h12 3 3)) d_49_30 fl_Reader_102 (zb_70 I13) (zs_70 I13) rfl nk_0 rfl ?_
      have I18 := up_70_0 (x := (h12 3 3)) I13 (by omega) (hw 70 (by decide +kernel))
      refine ov_blk (ls2 := [(0, ov_r 3)]) (st2 := [ov_i 9, ov_i 1, ov_r 3]) (pc2 := 37) b_49_33_3 rfl rfl ?_
      refine ov_cV (as := [ov_i 1, ov_i 9]) (st := []) (d2 := d - 1) d_49_37 lk_Reader_78 rfl (Nat.le_of_ble_eq_true rfl) (c := 6) (zb_3 I18) (zs_3 I18) ⟨by decide, rfl⟩ (by omega) (c_Reader_takeNumber_3_k3_1_70 (d - 1) (by omega) U I18 (ov_kws hw (by decide +kernel)) 1 9 e15 (by omega) (by omega)) ?_
      rintro _ z21 h22 ⟨v20, rfl, I23, f19⟩
      show ov_R u d ov_m49 40 [(0, ov_r 3)] [ov_i v20] z21 h22 (P_Reader_readSize_3_k3_1_70 F z h)
      have f24 : (v20 = 0 ∧ 1 ≤ (h22 3 2) ∨ v20 = 1 ∧ (1 : Int) ≤ (h22 3 3) ∧ (h22 3 3) ≤ (9 : Int)) ∧ (h22 36 7) = (h12 36 7) ∧ (h22 1 1) = (h12 1 1) ∧ (h22 90 2) = (h12 90 2) ∧ (h22 0 10) = (h12 0 10) ∧ (h22 0 11) = (h12 0 11) ∧ (h22 0 12) = (h12 0 12) ∧ (h22 0 13) = (h12 0 13) ∧ (h22 3 1) = (h12 3 1) ∧ (h22 36 8) = (h12 36 8) ∧ (h22 46 3) = (h12 46 3) ∧ (h22 46 4) = (h12 46 4) ∧ (h22 49 4) = (h12 49 4) ∧ (h22 49 5) = (h12 49 5) ∧ (h22 64 0) = (h12 64 0) ∧ (h22 76 0) = (h12 76 0) := f19
      clear f19
      have e25 : h22 3 1 = 70 := by omega
      refine ov_ifne (tgt := 45) d_49_40 (by decide) (by omega) (fun c26 => ?_) (fun c26 => ?_)
      · skip
        refine ov_blk (ls2 := [(0, ov_r 3)]) (st2 := [ov_r 3]) (pc2 := 46) b_49_45_1 rfl rfl ?_
        refine ov_getf (v := ov_r 70) d_49_46 fl_Reader_15 (zb_3 I23) (zs_3 I23) (congrArg ov_r e25) ?_
        refine ov_blk (ls2 := [(0, ov_r 3)]) (st2 := [ov_r 3, ov_r 70]) (pc2 := 50) b_49_49_1 rfl rfl ?_
        refine ov_getf (v := ov_i (h22 3 3)) d_49_50 fl_Reader_81 (zb_3 I23) (zs_3 I23) rfl ?_
        have g27 := rg_3_3 I23
        refine ov_putf (x := (h22 3 3)) d_49_53 fl_Reader_105 (zb_70 I23) (zs_70 I23) rfl nk_0 rfl ?_
        have I28 := up_70_1 (x := (h22 3 3)) I23 (by omega) (hw 70 (by decide +kernel))
        refine ov_blk (ls2 := [(0, ov_r 3)]) (st2 := [ov_i 59, ov_r 3]) (pc2 := 59) b_49_56_2 rfl rfl ?_
        refine ov_cV (as := [ov_i 59]) (st := []) (d2 := d - 1) d_49_59 lk_Reader_92 rfl (Nat.le_of_ble_eq_true rfl) (c := 6) (zb_3 I28) (zs_3 I28) ⟨by decide, rfl⟩ (by omega) (c_Reader_takeSign_3_k3_1_70 (d - 1) (by omega) U I28 (ov_kws hw (by decide +kernel)) 59 e25 (by omega)) ?_
        rintro _ z31 h32 ⟨v30, rfl, I33, f29⟩
        show ov_R u d ov_m49 62 [(0, ov_r 3)] [ov_i v30] z31 h32 (P_Reader_readSize_3_k3_1_70 F z h)
        have f34 : (v30 = 0 ∧ 1 ≤ (h32 3 2) ∨ v30 = 1) ∧ (h32 36 7) = (h22 36 7) ∧ (h32 1 1) = (h22 1 1) ∧ (h32 90 2) = (h22 90 2) ∧ (h32 0 10) = (h22 0 10) ∧ (h32 0 11) = (h22 0 11) ∧ (h32 0 12) = (h22 0 12) ∧ (h32 0 13) = (h22 0 13) ∧ (h32 3 1) = (h22 3 1) ∧ (h32 36 8) = (h22 36 8) ∧ (h32 46 3) = (h22 46 3) ∧ (h32 46 4) = (h22 46 4) ∧ (h32 49 4) = (h22 49 4) ∧ (h32 49 5) = (h22 49 5) ∧ (h32 64 0) = (h22 64 0) ∧ (h32 76 0) = (h22 76 0) := f29
        clear f29
        have e35 : h32 3 1 = 70 := by omega
        exact ov_retz (st := []) d_49_62 rfl (by omega) ⟨_, rfl, I33, (by show (v30 = 0 ∧ 1 ≤ (h32 3 2) ∨ v30 = 1) ∧ (h32 36 7) = (h 36 7) ∧ (h32 1 1) = (h 1 1) ∧ (h32 90 2) = (h 90 2) ∧ (h32 0 10) = (h 0 10) ∧ (h32 0 11) = (h 0 11) ∧ (h32 0 12) = (h 0 12) ∧ (h32 0 13) = (h 0 13) ∧ (h32 3 1) = (h 3 1) ∧ (h32 36 8) = (h 36 8) ∧ (h32 46 3) = (h 46 3) ∧ (h32 46 4) = (h 46 4) ∧ (h32 49 4) = (h 49 4) ∧ (h32 49 5) = (h 49 5) ∧ (h32 64 0) = (h 64 0) ∧ (h32 76 0) = (h 76 0); omega)⟩
      · skip
        refine ov_blk (ls2 := [(0, ov_r 3)]) (st2 := [ov_i 0]) (pc2 := 44) b_49_43_1 rfl rfl ?_
        exact ov_retz (st := []) d_49_44 rfl (by omega) ⟨_, rfl, I23, (by show (0 = 0 ∧ 1 ≤ (h22 3 2) ∨ 0 = 1) ∧ (h22 36 7) = (h 36 7) ∧ (h22 1 1) = (h 1 1) ∧ (h22 90 2) = (h 90 2) ∧ (h22 0 10) = (h 0 10) ∧ (h22 0 11) = (h 0 11) ∧ (h22 0 12) = (h 0 12) ∧ (h22 0 13) = (h 0 13) ∧ (h22 3 1) = (h 3 1) ∧ (h22 36 8) = (h 36 8) ∧ (h22 46 3) = (h 46 3) ∧ (h22 46 4) = (h 46 4) ∧ (h22 49 4) = (h 49 4) ∧ (h22 49 5) = (h 49 5) ∧ (h22 64 0) = (h 64 0) ∧ (h22 76 0) = (h 76 0); omega)⟩
    · skip
      refine ov_blk (ls2 := [(0, ov_r 3)]) (st2 := [ov_i 0]) (pc2 := 21) b_49_20_1 rfl rfl ?_
      exact ov_retz (st := []) d_49_21 rfl (by omega) ⟨_, rfl, I13, (by show (0 = 0 ∧ 1 ≤ (h12 3 2) ∨ 0 = 1) ∧ (h12 36 7) = (h 36 7) ∧ (h12 1 1) = (h 1 1) ∧ (h12 90 2) = (h 90 2) ∧ (h12 0 10) = (h 0 10) ∧ (h12 0 11) = (h 0 11) ∧ (h12 0 12) = (h 0 12) ∧ (h12 0 13) = (h 0 13) ∧ (h12 3 1) = (h 3 1) ∧ (h12 36 8) = (h 36 8) ∧ (h12 46 3) = (h 46 3) ∧ (h12 46 4) = (h 46 4) ∧ (h12 49 4) = (h 49 4) ∧ (h12 49 5) = (h 49 5) ∧ (h12 64 0) = (h 64 0) ∧ (h12 76 0) = (h 76 0); omega)⟩

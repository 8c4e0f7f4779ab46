theorem b_244_0_3 : ov_ds ov_m244.2.1 0 [.aload_n 0, .iload_n 1, .iload_n 2] = true := by decide +kernel
theorem d_244_3 : decode ov_m244.2.1 3 = .ok (.invokevirtual 282, 3) := by decide +kernel
theorem b_244_6_1 : ov_ds ov_m244.2.1 6 [.iconst 1] = true := by decide +kernel
theorem d_244_7 : decode ov_m244.2.1 7 = .ok (.if_icmp .ne 24, 3) := by decide +kernel
theorem b_244_31_1 : ov_ds ov_m244.2.1 31 [.iconst 0] = true := by decide +kernel
theorem d_244_32 : decode ov_m244.2.1 32 = .ok (.ireturn, 1) := by decide +kernel
theorem b_244_10_1 : ov_ds ov_m244.2.1 10 [.aload_n 0] = true := by decide +kernel
theorem d_244_11 : decode ov_m244.2.1 11 = .ok (.getfield 102, 3) := by decide +kernel
theorem b_244_14_7 : ov_ds ov_m244.2.1 14 [.iconst 4, .bipush 6, .iload_n 2, .imul, .iadd, .iload_n 1, .iadd] = true := by decide +kernel
theorem d_244_22 : decode ov_m244.2.1 22 = .ok (.iaload, 1) := by decide +kernel
theorem b_244_23_1 : ov_ds ov_m244.2.1 23 [.iconst 1] = true := by decide +kernel
theorem d_244_24 : decode ov_m244.2.1 24 = .ok (.if_icmp .ne 7, 3) := by decide +kernel
theorem b_244_27_1 : ov_ds ov_m244.2.1 27 [.iconst 1] = true := by decide +kernel
theorem d_244_28 : decode ov_m244.2.1 28 = .ok (.goto 4, 3) := by decide +kernel
theorem b_256_0_1 : ov_ds ov_m256.2.1 0 [.aload_n 0] = true := by decide +kernel
theorem d_256_1 : decode ov_m256.2.1 1 = .ok (.getfield 81, 3) := by decide +kernel
theorem b_256_4_1 : ov_ds ov_m256.2.1 4 [.iconst 3] = true := by decide +kernel
theorem d_256_5 : decode ov_m256.2.1 5 = .ok (.iaload, 1) := by decide +kernel
theorem d_256_6 : decode ov_m256.2.1 6 = .ok (.ifCond .ge 12, 3) := by decide +kernel
theorem b_256_18_1 : ov_ds ov_m256.2.1 18 [.aload_n 0] = true := by decide +kernel
theorem d_256_19 : decode ov_m256.2.1 19 = .ok (.getfield 81, 3) := by decide +kernel
theorem b_256_22_1 : ov_ds ov_m256.2.1 22 [.iconst 3] = true := by decide +kernel
theorem d_256_23 : decode ov_m256.2.1 23 = .ok (.iaload, 1) := by decide +kernel
theorem d_256_24 : decode ov_m256.2.1 24 = .ok (.ireturn, 1) := by decide +kernel
theorem b_256_9_1 : ov_ds ov_m256.2.1 9 [.aload_n 0] = true := by decide +kernel
theorem d_256_10 : decode ov_m256.2.1 10 = .ok (.getfield 81, 3) := by decide +kernel
theorem b_256_13_1 : ov_ds ov_m256.2.1 13 [.iconst 2] = true := by decide +kernel
theorem d_256_14 : decode ov_m256.2.1 14 = .ok (.iaload, 1) := by decide +kernel
theorem d_256_15 : decode ov_m256.2.1 15 = .ok (.goto 9, 3) := by decide +kernel
theorem b_291_0_1 : ov_ds ov_m291.2.1 0 [.aload_n 0] = true := by decide +kernel
theorem d_291_1 : decode ov_m291.2.1 1 = .ok (.getfield 81, 3) := by decide +kernel
theorem b_291_4_1 : ov_ds ov_m291.2.1 4 [.iconst 4] = true := by decide +kernel
theorem d_291_5 : decode ov_m291.2.1 5 = .ok (.iaload, 1) := by decide +kernel
theorem d_291_6 : decode ov_m291.2.1 6 = .ok (.ifCond .ge 12, 3) := by decide +kernel
theorem b_291_18_1 : ov_ds ov_m291.2.1 18 [.aload_n 0] = true := by decide +kernel
theorem d_291_19 : decode ov_m291.2.1 19 = .ok (.getfield 81, 3) := by decide +kernel
theorem b_291_22_1 : ov_ds ov_m291.2.1 22 [.iconst 4] = true := by decide +kernel
theorem d_291_23 : decode ov_m291.2.1 23 = .ok (.iaload, 1) := by decide +kernel
theorem d_291_24 : decode ov_m291.2.1 24 = .ok (.ireturn, 1) := by decide +kernel
theorem b_291_9_1 : ov_ds ov_m291.2.1 9 [.aload_n 0] = true := by decide +kernel
theorem d_291_10 : decode ov_m291.2.1 10 = .ok (.getfield 81, 3) := by decide +kernel
theorem b_291_13_1 : ov_ds ov_m291.2.1 13 [.iconst 2] = true := by decide +kernel
theorem d_291_14 : decode ov_m291.2.1 14 = .ok (.iaload, 1) := by decide +kernel
theorem d_291_15 : decode ov_m291.2.1 15 = .ok (.goto 9, 3) := by decide +kernel
theorem b_239_0_2 : ov_ds ov_m239.2.1 0 [.aload_n 0, .iconst 0] = true := by decide +kernel
theorem d_239_2 : decode ov_m239.2.1 2 = .ok (.putfield 1, 3) := by decide +kernel
theorem b_239_5_3 : ov_ds ov_m239.2.1 5 [.aload_n 0, .iload_n 1, .iload_n 2] = true := by decide +kernel
theorem d_239_8 : decode ov_m239.2.1 8 = .ok (.invokevirtual 296, 3) := by decide +kernel
theorem d_239_11 : decode ov_m239.2.1 11 = .ok (.ifCond .eq 26, 3) := by decide +kernel
theorem b_239_37_1 : ov_ds ov_m239.2.1 37 [.iconst (-1)] = true := by decide +kernel
theorem d_239_38 : decode ov_m239.2.1 38 = .ok (.ireturn, 1) := by decide +kernel
theorem b_239_14_3 : ov_ds ov_m239.2.1 14 [.iload_n 3, .iconst 0, .iconst 5] = true := by decide +kernel
theorem d_239_17 : decode ov_m239.2.1 17 = .ok (.invokestatic 299, 3) := by decide +kernel
theorem d_239_20 : decode ov_m239.2.1 20 = .ok (.ifCond .eq 17, 3) := by decide +kernel
theorem b_239_23_2 : ov_ds ov_m239.2.1 23 [.iload_n 3, .iconst 5] = true := by decide +kernel
theorem d_239_25 : decode ov_m239.2.1 25 = .ok (.if_icmp .ge 14, 3) := by decide +kernel
theorem b_239_39_2 : ov_ds ov_m239.2.1 39 [.iload_n 3, .iconst 5] = true := by decide +kernel
theorem d_239_41 : decode ov_m239.2.1 41 = .ok (.if_icmp .ne 19, 3) := by decide +kernel
theorem b_239_60_1 : ov_ds ov_m239.2.1 60 [.iload_n 3] = true := by decide +kernel
theorem d_239_61 : decode ov_m239.2.1 61 = .ok (.ifCond .ne 12, 3) := by decide +kernel
theorem b_239_73_2 : ov_ds ov_m239.2.1 73 [.iload_n 3, .iconst 4] = true := by decide +kernel
theorem d_239_75 : decode ov_m239.2.1 75 = .ok (.if_icmp .ge 13, 3) := by decide +kernel
theorem b_239_88_3 : ov_ds ov_m239.2.1 88 [.aload_n 0, .iload_n 1, .iload_n 2] = true := by decide +kernel
theorem d_239_91 : decode ov_m239.2.1 91 = .ok (.invokevirtual 302, 3) := by decide +kernel
theorem d_239_94 : decode ov_m239.2.1 94 = .ok (.ifCond .eq 7, 3) := by decide +kernel
theorem b_239_101_1 : ov_ds ov_m239.2.1 101 [.iconst 0] = true := by decide +kernel
theorem d_239_102 : decode ov_m239.2.1 102 = .ok (.ireturn, 1) := by decide +kernel
theorem b_239_97_1 : ov_ds ov_m239.2.1 97 [.iconst 1] = true := by decide +kernel
theorem d_239_98 : decode ov_m239.2.1 98 = .ok (.goto 4, 3) := by decide +kernel
theorem b_239_78_4 : ov_ds ov_m239.2.1 78 [.aload_n 0, .iload_n 1, .iload_n 2, .iload_n 3] = true := by decide +kernel
theorem d_239_82 : decode ov_m239.2.1 82 = .ok (.invokevirtual 289, 3) := by decide +kernel
theorem d_239_85 : decode ov_m239.2.1 85 = .ok (.goto 17, 3) := by decide +kernel
theorem b_239_64_3 : ov_ds ov_m239.2.1 64 [.aload_n 0, .iload_n 1, .iload_n 2] = true := by decide +kernel
theorem d_239_67 : decode ov_m239.2.1 67 = .ok (.invokevirtual 282, 3) := by decide +kernel
theorem d_239_70 : decode ov_m239.2.1 70 = .ok (.goto 32, 3) := by decide +kernel
theorem b_239_44_1 : ov_ds ov_m239.2.1 44 [.aload_n 0] = true := by decide +kernel
theorem d_239_45 : decode ov_m239.2.1 45 = .ok (.getfield 81, 3) := by decide +kernel
theorem b_239_48_7 : ov_ds ov_m239.2.1 48 [.sipush 226, .bipush 6, .iload_n 2, .imul, .iadd, .iload_n 1, .iadd] = true := by decide +kernel
theorem d_239_58 : decode ov_m239.2.1 58 = .ok (.iaload, 1) := by decide +kernel
theorem d_239_59 : decode ov_m239.2.1 59 = .ok (.ireturn, 1) := by decide +kernel
theorem b_239_28_3 : ov_ds ov_m239.2.1 28 [.aload_n 0, .iload_n 1, .iload_n 2] = true := by decide +kernel
theorem d_239_31 : decode ov_m239.2.1 31 = .ok (.invokevirtual 282, 3) := by decide +kernel
theorem d_239_34 : decode ov_m239.2.1 34 = .ok (.ifCond .ge 5, 3) := by decide +kernel
theorem b_246_0_3 : ov_ds ov_m246.2.1 0 [.aload_n 0, .iload_n 1, .iload_n 2] = true := by decide +kernel
theorem d_246_3 : decode ov_m246.2.1 3 = .ok (.invokevirtual 296, 3) := by decide +kernel
theorem d_246_6 : decode ov_m246.2.1 6 = .ok (.ifCond .eq 35, 3) := by decide +kernel
theorem b_246_41_1 : ov_ds ov_m246.2.1 41 [.iconst 0] = true := by decide +kernel
theorem d_246_42 : decode ov_m246.2.1 42 = .ok (.ireturn, 1) := by decide +kernel
theorem b_246_9_3 : ov_ds ov_m246.2.1 9 [.iload_n 3, .iconst 0, .iconst 1] = true := by decide +kernel
theorem d_246_12 : decode ov_m246.2.1 12 = .ok (.invokestatic 299, 3) := by decide +kernel
theorem d_246_15 : decode ov_m246.2.1 15 = .ok (.ifCond .eq 26, 3) := by decide +kernel
theorem b_246_18_2 : ov_ds ov_m246.2.1 18 [.aload_n 0, .iload 4] = true := by decide +kernel
theorem d_246_21 : decode ov_m246.2.1 21 = .ok (.invokevirtual 306, 3) := by decide +kernel
theorem d_246_24 : decode ov_m246.2.1 24 = .ok (.ifCond .eq 17, 3) := by decide +kernel
theorem b_246_27_4 : ov_ds ov_m246.2.1 27 [.aload_n 0, .iload_n 1, .iload_n 2, .iload_n 3] = true := by decide +kernel
theorem d_246_31 : decode ov_m246.2.1 31 = .ok (.invokevirtual 309, 3) := by decide +kernel
theorem d_246_34 : decode ov_m246.2.1 34 = .ok (.ifCond .eq 7, 3) := by decide +kernel
theorem b_246_37_1 : ov_ds ov_m246.2.1 37 [.iconst 1] = true := by decide +kernel
theorem d_246_38 : decode ov_m246.2.1 38 = .ok (.goto 4, 3) := by decide +kernel
theorem b_245_0_2 : ov_ds ov_m245.2.1 0 [.aload_n 0, .iconst 0] = true := by decide +kernel
theorem d_245_2 : decode ov_m245.2.1 2 = .ok (.putfield 1, 3) := by decide +kernel
theorem b_245_5_5 : ov_ds ov_m245.2.1 5 [.aload_n 0, .iload_n 1, .iload_n 2, .iload_n 3, .iload 4] = true := by decide +kernel
theorem d_245_11 : decode ov_m245.2.1 11 = .ok (.invokevirtual 312, 3) := by decide +kernel
theorem d_245_14 : decode ov_m245.2.1 14 = .ok (.ifCond .ne 5, 3) := by decide +kernel
theorem b_245_19_3 : ov_ds ov_m245.2.1 19 [.aload_n 0, .iload_n 1, .iload_n 2] = true := by decide +kernel
theorem d_245_22 : decode ov_m245.2.1 22 = .ok (.invokevirtual 282, 3) := by decide +kernel
theorem b_245_25_1 : ov_ds ov_m245.2.1 25 [.iconst 2] = true := by decide +kernel
theorem d_245_26 : decode ov_m245.2.1 26 = .ok (.if_icmp .ne 16, 3) := by decide +kernel
theorem b_245_42_3 : ov_ds ov_m245.2.1 42 [.aload_n 0, .iload_n 1, .iload_n 2] = true := by decide +kernel
theorem d_245_45 : decode ov_m245.2.1 45 = .ok (.invokevirtual 285, 3) := by decide +kernel
theorem d_245_48 : decode ov_m245.2.1 48 = .ok (.ifCond .eq 15, 3) := by decide +kernel
theorem b_245_63_1 : ov_ds ov_m245.2.1 63 [.iconst 1] = true := by decide +kernel
theorem d_245_64 : decode ov_m245.2.1 64 = .ok (.goto 4, 3) := by decide +kernel
theorem b_245_68_2 : ov_ds ov_m245.2.1 68 [.istore 5, .iload 5] = true := by decide +kernel
theorem d_245_72 : decode ov_m245.2.1 72 = .ok (.ifCond .eq 7, 3) := by decide +kernel
theorem b_245_75_1 : ov_ds ov_m245.2.1 75 [.iconst 1] = true := by decide +kernel
theorem d_245_76 : decode ov_m245.2.1 76 = .ok (.goto 4, 3) := by decide +kernel
theorem d_245_80 : decode ov_m245.2.1 80 = .ok (.ireturn, 1) := by decide +kernel
theorem b_245_51_5 : ov_ds ov_m245.2.1 51 [.aload_n 0, .iload_n 1, .iload_n 2, .iload_n 3, .iload 4] = true := by decide +kernel
theorem d_245_57 : decode ov_m245.2.1 57 = .ok (.invokevirtual 292, 3) := by decide +kernel
theorem d_245_60 : decode ov_m245.2.1 60 = .ok (.ifCond .eq 7, 3) := by decide +kernel
theorem b_245_67_3 : ov_ds ov_m245.2.1 67 [.iconst 0, .istore 5, .iload 5] = true := by decide +kernel
theorem b_245_79_1 : ov_ds ov_m245.2.1 79 [.iconst 0] = true := by decide +kernel
theorem b_245_29_2 : ov_ds ov_m245.2.1 29 [.iload_n 3, .iconst 1] = true := by decide +kernel
theorem d_245_31 : decode ov_m245.2.1 31 = .ok (.if_icmp .ne 7, 3) := by decide +kernel
theorem b_245_38_1 : ov_ds ov_m245.2.1 38 [.iconst 0] = true := by decide +kernel
theorem d_245_39 : decode ov_m245.2.1 39 = .ok (.goto 29, 3) := by decide +kernel
theorem b_245_34_1 : ov_ds ov_m245.2.1 34 [.iconst 1] = true := by decide +kernel
theorem d_245_35 : decode ov_m245.2.1 35 = .ok (.goto 33, 3) := by decide +kernel
theorem b_245_17_1 : ov_ds ov_m245.2.1 17 [.iconst (-1)] = true := by decide +kernel
theorem d_245_18 : decode ov_m245.2.1 18 = .ok (.ireturn, 1) := by decide +kernel
theorem b_251_0_2 : ov_ds ov_m251.2.1 0 [.aload_n 0, .iconst 0] = true := by decide +kernel
theorem d_251_2 : decode ov_m251.2.1 2 = .ok (.putfield 1, 3) := by decide +kernel
theorem b_251_5_5 : ov_ds ov_m251.2.1 5 [.aload_n 0, .iload_n 1, .iload_n 2, .iload_n 3, .iload 4] = true := by decide +kernel
theorem d_251_11 : decode ov_m251.2.1 11 = .ok (.invokevirtual 312, 3) := by decide +kernel
theorem d_251_14 : decode ov_m251.2.1 14 = .ok (.ifCond .eq 15, 3) := by decide +kernel
theorem b_251_29_1 : ov_ds ov_m251.2.1 29 [.iconst (-1)] = true := by decide +kernel
theorem d_251_30 : decode ov_m251.2.1 30 = .ok (.ireturn, 1) := by decide +kernel
theorem b_251_17_5 : ov_ds ov_m251.2.1 17 [.aload_n 0, .iload_n 1, .iload_n 2, .iload_n 3, .iload 4] = true := by decide +kernel
theorem d_251_23 : decode ov_m251.2.1 23 = .ok (.invokevirtual 315, 3) := by decide +kernel
theorem d_251_26 : decode ov_m251.2.1 26 = .ok (.goto 4, 3) := by decide +kernel
theorem b_255_0_2 : ov_ds ov_m255.2.1 0 [.iconst 0, .istore 4] = true := by decide +kernel
theorem b_255_3_2 : ov_ds ov_m255.2.1 3 [.iload 4, .iload_n 3] = true := by decide +kernel
theorem d_255_6 : decode ov_m255.2.1 6 = .ok (.if_icmp .ge 33, 3) := by decide +kernel
theorem d_255_39 : decode ov_m255.2.1 39 = .ok (.return_, 1) := by decide +kernel
theorem b_255_9_1 : ov_ds ov_m255.2.1 9 [.aload_n 0] = true := by decide +kernel
theorem d_255_10 : decode ov_m255.2.1 10 = .ok (.getfield 102, 3) := by decide +kernel
theorem b_255_13_6 : ov_ds ov_m255.2.1 13 [.bipush 120, .iload_n 2, .imul, .iload 4, .iadd, .aload_n 0] = true := by decide +kernel
theorem d_255_21 : decode ov_m255.2.1 21 = .ok (.getfield 102, 3) := by decide +kernel
theorem b_255_24_5 : ov_ds ov_m255.2.1 24 [.bipush 120, .iload_n 1, .imul, .iload 4, .iadd] = true := by decide +kernel
theorem d_255_31 : decode ov_m255.2.1 31 = .ok (.iaload, 1) := by decide +kernel
theorem d_255_32 : decode ov_m255.2.1 32 = .ok (.iastore, 1) := by decide +kernel
theorem b_255_33_1 : ov_ds ov_m255.2.1 33 [.iinc 4 1] = true := by decide +kernel
theorem d_255_36 : decode ov_m255.2.1 36 = .ok (.goto (-33), 3) := by decide +kernel
theorem b_204_0_2 : ov_ds ov_m204.2.1 0 [.iconst 0, .istore_n 1] = true := by decide +kernel
theorem b_204_2_2 : ov_ds ov_m204.2.1 2 [.iload_n 1, .bipush 120] = true := by decide +kernel
theorem d_204_5 : decode ov_m204.2.1 5 = .ok (.if_icmp .ge 16, 3) := by decide +kernel
theorem b_204_21_1 : ov_ds ov_m204.2.1 21 [.aload_n 0] = true := by decide +kernel
theorem d_204_22 : decode ov_m204.2.1 22 = .ok (.getfield 93, 3) := by decide +kernel
theorem b_204_25_2 : ov_ds ov_m204.2.1 25 [.iconst 0, .iconst 0] = true := by decide +kernel
theorem d_204_27 : decode ov_m204.2.1 27 = .ok (.iastore, 1) := by decide +kernel
theorem b_204_28_2 : ov_ds ov_m204.2.1 28 [.aload_n 0, .iconst 0] = true := by decide +kernel
theorem d_204_30 : decode ov_m204.2.1 30 = .ok (.putfield 319, 3) := by decide +kernel
theorem b_204_33_2 : ov_ds ov_m204.2.1 33 [.aload_n 0, .dup] = true := by decide +kernel
theorem d_204_35 : decode ov_m204.2.1 35 = .ok (.getfield 322, 3) := by decide +kernel
theorem b_204_38_2 : ov_ds ov_m204.2.1 38 [.iconst 1, .iadd] = true := by decide +kernel
theorem d_204_40 : decode ov_m204.2.1 40 = .ok (.putfield 322, 3) := by decide +kernel
theorem b_204_43_2 : ov_ds ov_m204.2.1 43 [.iconst 0, .istore_n 1] = true := by decide +kernel
theorem b_204_45_2 : ov_ds ov_m204.2.1 45 [.iload_n 1, .iconst 4] = true := by decide +kernel
theorem d_204_47 : decode ov_m204.2.1 47 = .ok (.if_icmp .ge 16, 3) := by decide +kernel
theorem d_204_63 : decode ov_m204.2.1 63 = .ok (.return_, 1) := by decide +kernel
theorem b_204_50_1 : ov_ds ov_m204.2.1 50 [.aload_n 0] = true := by decide +kernel
theorem d_204_51 : decode ov_m204.2.1 51 = .ok (.getfield 105, 3) := by decide +kernel
theorem b_204_54_2 : ov_ds ov_m204.2.1 54 [.iload_n 1, .iconst 0] = true := by decide +kernel
theorem d_204_56 : decode ov_m204.2.1 56 = .ok (.bastore, 1) := by decide +kernel
theorem b_204_57_1 : ov_ds ov_m204.2.1 57 [.iinc 1 1] = true := by decide +kernel
theorem d_204_60 : decode ov_m204.2.1 60 = .ok (.goto (-15), 3) := by decide +kernel
theorem b_204_8_1 : ov_ds ov_m204.2.1 8 [.aload_n 0] = true := by decide +kernel
theorem d_204_9 : decode ov_m204.2.1 9 = .ok (.getfield 102, 3) := by decide +kernel
theorem b_204_12_2 : ov_ds ov_m204.2.1 12 [.iload_n 1, .iconst 0] = true := by decide +kernel
theorem d_204_14 : decode ov_m204.2.1 14 = .ok (.iastore, 1) := by decide +kernel
theorem b_204_15_1 : ov_ds ov_m204.2.1 15 [.iinc 1 1] = true := by decide +kernel
theorem d_204_18 : decode ov_m204.2.1 18 = .ok (.goto (-16), 3) := by decide +kernel
theorem b_254_0_1 : ov_ds ov_m254.2.1 0 [.aload_n 0] = true := by decide +kernel
theorem d_254_1 : decode ov_m254.2.1 1 = .ok (.getfield 319, 3) := by decide +kernel
theorem b_254_4_1 : ov_ds ov_m254.2.1 4 [.bipush 16] = true := by decide +kernel
theorem d_254_6 : decode ov_m254.2.1 6 = .ok (.if_icmp .ne 41, 3) := by decide +kernel
theorem b_254_47_4 : ov_ds ov_m254.2.1 47 [.aload_n 0, .iconst 0, .iconst 5, .aload_n 0] = true := by decide +kernel
theorem d_254_51 : decode ov_m254.2.1 51 = .ok (.getfield 319, 3) := by decide +kernel
theorem b_254_54_2 : ov_ds ov_m254.2.1 54 [.iadd, .bipush 58] = true := by decide +kernel
theorem d_254_57 : decode ov_m254.2.1 57 = .ok (.invokevirtual 325, 3) := by decide +kernel
theorem b_254_60_2 : ov_ds ov_m254.2.1 60 [.aload_n 0, .dup] = true := by decide +kernel
theorem d_254_62 : decode ov_m254.2.1 62 = .ok (.getfield 319, 3) := by decide +kernel
theorem b_254_65_2 : ov_ds ov_m254.2.1 65 [.iconst 1, .iadd] = true := by decide +kernel
theorem d_254_67 : decode ov_m254.2.1 67 = .ok (.putfield 319, 3) := by decide +kernel
theorem d_254_70 : decode ov_m254.2.1 70 = .ok (.return_, 1) := by decide +kernel
theorem b_254_9_2 : ov_ds ov_m254.2.1 9 [.iconst 1, .istore_n 1] = true := by decide +kernel
theorem b_254_11_2 : ov_ds ov_m254.2.1 11 [.iload_n 1, .bipush 16] = true := by decide +kernel
theorem d_254_14 : decode ov_m254.2.1 14 = .ok (.if_icmp .ge 23, 3) := by decide +kernel
theorem b_254_37_2 : ov_ds ov_m254.2.1 37 [.aload_n 0, .dup] = true := by decide +kernel
theorem d_254_39 : decode ov_m254.2.1 39 = .ok (.getfield 319, 3) := by decide +kernel
theorem b_254_42_2 : ov_ds ov_m254.2.1 42 [.iconst 1, .isub] = true := by decide +kernel
theorem d_254_44 : decode ov_m254.2.1 44 = .ok (.putfield 319, 3) := by decide +kernel
theorem b_254_17_10 : ov_ds ov_m254.2.1 17 [.aload_n 0, .iconst 5, .iload_n 1, .iadd, .iconst 5, .iload_n 1, .iadd, .iconst 1, .isub, .bipush 58] = true := by decide +kernel
theorem d_254_28 : decode ov_m254.2.1 28 = .ok (.invokevirtual 325, 3) := by decide +kernel
theorem b_254_31_1 : ov_ds ov_m254.2.1 31 [.iinc 1 1] = true := by decide +kernel
theorem d_254_34 : decode ov_m254.2.1 34 = .ok (.goto (-23), 3) := by decide +kernel
theorem b_253_0_2 : ov_ds ov_m253.2.1 0 [.aload_n 0, .iconst 0] = true := by decide +kernel
theorem d_253_2 : decode ov_m253.2.1 2 = .ok (.putfield 1, 3) := by decide +kernel
theorem b_253_5_1 : ov_ds ov_m253.2.1 5 [.aload_n 0] = true := by decide +kernel
theorem d_253_6 : decode ov_m253.2.1 6 = .ok (.getfield 102, 3) := by decide +kernel
theorem b_253_9_1 : ov_ds ov_m253.2.1 9 [.iconst 0] = true := by decide +kernel
theorem d_253_10 : decode ov_m253.2.1 10 = .ok (.iaload, 1) := by decide +kernel
theorem b_253_11_2 : ov_ds ov_m253.2.1 11 [.istore_n 3, .aload_n 0] = true := by decide +kernel
theorem d_253_13 : decode ov_m253.2.1 13 = .ok (.getfield 102, 3) := by decide +kernel
theorem b_253_16_1 : ov_ds ov_m253.2.1 16 [.iconst 1] = true := by decide +kernel
theorem d_253_17 : decode ov_m253.2.1 17 = .ok (.iaload, 1) := by decide +kernel
theorem b_253_18_4 : ov_ds ov_m253.2.1 18 [.istore 4, .iload_n 1, .iconst 0, .iconst 1] = true := by decide +kernel
theorem d_253_23 : decode ov_m253.2.1 23 = .ok (.invokestatic 299, 3) := by decide +kernel
theorem d_253_26 : decode ov_m253.2.1 26 = .ok (.ifCond .eq 44, 3) := by decide +kernel
theorem b_253_70_1 : ov_ds ov_m253.2.1 70 [.iconst (-1)] = true := by decide +kernel
theorem d_253_71 : decode ov_m253.2.1 71 = .ok (.ireturn, 1) := by decide +kernel
theorem b_253_29_4 : ov_ds ov_m253.2.1 29 [.aload_n 0, .iload_n 3, .iload 4, .iload_n 1] = true := by decide +kernel
theorem d_253_34 : decode ov_m253.2.1 34 = .ok (.invokevirtual 309, 3) := by decide +kernel
theorem d_253_37 : decode ov_m253.2.1 37 = .ok (.ifCond .eq 33, 3) := by decide +kernel
theorem b_253_40_1 : ov_ds ov_m253.2.1 40 [.iload_n 2] = true := by decide +kernel
theorem d_253_41 : decode ov_m253.2.1 41 = .ok (.ifCond .eq 31, 3) := by decide +kernel
theorem b_253_72_1 : ov_ds ov_m253.2.1 72 [.aload_n 0] = true := by decide +kernel
theorem d_253_73 : decode ov_m253.2.1 73 = .ok (.invokevirtual 329, 3) := by decide +kernel
theorem b_253_76_1 : ov_ds ov_m253.2.1 76 [.aload_n 0] = true := by decide +kernel
theorem d_253_77 : decode ov_m253.2.1 77 = .ok (.getfield 102, 3) := by decide +kernel
theorem b_253_80_2 : ov_ds ov_m253.2.1 80 [.iconst 2, .dup2] = true := by decide +kernel
theorem d_253_82 : decode ov_m253.2.1 82 = .ok (.iaload, 1) := by decide +kernel
theorem b_253_83_5 : ov_ds ov_m253.2.1 83 [.aload_n 0, .iload_n 3, .iload 4, .iload_n 1, .aload_n 0] = true := by decide +kernel
theorem d_253_89 : decode ov_m253.2.1 89 = .ok (.getfield 102, 3) := by decide +kernel
theorem b_253_92_1 : ov_ds ov_m253.2.1 92 [.iconst 2] = true := by decide +kernel
theorem d_253_93 : decode ov_m253.2.1 93 = .ok (.iaload, 1) := by decide +kernel
theorem d_253_94 : decode ov_m253.2.1 94 = .ok (.invokevirtual 315, 3) := by decide +kernel
theorem b_253_97_1 : ov_ds ov_m253.2.1 97 [.iload_n 2] = true := by decide +kernel
theorem d_253_98 : decode ov_m253.2.1 98 = .ok (.ifCond .eq 10, 3) := by decide +kernel
theorem b_253_108_1 : ov_ds ov_m253.2.1 108 [.aload_n 0] = true := by decide +kernel
theorem d_253_109 : decode ov_m253.2.1 109 = .ok (.getfield 81, 3) := by decide +kernel
theorem b_253_112_1 : ov_ds ov_m253.2.1 112 [.iconst 2] = true := by decide +kernel
theorem d_253_113 : decode ov_m253.2.1 113 = .ok (.iaload, 1) := by decide +kernel
theorem b_253_114_1 : ov_ds ov_m253.2.1 114 [.iadd] = true := by decide +kernel
theorem b_253_115_1 : ov_ds ov_m253.2.1 115 [.iadd] = true := by decide +kernel
theorem d_253_116 : decode ov_m253.2.1 116 = .ok (.iastore, 1) := by decide +kernel
theorem b_253_117_1 : ov_ds ov_m253.2.1 117 [.aload_n 0] = true := by decide +kernel
theorem d_253_118 : decode ov_m253.2.1 118 = .ok (.getfield 102, 3) := by decide +kernel
theorem b_253_121_2 : ov_ds ov_m253.2.1 121 [.iconst 0, .dup2] = true := by decide +kernel
theorem d_253_123 : decode ov_m253.2.1 123 = .ok (.iaload, 1) := by decide +kernel
theorem b_253_124_4 : ov_ds ov_m253.2.1 124 [.iconst 1, .iload_n 1, .isub, .iadd] = true := by decide +kernel
theorem d_253_128 : decode ov_m253.2.1 128 = .ok (.iastore, 1) := by decide +kernel
theorem b_253_129_1 : ov_ds ov_m253.2.1 129 [.aload_n 0] = true := by decide +kernel
theorem d_253_130 : decode ov_m253.2.1 130 = .ok (.getfield 102, 3) := by decide +kernel
theorem b_253_133_2 : ov_ds ov_m253.2.1 133 [.iconst 1, .dup2] = true := by decide +kernel
theorem d_253_135 : decode ov_m253.2.1 135 = .ok (.iaload, 1) := by decide +kernel
theorem b_253_136_2 : ov_ds ov_m253.2.1 136 [.iload_n 1, .iadd] = true := by decide +kernel
theorem d_253_138 : decode ov_m253.2.1 138 = .ok (.iastore, 1) := by decide +kernel
theorem b_253_139_1 : ov_ds ov_m253.2.1 139 [.aload_n 0] = true := by decide +kernel
theorem d_253_140 : decode ov_m253.2.1 140 = .ok (.getfield 102, 3) := by decide +kernel
theorem b_253_143_2 : ov_ds ov_m253.2.1 143 [.iconst 3, .dup2] = true := by decide +kernel
theorem d_253_145 : decode ov_m253.2.1 145 = .ok (.iaload, 1) := by decide +kernel
theorem b_253_146_1 : ov_ds ov_m253.2.1 146 [.iload_n 2] = true := by decide +kernel
theorem d_253_147 : decode ov_m253.2.1 147 = .ok (.ifCond .eq 7, 3) := by decide +kernel
theorem b_253_154_2 : ov_ds ov_m253.2.1 154 [.iconst 0, .iadd] = true := by decide +kernel
theorem d_253_156 : decode ov_m253.2.1 156 = .ok (.iastore, 1) := by decide +kernel
theorem b_253_157_1 : ov_ds ov_m253.2.1 157 [.aload_n 0] = true := by decide +kernel
theorem d_253_158 : decode ov_m253.2.1 158 = .ok (.getfield 102, 3) := by decide +kernel
theorem b_253_161_1 : ov_ds ov_m253.2.1 161 [.iconst 2] = true := by decide +kernel
theorem d_253_162 : decode ov_m253.2.1 162 = .ok (.iaload, 1) := by decide +kernel
theorem d_253_163 : decode ov_m253.2.1 163 = .ok (.ireturn, 1) := by decide +kernel
theorem b_253_150_1 : ov_ds ov_m253.2.1 150 [.iconst 1] = true := by decide +kernel
theorem d_253_151 : decode ov_m253.2.1 151 = .ok (.goto 4, 3) := by decide +kernel
theorem b_253_155_1 : ov_ds ov_m253.2.1 155 [.iadd] = true := by decide +kernel
theorem b_253_101_1 : ov_ds ov_m253.2.1 101 [.aload_n 0] = true := by decide +kernel
theorem d_253_102 : decode ov_m253.2.1 102 = .ok (.invokevirtual 332, 3) := by decide +kernel
theorem d_253_105 : decode ov_m253.2.1 105 = .ok (.goto 9, 3) := by decide +kernel
theorem b_253_44_1 : ov_ds ov_m253.2.1 44 [.aload_n 0] = true := by decide +kernel
theorem d_253_45 : decode ov_m253.2.1 45 = .ok (.getfield 81, 3) := by decide +kernel
theorem b_253_48_1 : ov_ds ov_m253.2.1 48 [.bipush 6] = true := by decide +kernel
theorem d_253_50 : decode ov_m253.2.1 50 = .ok (.iaload, 1) := by decide +kernel
theorem b_253_51_1 : ov_ds ov_m253.2.1 51 [.iconst 1] = true := by decide +kernel
theorem d_253_52 : decode ov_m253.2.1 52 = .ok (.if_icmp .eq 18, 3) := by decide +kernel
theorem b_253_55_1 : ov_ds ov_m253.2.1 55 [.aload_n 0] = true := by decide +kernel
theorem d_253_56 : decode ov_m253.2.1 56 = .ok (.getfield 102, 3) := by decide +kernel
theorem b_253_59_1 : ov_ds ov_m253.2.1 59 [.iconst 3] = true := by decide +kernel
theorem d_253_60 : decode ov_m253.2.1 60 = .ok (.iaload, 1) := by decide +kernel
theorem b_253_61_1 : ov_ds ov_m253.2.1 61 [.aload_n 0] = true := by decide +kernel
theorem d_253_62 : decode ov_m253.2.1 62 = .ok (.getfield 81, 3) := by decide +kernel
theorem b_253_65_1 : ov_ds ov_m253.2.1 65 [.iconst 5] = true := by decide +kernel
theorem d_253_66 : decode ov_m253.2.1 66 = .ok (.iaload, 1) := by decide +kernel
theorem d_253_67 : decode ov_m253.2.1 67 = .ok (.if_icmp .ne 5, 3) := by decide +kernel
theorem b_257_0_2 : ov_ds ov_m257.2.1 0 [.aload_n 0, .iconst 0] = true := by decide +kernel
theorem d_257_2 : decode ov_m257.2.1 2 = .ok (.putfield 1, 3) := by decide +kernel
theorem b_257_5_3 : ov_ds ov_m257.2.1 5 [.iload_n 1, .iconst 1, .sipush 1000] = true := by decide +kernel
theorem d_257_10 : decode ov_m257.2.1 10 = .ok (.invokestatic 299, 3) := by decide +kernel
theorem d_257_13 : decode ov_m257.2.1 13 = .ok (.ifCond .ne 5, 3) := by decide +kernel
theorem b_257_18_1 : ov_ds ov_m257.2.1 18 [.aload_n 0] = true := by decide +kernel
theorem d_257_19 : decode ov_m257.2.1 19 = .ok (.invokevirtual 329, 3) := by decide +kernel
theorem b_257_22_1 : ov_ds ov_m257.2.1 22 [.aload_n 0] = true := by decide +kernel
theorem d_257_23 : decode ov_m257.2.1 23 = .ok (.getfield 102, 3) := by decide +kernel
theorem b_257_26_2 : ov_ds ov_m257.2.1 26 [.iconst 2, .dup2] = true := by decide +kernel
theorem d_257_28 : decode ov_m257.2.1 28 = .ok (.iaload, 1) := by decide +kernel
theorem b_257_29_2 : ov_ds ov_m257.2.1 29 [.iload_n 1, .iadd] = true := by decide +kernel
theorem d_257_31 : decode ov_m257.2.1 31 = .ok (.iastore, 1) := by decide +kernel
theorem b_257_32_1 : ov_ds ov_m257.2.1 32 [.aload_n 0] = true := by decide +kernel
theorem d_257_33 : decode ov_m257.2.1 33 = .ok (.getfield 102, 3) := by decide +kernel
theorem b_257_36_1 : ov_ds ov_m257.2.1 36 [.iconst 2] = true := by decide +kernel
theorem d_257_37 : decode ov_m257.2.1 37 = .ok (.iaload, 1) := by decide +kernel
theorem d_257_38 : decode ov_m257.2.1 38 = .ok (.ireturn, 1) := by decide +kernel
theorem b_257_16_1 : ov_ds ov_m257.2.1 16 [.iconst (-1)] = true := by decide +kernel
theorem d_257_17 : decode ov_m257.2.1 17 = .ok (.ireturn, 1) := by decide +kernel
theorem b_258_0_2 : ov_ds ov_m258.2.1 0 [.aload_n 0, .iconst 0] = true := by decide +kernel
theorem d_258_2 : decode ov_m258.2.1 2 = .ok (.putfield 1, 3) := by decide +kernel
theorem b_258_5_1 : ov_ds ov_m258.2.1 5 [.aload_n 0] = true := by decide +kernel
theorem d_258_6 : decode ov_m258.2.1 6 = .ok (.getfield 102, 3) := by decide +kernel
theorem b_258_9_1 : ov_ds ov_m258.2.1 9 [.iconst 0] = true := by decide +kernel
theorem d_258_10 : decode ov_m258.2.1 10 = .ok (.iaload, 1) := by decide +kernel
theorem b_258_11_2 : ov_ds ov_m258.2.1 11 [.istore_n 1, .aload_n 0] = true := by decide +kernel
theorem d_258_13 : decode ov_m258.2.1 13 = .ok (.getfield 102, 3) := by decide +kernel
theorem b_258_16_1 : ov_ds ov_m258.2.1 16 [.iconst 1] = true := by decide +kernel
theorem d_258_17 : decode ov_m258.2.1 17 = .ok (.iaload, 1) := by decide +kernel
theorem b_258_18_4 : ov_ds ov_m258.2.1 18 [.istore_n 2, .aload_n 0, .iload_n 1, .iload_n 2] = true := by decide +kernel
theorem d_258_22 : decode ov_m258.2.1 22 = .ok (.invokevirtual 282, 3) := by decide +kernel
theorem b_258_25_1 : ov_ds ov_m258.2.1 25 [.iconst 1] = true := by decide +kernel
theorem d_258_26 : decode ov_m258.2.1 26 = .ok (.if_icmp .ne 12, 3) := by decide +kernel
theorem b_258_38_1 : ov_ds ov_m258.2.1 38 [.iconst 0] = true := by decide +kernel
theorem d_258_39 : decode ov_m258.2.1 39 = .ok (.ireturn, 1) := by decide +kernel
theorem b_258_29_3 : ov_ds ov_m258.2.1 29 [.aload_n 0, .iload_n 1, .iload_n 2] = true := by decide +kernel
theorem d_258_32 : decode ov_m258.2.1 32 = .ok (.invokevirtual 302, 3) := by decide +kernel
theorem d_258_35 : decode ov_m258.2.1 35 = .ok (.ifCond .eq 5, 3) := by decide +kernel
theorem b_258_40_1 : ov_ds ov_m258.2.1 40 [.aload_n 0] = true := by decide +kernel
theorem d_258_41 : decode ov_m258.2.1 41 = .ok (.invokevirtual 329, 3) := by decide +kernel
theorem b_258_44_1 : ov_ds ov_m258.2.1 44 [.aload_n 0] = true := by decide +kernel
theorem d_258_45 : decode ov_m258.2.1 45 = .ok (.getfield 102, 3) := by decide +kernel
theorem b_258_48_8 : ov_ds ov_m258.2.1 48 [.iconst 4, .bipush 6, .iload_n 2, .imul, .iadd, .iload_n 1, .iadd, .iconst 1] = true := by decide +kernel
theorem d_258_57 : decode ov_m258.2.1 57 = .ok (.iastore, 1) := by decide +kernel
theorem b_258_58_2 : ov_ds ov_m258.2.1 58 [.aload_n 0, .dup] = true := by decide +kernel
theorem d_258_60 : decode ov_m258.2.1 60 = .ok (.getfield 322, 3) := by decide +kernel
theorem b_258_63_2 : ov_ds ov_m258.2.1 63 [.iconst 1, .iadd] = true := by decide +kernel
theorem d_258_65 : decode ov_m258.2.1 65 = .ok (.putfield 322, 3) := by decide +kernel
theorem b_258_68_1 : ov_ds ov_m258.2.1 68 [.iconst 1] = true := by decide +kernel
theorem d_258_69 : decode ov_m258.2.1 69 = .ok (.ireturn, 1) := by decide +kernel
theorem b_259_0_2 : ov_ds ov_m259.2.1 0 [.aload_n 0, .iconst 0] = true := by decide +kernel
theorem d_259_2 : decode ov_m259.2.1 2 = .ok (.putfield 1, 3) := by decide +kernel
theorem b_259_5_1 : ov_ds ov_m259.2.1 5 [.aload_n 0] = true := by decide +kernel
theorem d_259_6 : decode ov_m259.2.1 6 = .ok (.getfield 319, 3) := by decide +kernel
theorem d_259_9 : decode ov_m259.2.1 9 = .ok (.ifCond .ne 5, 3) := by decide +kernel
theorem b_259_14_2 : ov_ds ov_m259.2.1 14 [.aload_n 0, .dup] = true := by decide +kernel
theorem d_259_16 : decode ov_m259.2.1 16 = .ok (.getfield 319, 3) := by decide +kernel
theorem b_259_19_2 : ov_ds ov_m259.2.1 19 [.iconst 1, .isub] = true := by decide +kernel
theorem d_259_21 : decode ov_m259.2.1 21 = .ok (.putfield 319, 3) := by decide +kernel
theorem b_259_24_3 : ov_ds ov_m259.2.1 24 [.aload_n 0, .iconst 5, .aload_n 0] = true := by decide +kernel
theorem d_259_27 : decode ov_m259.2.1 27 = .ok (.getfield 319, 3) := by decide +kernel
theorem b_259_30_3 : ov_ds ov_m259.2.1 30 [.iadd, .iconst 0, .bipush 58] = true := by decide +kernel
theorem d_259_34 : decode ov_m259.2.1 34 = .ok (.invokevirtual 325, 3) := by decide +kernel
theorem b_259_37_2 : ov_ds ov_m259.2.1 37 [.aload_n 0, .dup] = true := by decide +kernel
theorem d_259_39 : decode ov_m259.2.1 39 = .ok (.getfield 322, 3) := by decide +kernel
theorem b_259_42_2 : ov_ds ov_m259.2.1 42 [.iconst 1, .iadd] = true := by decide +kernel
theorem d_259_44 : decode ov_m259.2.1 44 = .ok (.putfield 322, 3) := by decide +kernel
theorem b_259_47_1 : ov_ds ov_m259.2.1 47 [.iconst 1] = true := by decide +kernel
theorem d_259_48 : decode ov_m259.2.1 48 = .ok (.ireturn, 1) := by decide +kernel
theorem b_259_12_1 : ov_ds ov_m259.2.1 12 [.iconst 0] = true := by decide +kernel
theorem d_259_13 : decode ov_m259.2.1 13 = .ok (.ireturn, 1) := by decide +kernel
abbrev P_Mo_isKnown_90 (F : ov_H × ov_Z) (z : ov_Z) (h : ov_H) (x : Int) (y : Int) : Option ov_V → ov_Z → ov_H → Prop := fun r0 z' h' => ∃ r : Int, r0 = some (ov_i r) ∧ z = z' ∧ h = h' ∧ ((r = 0 ∨ r = 1) ∧ (r = 1 → (h 96 (10 + 4 * (6 * y + x))) = 2))
set_option maxHeartbeats 4000000 in
theorem c_Mo_isKnown_90 {u : ov_U} {F : ov_H × ov_Z} {z : ov_Z} {h : ov_H} (d : Nat) (hd : 1 ≤ d) (U : ov_cap u) (I : ov_N F z h) (x : Int) (y : Int) (g_x : ov_g x) (g_y : ov_g y) (p0 : 0 ≤ x ∧ x ≤ 5 ∧ 0 ≤ y ∧ y ≤ 8) : ov_T u d ov_m244 [ov_r 90, ov_i x, ov_i y] z h (P_Mo_isKnown_90 F z h x y) := by
  refine ov_en rfl (Nat.le_of_ble_eq_true rfl) ?_
  show ov_R u d ov_m244 0 [(0, ov_r 90), (1, ov_i x), (2, ov_i y)] [] z h (P_Mo_isKnown_90 F z h x y)
  refine ov_blk (ls2 := [(0, ov_r 90), (1, ov_i x), (2, ov_i y)]) (st2 := [ov_i y, ov_i x, ov_r 90]) (pc2 := 3) b_244_0_3 rfl rfl ?_
  refine ov_cV (as := [ov_i x, ov_i y]) (st := []) (d2 := d - 1) d_244_3 lk_Mo_282 rfl (Nat.le_of_ble_eq_true rfl) (c := 1) (zb_90 I) (zs_90 I) ⟨by decide, rfl⟩ (by omega) (c_Mo_kindAt_90 (d - 1) (by omega) U I x y (by omega) (by omega) (by omega)) ?_
  rintro _ _ _ ⟨v2, rfl, rfl, rfl, f1⟩
  show ov_R u d ov_m244 6 [(0, ov_r 90), (1, ov_i x), (2, ov_i y)] [ov_i v2] z h (P_Mo_isKnown_90 F z h x y)
  have f3 : v2 = (h 96 (10 + 4 * (6 * y + x))) - 1 ∧ -1 ≤ v2 ∧ v2 ≤ 3 := f1
  clear f1
  refine ov_blk (ls2 := [(0, ov_r 90), (1, ov_i x), (2, ov_i y)]) (st2 := [ov_i 1, ov_i v2]) (pc2 := 7) b_244_6_1 rfl rfl ?_
  refine ov_icne (tgt := 31) d_244_7 (by decide) (by omega) (by omega) (fun c4 => ?_) (fun c4 => ?_)
  · skip
    refine ov_blk (ls2 := [(0, ov_r 90), (1, ov_i x), (2, ov_i y)]) (st2 := [ov_i 0]) (pc2 := 32) b_244_31_1 rfl rfl ?_
    exact ov_retz (st := []) d_244_32 rfl (by omega) ⟨_, rfl, rfl, rfl, (by show (0 = 0 ∨ 0 = 1) ∧ (0 = 1 → (h 96 (10 + 4 * (6 * y + x))) = 2); omega)⟩
  · skip
    refine ov_blk (ls2 := [(0, ov_r 90), (1, ov_i x), (2, ov_i y)]) (st2 := [ov_r 90]) (pc2 := 11) b_244_10_1 rfl rfl ?_
    refine ov_getf (v := ov_r 103) d_244_11 fl_Mo_102 (zb_90 I) (zs_90 I) (congrArg ov_r (rg_90_19 I)) ?_
    refine ov_blk (ls2 := [(0, ov_r 90), (1, ov_i x), (2, ov_i y)]) (st2 := [ov_i ((4 + (6 * y)) + x), ov_r 103]) (pc2 := 22) b_244_14_7 rfl rfl ?_
    refine ov_iald d_244_22 (zb_103 I) (zs_103 I) (by omega) ?_
    have g5 := g103 I ((4 + (6 * y)) + x)
    refine ov_blk (ls2 := [(0, ov_r 90), (1, ov_i x), (2, ov_i y)]) (st2 := [ov_i 1, ov_i (h 103 ((4 + (6 * y)) + x))]) (pc2 := 24) b_244_23_1 rfl rfl ?_
    refine ov_icne (tgt := 31) d_244_24 (by decide) (by omega) (by omega) (fun c6 => ?_) (fun c6 => ?_)
    · skip
      refine ov_blk (ls2 := [(0, ov_r 90), (1, ov_i x), (2, ov_i y)]) (st2 := [ov_i 0]) (pc2 := 32) b_244_31_1 rfl rfl ?_
      exact ov_retz (st := []) d_244_32 rfl (by omega) ⟨_, rfl, rfl, rfl, (by show (0 = 0 ∨ 0 = 1) ∧ (0 = 1 → (h 96 (10 + 4 * (6 * y + x))) = 2); omega)⟩
    · skip
      refine ov_blk (ls2 := [(0, ov_r 90), (1, ov_i x), (2, ov_i y)]) (st2 := [ov_i 1]) (pc2 := 28) b_244_27_1 rfl rfl ?_
      refine ov_goto (tgt := 32) d_244_28 (by decide) ?_
      exact ov_retz (st := []) d_244_32 rfl (by omega) ⟨_, rfl, rfl, rfl, (by show (1 = 0 ∨ 1 = 1) ∧ (1 = 1 → (h 96 (10 + 4 * (6 * y + x))) = 2); omega)⟩
abbrev P_Mo_runTime_90 (F : ov_H × ov_Z) (z : ov_Z) (h : ov_H) : Option ov_V → ov_Z → ov_H → Prop := fun r0 z' h' => ∃ r : Int, r0 = some (ov_i r) ∧ z = z' ∧ h = h' ∧ (0 ≤ r ∧ r ≤ 30)
set_option maxHeartbeats 4000000 in
theorem c_Mo_runTime_90 {u : ov_U} {F : ov_H × ov_Z} {z : ov_Z} {h : ov_H} (d : Nat) (hd : 0 ≤ d) (U : ov_cap u) (I : ov_N F z h) : ov_T u d ov_m256 [ov_r 90] z h (P_Mo_runTime_90 F z h) := by
  refine ov_en rfl (Nat.le_of_ble_eq_true rfl) ?_
  show ov_R u d ov_m256 0 [(0, ov_r 90)] [] z h (P_Mo_runTime_90 F z h)
  refine ov_blk (ls2 := [(0, ov_r 90)]) (st2 := [ov_r 90]) (pc2 := 1) b_256_0_1 rfl rfl ?_
  refine ov_getf (v := ov_r 96) d_256_1 fl_Mo_81 (zb_90 I) (zs_90 I) (congrArg ov_r (rg_90_10 I)) ?_
  refine ov_blk (ls2 := [(0, ov_r 90)]) (st2 := [ov_i 3, ov_r 96]) (pc2 := 5) b_256_4_1 rfl rfl ?_
  refine ov_iald d_256_5 (zb_96 I) (zs_96 I) (by omega) ?_
  have g1 := t96_3 I
  refine ov_ifge (tgt := 18) d_256_6 (by decide) (by omega) (fun c2 => ?_) (fun c2 => ?_)
  · skip
    refine ov_blk (ls2 := [(0, ov_r 90)]) (st2 := [ov_r 90]) (pc2 := 19) b_256_18_1 rfl rfl ?_
    refine ov_getf (v := ov_r 96) d_256_19 fl_Mo_81 (zb_90 I) (zs_90 I) (congrArg ov_r (rg_90_10 I)) ?_
    refine ov_blk (ls2 := [(0, ov_r 90)]) (st2 := [ov_i 3, ov_r 96]) (pc2 := 23) b_256_22_1 rfl rfl ?_
    refine ov_iald d_256_23 (zb_96 I) (zs_96 I) (by omega) ?_
    exact ov_reti (st := []) d_256_24 rfl ⟨_, rfl, rfl, rfl, (by show 0 ≤ (h 96 3) ∧ (h 96 3) ≤ 30; omega)⟩
  · skip
    refine ov_blk (ls2 := [(0, ov_r 90)]) (st2 := [ov_r 90]) (pc2 := 10) b_256_9_1 rfl rfl ?_
    refine ov_getf (v := ov_r 96) d_256_10 fl_Mo_81 (zb_90 I) (zs_90 I) (congrArg ov_r (rg_90_10 I)) ?_
    refine ov_blk (ls2 := [(0, ov_r 90)]) (st2 := [ov_i 2, ov_r 96]) (pc2 := 14) b_256_13_1 rfl rfl ?_
    refine ov_iald d_256_14 (zb_96 I) (zs_96 I) (by omega) ?_
    have g4 := t96_2 I
    refine ov_goto (tgt := 24) d_256_15 (by decide) ?_
    exact ov_reti (st := []) d_256_24 rfl ⟨_, rfl, rfl, rfl, (by show 0 ≤ (h 96 2) ∧ (h 96 2) ≤ 30; omega)⟩
abbrev P_Mo_slowTime_90 (F : ov_H × ov_Z) (z : ov_Z) (h : ov_H) : Option ov_V → ov_Z → ov_H → Prop := fun r0 z' h' => ∃ r : Int, r0 = some (ov_i r) ∧ z = z' ∧ h = h' ∧ (0 ≤ r ∧ r ≤ 30)
set_option maxHeartbeats 4000000 in
theorem c_Mo_slowTime_90 {u : ov_U} {F : ov_H × ov_Z} {z : ov_Z} {h : ov_H} (d : Nat) (hd : 0 ≤ d) (U : ov_cap u) (I : ov_N F z h) : ov_T u d ov_m291 [ov_r 90] z h (P_Mo_slowTime_90 F z h) := by
  refine ov_en rfl (Nat.le_of_ble_eq_true rfl) ?_
  show ov_R u d ov_m291 0 [(0, ov_r 90)] [] z h (P_Mo_slowTime_90 F z h)
  refine ov_blk (ls2 := [(0, ov_r 90)]) (st2 := [ov_r 90]) (pc2 := 1) b_291_0_1 rfl rfl ?_
  refine ov_getf (v := ov_r 96) d_291_1 fl_Mo_81 (zb_90 I) (zs_90 I) (congrArg ov_r (rg_90_10 I)) ?_
  refine ov_blk (ls2 := [(0, ov_r 90)]) (st2 := [ov_i 4, ov_r 96]) (pc2 := 5) b_291_4_1 rfl rfl ?_
  refine ov_iald d_291_5 (zb_96 I) (zs_96 I) (by omega) ?_
  have g1 := t96_4 I
  refine ov_ifge (tgt := 18) d_291_6 (by decide) (by omega) (fun c2 => ?_) (fun c2 => ?_)
  · skip
    refine ov_blk (ls2 := [(0, ov_r 90)]) (st2 := [ov_r 90]) (pc2 := 19) b_291_18_1 rfl rfl ?_
    refine ov_getf (v := ov_r 96) d_291_19 fl_Mo_81 (zb_90 I) (zs_90 I) (congrArg ov_r (rg_90_10 I)) ?_
    refine ov_blk (ls2 := [(0, ov_r 90)]) (st2 := [ov_i 4, ov_r 96]) (pc2 := 23) b_291_22_1 rfl rfl ?_
    refine ov_iald d_291_23 (zb_96 I) (zs_96 I) (by omega) ?_
    exact ov_reti (st := []) d_291_24 rfl ⟨_, rfl, rfl, rfl, (by show 0 ≤ (h 96 4) ∧ (h 96 4) ≤ 30; omega)⟩
  · skip
    refine ov_blk (ls2 := [(0, ov_r 90)]) (st2 := [ov_r 90]) (pc2 := 10) b_291_9_1 rfl rfl ?_
    refine ov_getf (v := ov_r 96) d_291_10 fl_Mo_81 (zb_90 I) (zs_90 I) (congrArg ov_r (rg_90_10 I)) ?_
    refine ov_blk (ls2 := [(0, ov_r 90)]) (st2 := [ov_i 2, ov_r 96]) (pc2 := 14) b_291_13_1 rfl rfl ?_
    refine ov_iald d_291_14 (zb_96 I) (zs_96 I) (by omega) ?_
    have g4 := t96_2 I
    refine ov_goto (tgt := 24) d_291_15 (by decide) ?_
    exact ov_reti (st := []) d_291_24 rfl ⟨_, rfl, rfl, rfl, (by show 0 ≤ (h 96 2) ∧ (h 96 2) ≤ 30; omega)⟩
abbrev P_Mo_light_90 (F : ov_H × ov_Z) (z : ov_Z) (h : ov_H) (x : Int) (y : Int) (w : Int) : Option ov_V → ov_Z → ov_H → Prop := fun r0 z' h' => ∃ r : Int, r0 = some (ov_i r) ∧ ov_N F z' h' ∧ (-2147483648 ≤ r ∧ r ≤ 2147483647 ∧ (h' 90 2) = (h 90 2) ∧ (h' 90 3) = (h 90 3) ∧ (h' 90 7) = (h 90 7) ∧ (h' 90 8) = (h 90 8) ∧ (h' 90 13) = (h 90 13) ∧ (h' 90 20) = (h 90 20) ∧ (h' 90 22) = (h 90 22) ∧ (h' 90 25) = (h 90 25) ∧ (h' 90 26) = (h 90 26) ∧ (h' 90 27) = (h 90 27) ∧ (h' 90 28) = (h 90 28) ∧ (h' 90 29) = (h 90 29) ∧ (h' 90 30) = (h 90 30) ∧ (h' 90 34) = (h 90 34) ∧ (h' 90 35) = (h 90 35) ∧ (h' 90 37) = (h 90 37)) ∧ h' 92 = h 92 ∧ h' 93 = h 93 ∧ h' 94 = h 94 ∧ h' 96 = h 96 ∧ h' 97 = h 97 ∧ h' 98 = h 98 ∧ h' 99 = h 99 ∧ h' 100 = h 100 ∧ h' 103 = h 103 ∧ h' 105 = h 105 ∧ h' 106 = h 106 ∧ h' 109 = h 109 ∧ h' 114 = h 114
set_option maxHeartbeats 4000000 in
theorem c_Mo_light_90 {u : ov_U} {F : ov_H × ov_Z} {z : ov_Z} {h : ov_H} (d : Nat) (hd : 2 ≤ d) (U : ov_cap u) (I : ov_N F z h) (x : Int) (y : Int) (w : Int) (g_x : ov_g x) (g_y : ov_g y) (g_w : ov_g w) : ov_T u d ov_m239 [ov_r 90, ov_i x, ov_i y, ov_i w] z h (P_Mo_light_90 F z h x y w) := by
  refine ov_en rfl (Nat.le_of_ble_eq_true rfl) ?_
  show ov_R u d ov_m239 0 [(0, ov_r 90), (1, ov_i x), (2, ov_i y), (3, ov_i w)] [] z h (P_Mo_light_90 F z h x y w)
  refine ov_blk (ls2 := [(0, ov_r 90), (1, ov_i x), (2, ov_i y), (3, ov_i w)]) (st2 := [ov_i 0, ov_r 90]) (pc2 := 2) b_239_0_2 rfl rfl ?_
  refine ov_putf (x := 0) d_239_2 fl_Mo_1 (zb_90 I) (zs_90 I) rfl nk_0 rfl ?_
  have I1 := up_90_0 (x := 0) I (by omega)
  refine ov_blk (ls2 := [(0, ov_r 90), (1, ov_i x), (2, ov_i y), (3, ov_i w)]) (st2 := [ov_i y, ov_i x, ov_r 90]) (pc2 := 8) b_239_5_3 rfl rfl ?_
  refine ov_cV (as := [ov_i x, ov_i y]) (st := []) (d2 := d - 1) d_239_8 lk_Mo_296 rfl (Nat.le_of_ble_eq_true rfl) (c := 1) (zb_90 I1) (zs_90 I1) ⟨by decide, rfl⟩ (by omega) (c_Mo_isCorner_90 (d - 1) (by omega) U I1 x y (by omega) (by omega)) ?_
  rintro _ _ _ ⟨v3, rfl, rfl, rfl, f2⟩
  show ov_R u d ov_m239 11 [(0, ov_r 90), (1, ov_i x), (2, ov_i y), (3, ov_i w)] [ov_i v3] z (ov_up h 90 0 0) (P_Mo_light_90 F z h x y w)
  have f4 : (v3 = 0 ∨ v3 = 1) ∧ (v3 = 1 → 0 ≤ x ∧ x ≤ 5 ∧ 0 ≤ y ∧ y ≤ 8 ∧ x < (h 96 0) ∧ y < (h 96 1)) := f2
  clear f2
  refine ov_ifeq (tgt := 37) d_239_11 (by decide) (by omega) (fun c5 => ?_) (fun c5 => ?_)
  · skip
    refine ov_blk (ls2 := [(0, ov_r 90), (1, ov_i x), (2, ov_i y), (3, ov_i w)]) (st2 := [ov_i (-1)]) (pc2 := 38) b_239_37_1 rfl rfl ?_
    exact ov_reti (st := []) d_239_38 rfl ⟨_, rfl, I1, (by show -2147483648 ≤ (-1) ∧ (-1) ≤ 2147483647 ∧ (h 90 2) = (h 90 2) ∧ (h 90 3) = (h 90 3) ∧ (h 90 7) = (h 90 7) ∧ (h 90 8) = (h 90 8) ∧ (h 90 13) = (h 90 13) ∧ (h 90 20) = (h 90 20) ∧ (h 90 22) = (h 90 22) ∧ (h 90 25) = (h 90 25) ∧ (h 90 26) = (h 90 26) ∧ (h 90 27) = (h 90 27) ∧ (h 90 28) = (h 90 28) ∧ (h 90 29) = (h 90 29) ∧ (h 90 30) = (h 90 30) ∧ (h 90 34) = (h 90 34) ∧ (h 90 35) = (h 90 35) ∧ (h 90 37) = (h 90 37); omega), rfl, rfl, rfl, rfl, rfl, rfl, rfl, rfl, rfl, rfl, rfl, rfl, rfl⟩
  · skip
    refine ov_blk (ls2 := [(0, ov_r 90), (1, ov_i x), (2, ov_i y), (3, ov_i w)]) (st2 := [ov_i 5, ov_i 0, ov_i w]) (pc2 := 17) b_239_14_3 rfl rfl ?_
    refine ov_cS (as := [ov_i w, ov_i 0, ov_i 5]) (st := []) (d2 := d - 1) d_239_17 lk_Mo_299 rfl (Nat.le_of_ble_eq_true rfl) (by omega) (c_Mo_within (d - 1) (by omega) U I1 w 0 5 (by omega) (by omega) (by omega)) ?_
    rintro _ _ _ ⟨v7, rfl, rfl, rfl, f6⟩
    show ov_R u d ov_m239 20 [(0, ov_r 90), (1, ov_i x), (2, ov_i y), (3, ov_i w)] [ov_i v7] z (ov_up h 90 0 0) (P_Mo_light_90 F z h x y w)
    have f8 : (v7 = 0 ∨ v7 = 1) ∧ (v7 = 1 → (0 : Int) ≤ w ∧ w ≤ (5 : Int)) ∧ (v7 = 0 → w < (0 : Int) ∨ (5 : Int) < w) := f6
    clear f6
    refine ov_ifeq (tgt := 37) d_239_20 (by decide) (by omega) (fun c9 => ?_) (fun c9 => ?_)
    · skip
      refine ov_blk (ls2 := [(0, ov_r 90), (1, ov_i x), (2, ov_i y), (3, ov_i w)]) (st2 := [ov_i (-1)]) (pc2 := 38) b_239_37_1 rfl rfl ?_
      exact ov_reti (st := []) d_239_38 rfl ⟨_, rfl, I1, (by show -2147483648 ≤ (-1) ∧ (-1) ≤ 2147483647 ∧ (h 90 2) = (h 90 2) ∧ (h 90 3) = (h 90 3) ∧ (h 90 7) = (h 90 7) ∧ (h 90 8) = (h 90 8) ∧ (h 90 13) = (h 90 13) ∧ (h 90 20) = (h 90 20) ∧ (h 90 22) = (h 90 22) ∧ (h 90 25) = (h 90 25) ∧ (h 90 26) = (h 90 26) ∧ (h 90 27) = (h 90 27) ∧ (h 90 28) = (h 90 28) ∧ (h 90 29) = (h 90 29) ∧ (h 90 30) = (h 90 30) ∧ (h 90 34) = (h 90 34) ∧ (h 90 35) = (h 90 35) ∧ (h 90 37) = (h 90 37); omega), rfl, rfl, rfl, rfl, rfl, rfl, rfl, rfl, rfl, rfl, rfl, rfl, rfl⟩
    · skip
      refine ov_blk (ls2 := [(0, ov_r 90), (1, ov_i x), (2, ov_i y), (3, ov_i w)]) (st2 := [ov_i 5, ov_i w]) (pc2 := 25) b_239_23_2 rfl rfl ?_
      refine ov_icge (tgt := 39) d_239_25 (by decide) (by omega) (by omega) (fun c10 => ?_) (fun c10 => ?_)
      · skip
        refine ov_blk (ls2 := [(0, ov_r 90), (1, ov_i x), (2, ov_i y), (3, ov_i w)]) (st2 := [ov_i 5, ov_i w]) (pc2 := 41) b_239_39_2 rfl rfl ?_
        refine ov_icne (tgt := 60) d_239_41 (by decide) (by omega) (by omega) (fun c11 => ?_) (fun c11 => ?_)
        · skip
          refine ov_blk (ls2 := [(0, ov_r 90), (1, ov_i x), (2, ov_i y), (3, ov_i w)]) (st2 := [ov_i w]) (pc2 := 61) b_239_60_1 rfl rfl ?_
          refine ov_ifne (tgt := 73) d_239_61 (by decide) (by omega) (fun c12 => ?_) (fun c12 => ?_)
          · skip
            refine ov_blk (ls2 := [(0, ov_r 90), (1, ov_i x), (2, ov_i y), (3, ov_i w)]) (st2 := [ov_i 4, ov_i w]) (pc2 := 75) b_239_73_2 rfl rfl ?_
            refine ov_icge (tgt := 88) d_239_75 (by decide) (by omega) (by omega) (fun c13 => ?_) (fun c13 => ?_)
            · skip
              refine ov_blk (ls2 := [(0, ov_r 90), (1, ov_i x), (2, ov_i y), (3, ov_i w)]) (st2 := [ov_i y, ov_i x, ov_r 90]) (pc2 := 91) b_239_88_3 rfl rfl ?_
              refine ov_cV (as := [ov_i x, ov_i y]) (st := []) (d2 := d - 1) d_239_91 lk_Mo_302 rfl (Nat.le_of_ble_eq_true rfl) (c := 1) (zb_90 I1) (zs_90 I1) ⟨by decide, rfl⟩ (by omega) (c_Mo_isKnown_90 (d - 1) (by omega) U I1 x y (by omega) (by omega) (by omega)) ?_
              rintro _ _ _ ⟨v15, rfl, rfl, rfl, f14⟩
              show ov_R u d ov_m239 94 [(0, ov_r 90), (1, ov_i x), (2, ov_i y), (3, ov_i w)] [ov_i v15] z (ov_up h 90 0 0) (P_Mo_light_90 F z h x y w)
              have f16 : (v15 = 0 ∨ v15 = 1) ∧ (v15 = 1 → (h 96 (10 + 4 * (6 * y + x))) = 2) := f14
              clear f14
              refine ov_ifeq (tgt := 101) d_239_94 (by decide) (by omega) (fun c17 => ?_) (fun c17 => ?_)
              · skip
                refine ov_blk (ls2 := [(0, ov_r 90), (1, ov_i x), (2, ov_i y), (3, ov_i w)]) (st2 := [ov_i 0]) (pc2 := 102) b_239_101_1 rfl rfl ?_
                exact ov_reti (st := []) d_239_102 rfl ⟨_, rfl, I1, (by show -2147483648 ≤ 0 ∧ 0 ≤ 2147483647 ∧ (h 90 2) = (h 90 2) ∧ (h 90 3) = (h 90 3) ∧ (h 90 7) = (h 90 7) ∧ (h 90 8) = (h 90 8) ∧ (h 90 13) = (h 90 13) ∧ (h 90 20) = (h 90 20) ∧ (h 90 22) = (h 90 22) ∧ (h 90 25) = (h 90 25) ∧ (h 90 26) = (h 90 26) ∧ (h 90 27) = (h 90 27) ∧ (h 90 28) = (h 90 28) ∧ (h 90 29) = (h 90 29) ∧ (h 90 30) = (h 90 30) ∧ (h 90 34) = (h 90 34) ∧ (h 90 35) = (h 90 35) ∧ (h 90 37) = (h 90 37); omega), rfl, rfl, rfl, rfl, rfl, rfl, rfl, rfl, rfl, rfl, rfl, rfl, rfl⟩
              · skip
                refine ov_blk (ls2 := [(0, ov_r 90), (1, ov_i x), (2, ov_i y), (3, ov_i w)]) (st2 := [ov_i 1]) (pc2 := 98) b_239_97_1 rfl rfl ?_
                refine ov_goto (tgt := 102) d_239_98 (by decide) ?_
                exact ov_reti (st := []) d_239_102 rfl ⟨_, rfl, I1, (by show -2147483648 ≤ 1 ∧ 1 ≤ 2147483647 ∧ (h 90 2) = (h 90 2) ∧ (h 90 3) = (h 90 3) ∧ (h 90 7) = (h 90 7) ∧ (h 90 8) = (h 90 8) ∧ (h 90 13) = (h 90 13) ∧ (h 90 20) = (h 90 20) ∧ (h 90 22) = (h 90 22) ∧ (h 90 25) = (h 90 25) ∧ (h 90 26) = (h 90 26) ∧ (h 90 27) = (h 90 27) ∧ (h 90 28) = (h 90 28) ∧ (h 90 29) = (h 90 29) ∧ (h 90 30) = (h 90 30) ∧ (h 90 34) = (h 90 34) ∧ (h 90 35) = (h 90 35) ∧ (h 90 37) = (h 90 37); omega), rfl, rfl, rfl, rfl, rfl, rfl, rfl, rfl, rfl, rfl, rfl, rfl, rfl⟩
            · skip
              refine ov_blk (ls2 := [(0, ov_r 90), (1, ov_i x), (2, ov_i y), (3, ov_i w)]) (st2 := [ov_i w, ov_i y, ov_i x, ov_r 90]) (pc2 := 82) b_239_78_4 rfl rfl ?_
              refine ov_cV (as := [ov_i x, ov_i y, ov_i w]) (st := []) (d2 := d - 1) d_239_82 lk_Mo_289 rfl (Nat.le_of_ble_eq_true rfl) (c := 1) (zb_90 I1) (zs_90 I1) ⟨by decide, rfl⟩ (by omega) (c_Mo_lightAt_90 (d - 1) (by omega) U I1 x y w (by omega) (by omega) (by omega) (by omega) (by omega)) ?_
              rintro _ _ _ ⟨v19, rfl, rfl, rfl, f18⟩
              show ov_R u d ov_m239 85 [(0, ov_r 90), (1, ov_i x), (2, ov_i y), (3, ov_i w)] [ov_i v19] z (ov_up h 90 0 0) (P_Mo_light_90 F z h x y w)
              have f20 : v19 = (h 96 (10 + 4 * (6 * y + x) + w)) ∧ (w = 1 → 0 ≤ v19 ∧ v19 ≤ 60) ∧ (w = 2 → 0 ≤ v19 ∧ v19 ≤ 59) ∧ (w = 3 → 0 ≤ v19 ∧ v19 ≤ 60) := f18
              clear f18
              refine ov_goto (tgt := 102) d_239_85 (by decide) ?_
              exact ov_reti (st := []) d_239_102 rfl ⟨_, rfl, I1, (by show -2147483648 ≤ v19 ∧ v19 ≤ 2147483647 ∧ (h 90 2) = (h 90 2) ∧ (h 90 3) = (h 90 3) ∧ (h 90 7) = (h 90 7) ∧ (h 90 8) = (h 90 8) ∧ (h 90 13) = (h 90 13) ∧ (h 90 20) = (h 90 20) ∧ (h 90 22) = (h 90 22) ∧ (h 90 25) = (h 90 25) ∧ (h 90 26) = (h 90 26) ∧ (h 90 27) = (h 90 27) ∧ (h 90 28) = (h 90 28) ∧ (h 90 29) = (h 90 29) ∧ (h 90 30) = (h 90 30) ∧ (h 90 34) = (h 90 34) ∧ (h 90 35) = (h 90 35) ∧ (h 90 37) = (h 90 37); omega), rfl, rfl, rfl, rfl, rfl, rfl, rfl, rfl, rfl, rfl, rfl, rfl, rfl⟩
          · skip
            refine ov_blk (ls2 := [(0, ov_r 90), (1, ov_i x), (2, ov_i y), (3, ov_i w)]) (st2 := [ov_i y, ov_i x, ov_r 90]) (pc2 := 67) b_239_64_3 rfl rfl ?_
            refine ov_cV (as := [ov_i x, ov_i y]) (st := []) (d2 := d - 1) d_239_67 lk_Mo_282 rfl (Nat.le_of_ble_eq_true rfl) (c := 1) (zb_90 I1) (zs_90 I1) ⟨by decide, rfl⟩ (by omega) (c_Mo_kindAt_90 (d - 1) (by omega) U I1 x y (by omega) (by omega) (by omega)) ?_
            rintro _ _ _ ⟨v22, rfl, rfl, rfl, f21⟩
            show ov_R u d ov_m239 70 [(0, ov_r 90), (1, ov_i x), (2, ov_i y), (3, ov_i w)] [ov_i v22] z (ov_up h 90 0 0) (P_Mo_light_90 F z h x y w)
            have f23 : v22 = (h 96 (10 + 4 * (6 * y + x))) - 1 ∧ -1 ≤ v22 ∧ v22 ≤ 3 := f21
            clear f21
            refine ov_goto (tgt := 102) d_239_70 (by decide) ?_
            exact ov_reti (st := []) d_239_102 rfl ⟨_, rfl, I1, (by show -2147483648 ≤ v22 ∧ v22 ≤ 2147483647 ∧ (h 90 2) = (h 90 2) ∧ (h 90 3) = (h 90 3) ∧ (h 90 7) = (h 90 7) ∧ (h 90 8) = (h 90 8) ∧ (h 90 13) = (h 90 13) ∧ (h 90 20) = (h 90 20) ∧ (h 90 22) = (h 90 22) ∧ (h 90 25) = (h 90 25) ∧ (h 90 26) = (h 90 26) ∧ (h 90 27) = (h 90 27) ∧ (h 90 28) = (h 90 28) ∧ (h 90 29) = (h 90 29) ∧ (h 90 30) = (h 90 30) ∧ (h 90 34) = (h 90 34) ∧ (h 90 35) = (h 90 35) ∧ (h 90 37) = (h 90 37); omega), rfl, rfl, rfl, rfl, rfl, rfl, rfl, rfl, rfl, rfl, rfl, rfl, rfl⟩
        · skip
          refine ov_blk (ls2 := [(0, ov_r 90), (1, ov_i x), (2, ov_i y), (3, ov_i w)]) (st2 := [ov_r 90]) (pc2 := 45) b_239_44_1 rfl rfl ?_
          refine ov_getf (v := ov_r 96) d_239_45 fl_Mo_81 (zb_90 I1) (zs_90 I1) (congrArg ov_r (rg_90_10 I1)) ?_
          refine ov_blk (ls2 := [(0, ov_r 90), (1, ov_i x), (2, ov_i y), (3, ov_i w)]) (st2 := [ov_i ((226 + (6 * y)) + x), ov_r 96]) (pc2 := 58) b_239_48_7 rfl rfl ?_
          refine ov_iald d_239_58 (zb_96 I1) (zs_96 I1) (by omega) ?_
          show ov_R u d ov_m239 59 [(0, ov_r 90), (1, ov_i x), (2, ov_i y), (3, ov_i w)] [ov_i (h 96 ((226 + (6 * y)) + x))] z (ov_up h 90 0 0) (P_Mo_light_90 F z h x y w)
          have g24 := g96 I ((226 + (6 * y)) + x)
          exact ov_reti (st := []) d_239_59 rfl ⟨_, rfl, I1, (by show -2147483648 ≤ (h 96 ((226 + (6 * y)) + x)) ∧ (h 96 ((226 + (6 * y)) + x)) ≤ 2147483647 ∧ (h 90 2) = (h 90 2) ∧ (h 90 3) = (h 90 3) ∧ (h 90 7) = (h 90 7) ∧ (h 90 8) = (h 90 8) ∧ (h 90 13) = (h 90 13) ∧ (h 90 20) = (h 90 20) ∧ (h 90 22) = (h 90 22) ∧ (h 90 25) = (h 90 25) ∧ (h 90 26) = (h 90 26) ∧ (h 90 27) = (h 90 27) ∧ (h 90 28) = (h 90 28) ∧ (h 90 29) = (h 90 29) ∧ (h 90 30) = (h 90 30) ∧ (h 90 34) = (h 90 34) ∧ (h 90 35) = (h 90 35) ∧ (h 90 37) = (h 90 37); omega), rfl, rfl, rfl, rfl, rfl, rfl, rfl, rfl, rfl, rfl, rfl, rfl, rfl⟩
      · skip
        refine ov_blk (ls2 := [(0, ov_r 90), (1, ov_i x), (2, ov_i y), (3, ov_i w)]) (st2 := [ov_i y, ov_i x, ov_r 90]) (pc2 := 31) b_239_28_3 rfl rfl ?_
        refine ov_cV (as := [ov_i x, ov_i y]) (st := []) (d2 := d - 1) d_239_31 lk_Mo_282 rfl (Nat.le_of_ble_eq_true rfl) (c := 1) (zb_90 I1) (zs_90 I1) ⟨by decide, rfl⟩ (by omega) (c_Mo_kindAt_90 (d - 1) (by omega) U I1 x y (by omega) (by omega) (by omega)) ?_
        rintro _ _ _ ⟨v26, rfl, rfl, rfl, f25⟩
        show ov_R u d ov_m239 34 [(0, ov_r 90), (1, ov_i x), (2, ov_i y), (3, ov_i w)] [ov_i v26] z (ov_up h 90 0 0) (P_Mo_light_90 F z h x y w)
        have f27 : v26 = (h 96 (10 + 4 * (6 * y + x))) - 1 ∧ -1 ≤ v26 ∧ v26 ≤ 3 := f25
        clear f25
        refine ov_ifge (tgt := 39) d_239_34 (by decide) (by omega) (fun c28 => ?_) (fun c28 => ?_)
        · skip
          refine ov_blk (ls2 := [(0, ov_r 90), (1, ov_i x), (2, ov_i y), (3, ov_i w)]) (st2 := [ov_i 5, ov_i w]) (pc2 := 41) b_239_39_2 rfl rfl ?_
          refine ov_icne (tgt := 60) d_239_41 (by decide) (by omega) (by omega) (fun c29 => ?_) (fun c29 => ?_)
          · skip
            refine ov_blk (ls2 := [(0, ov_r 90), (1, ov_i x), (2, ov_i y), (3, ov_i w)]) (st2 := [ov_i w]) (pc2 := 61) b_239_60_1 rfl rfl ?_
            refine ov_ifne (tgt := 73) d_239_61 (by decide) (by omega) (fun c30 => ?_) (fun c30 => ?_)
            · skip
              refine ov_blk (ls2 := [(0, ov_r 90), (1, ov_i x), (2, ov_i y), (3, ov_i w)]) (st2 := [ov_i 4, ov_i w]) (pc2 := 75) b_239_73_2 rfl rfl ?_
              refine ov_icge (tgt := 88) d_239_75 (by decide) (by omega) (by omega) (fun c31 => ?_) (fun c31 => ?_)
              · skip
                refine ov_blk (ls2 := [(0, ov_r 90), (1, ov_i x), (2, ov_i y), (3, ov_i w)]) (st2 := [ov_i y, ov_i x, ov_r 90]) (pc2 := 91) b_239_88_3 rfl rfl ?_
                refine ov_cV (as := [ov_i x, ov_i y]) (st := []) (d2 := d - 1) d_239_91 lk_Mo_302 rfl (Nat.le_of_ble_eq_true rfl) (c := 1) (zb_90 I1) (zs_90 I1) ⟨by decide, rfl⟩ (by omega) (c_Mo_isKnown_90 (d - 1) (by omega) U I1 x y (by omega) (by omega) (by omega)) ?_
                rintro _ _ _ ⟨v33, rfl, rfl, rfl, f32⟩
                show ov_R u d ov_m239 94 [(0, ov_r 90), (1, ov_i x), (2, ov_i y), (3, ov_i w)] [ov_i v33] z (ov_up h 90 0 0) (P_Mo_light_90 F z h x y w)
                have f34 : (v33 = 0 ∨ v33 = 1) ∧ (v33 = 1 → (h 96 (10 + 4 * (6 * y + x))) = 2) := f32
                clear f32
                refine ov_ifeq (tgt := 101) d_239_94 (by decide) (by omega) (fun c35 => ?_) (fun c35 => ?_)
                · skip
                  refine ov_blk (ls2 := [(0, ov_r 90), (1, ov_i x), (2, ov_i y), (3, ov_i w)]) (st2 := [ov_i 0]) (pc2 := 102) b_239_101_1 rfl rfl ?_
                  exact ov_reti (st := []) d_239_102 rfl ⟨_, rfl, I1, (by show -2147483648 ≤ 0 ∧ 0 ≤ 2147483647 ∧ (h 90 2) = (h 90 2) ∧ (h 90 3) = (h 90 3) ∧ (h 90 7) = (h 90 7) ∧ (h 90 8) = (h 90 8) ∧ (h 90 13) = (h 90 13) ∧ (h 90 20) = (h 90 20) ∧ (h 90 22) = (h 90 22) ∧ (h 90 25) = (h 90 25) ∧ (h 90 26) = (h 90 26) ∧ (h 90 27) = (h 90 27) ∧ (h 90 28) = (h 90 28) ∧ (h 90 29) = (h 90 29) ∧ (h 90 30) = (h 90 30) ∧ (h 90 34) = (h 90 34) ∧ (h 90 35) = (h 90 35) ∧ (h 90 37) = (h 90 37); omega), rfl, rfl, rfl, rfl, rfl, rfl, rfl, rfl, rfl, rfl, rfl, rfl, rfl⟩
                · skip
                  refine ov_blk (ls2 := [(0, ov_r 90), (1, ov_i x), (2, ov_i y), (3, ov_i w)]) (st2 := [ov_i 1]) (pc2 := 98) b_239_97_1 rfl rfl ?_
                  refine ov_goto (tgt := 102) d_239_98 (by decide) ?_
                  exact ov_reti (st := []) d_239_102 rfl ⟨_, rfl, I1, (by show -2147483648 ≤ 1 ∧ 1 ≤ 2147483647 ∧ (h 90 2) = (h 90 2) ∧ (h 90 3) = (h 90 3) ∧ (h 90 7) = (h 90 7) ∧ (h 90 8) = (h 90 8) ∧ (h 90 13) = (h 90 13) ∧ (h 90 20) = (h 90 20) ∧ (h 90 22) = (h 90 22) ∧ (h 90 25) = (h 90 25) ∧ (h 90 26) = (h 90 26) ∧ (h 90 27) = (h 90 27) ∧ (h 90 28) = (h 90 28) ∧ (h 90 29) = (h 90 29) ∧ (h 90 30) = (h 90 30) ∧ (h 90 34) = (h 90 34) ∧ (h 90 35) = (h 90 35) ∧ (h 90 37) = (h 90 37); omega), rfl, rfl, rfl, rfl, rfl, rfl, rfl, rfl, rfl, rfl, rfl, rfl, rfl⟩
              · skip
                refine ov_blk (ls2 := [(0, ov_r 90), (1, ov_i x), (2, ov_i y), (3, ov_i w)]) (st2 := [ov_i w, ov_i y, ov_i x, ov_r 90]) (pc2 := 82) b_239_78_4 rfl rfl ?_
                refine ov_cV (as := [ov_i x, ov_i y, ov_i w]) (st := []) (d2 := d - 1) d_239_82 lk_Mo_289 rfl (Nat.le_of_ble_eq_true rfl) (c := 1) (zb_90 I1) (zs_90 I1) ⟨by decide, rfl⟩ (by omega) (c_Mo_lightAt_90 (d - 1) (by omega) U I1 x y w (by omega) (by omega) (by omega) (by omega) (by omega)) ?_
                rintro _ _ _ ⟨v37, rfl, rfl, rfl, f36⟩
                show ov_R u d ov_m239 85 [(0, ov_r 90), (1, ov_i x), (2, ov_i y), (3, ov_i w)] [ov_i v37] z (ov_up h 90 0 0) (P_Mo_light_90 F z h x y w)
                have f38 : v37 = (h 96 (10 + 4 * (6 * y + x) + w)) ∧ (w = 1 → 0 ≤ v37 ∧ v37 ≤ 60) ∧ (w = 2 → 0 ≤ v37 ∧ v37 ≤ 59) ∧ (w = 3 → 0 ≤ v37 ∧ v37 ≤ 60) := f36
                clear f36
                refine ov_goto (tgt := 102) d_239_85 (by decide) ?_
                exact ov_reti (st := []) d_239_102 rfl ⟨_, rfl, I1, (by show -2147483648 ≤ v37 ∧ v37 ≤ 2147483647 ∧ (h 90 2) = (h 90 2) ∧ (h 90 3) = (h 90 3) ∧ (h 90 7) = (h 90 7) ∧ (h 90 8) = (h 90 8) ∧ (h 90 13) = (h 90 13) ∧ (h 90 20) = (h 90 20) ∧ (h 90 22) = (h 90 22) ∧ (h 90 25) = (h 90 25) ∧ (h 90 26) = (h 90 26) ∧ (h 90 27) = (h 90 27) ∧ (h 90 28) = (h 90 28) ∧ (h 90 29) = (h 90 29) ∧ (h 90 30) = (h 90 30) ∧ (h 90 34) = (h 90 34) ∧ (h 90 35) = (h 90 35) ∧ (h 90 37) = (h 90 37); omega), rfl, rfl, rfl, rfl, rfl, rfl, rfl, rfl, rfl, rfl, rfl, rfl, rfl⟩
            · skip
              refine ov_blk (ls2 := [(0, ov_r 90), (1, ov_i x), (2, ov_i y), (3, ov_i w)]) (st2 := [ov_i y, ov_i x, ov_r 90]) (pc2 := 67) b_239_64_3 rfl rfl ?_
              refine ov_cV (as := [ov_i x, ov_i y]) (st := []) (d2 := d - 1) d_239_67 lk_Mo_282 rfl (Nat.le_of_ble_eq_true rfl) (c := 1) (zb_90 I1) (zs_90 I1) ⟨by decide, rfl⟩ (by omega) (c_Mo_kindAt_90 (d - 1) (by omega) U I1 x y (by omega) (by omega) (by omega)) ?_
              rintro _ _ _ ⟨v40, rfl, rfl, rfl, f39⟩
              show ov_R u d ov_m239 70 [(0, ov_r 90), (1, ov_i x), (2, ov_i y), (3, ov_i w)] [ov_i v40] z (ov_up h 90 0 0) (P_Mo_light_90 F z h x y w)
              have f41 : v40 = (h 96 (10 + 4 * (6 * y + x))) - 1 ∧ -1 ≤ v40 ∧ v40 ≤ 3 := f39
              clear f39
              refine ov_goto (tgt := 102) d_239_70 (by decide) ?_
              exact ov_reti (st := []) d_239_102 rfl ⟨_, rfl, I1, (by show -2147483648 ≤ v40 ∧ v40 ≤ 2147483647 ∧ (h 90 2) = (h 90 2) ∧ (h 90 3) = (h 90 3) ∧ (h 90 7) = (h 90 7) ∧ (h 90 8) = (h 90 8) ∧ (h 90 13) = (h 90 13) ∧ (h 90 20) = (h 90 20) ∧ (h 90 22) = (h 90 22) ∧ (h 90 25) = (h 90 25) ∧ (h 90 26) = (h 90 26) ∧ (h 90 27) = (h 90 27) ∧ (h 90 28) = (h 90 28) ∧ (h 90 29) = (h 90 29) ∧ (h 90 30) = (h 90 30) ∧ (h 90 34) = (h 90 34) ∧ (h 90 35) = (h 90 35) ∧ (h 90 37) = (h 90 37); omega), rfl, rfl, rfl, rfl, rfl, rfl, rfl, rfl, rfl, rfl, rfl, rfl, rfl⟩
          · skip
            refine ov_blk (ls2 := [(0, ov_r 90), (1, ov_i x), (2, ov_i y), (3, ov_i w)]) (st2 := [ov_r 90]) (pc2 := 45) b_239_44_1 rfl rfl ?_
            refine ov_getf (v := ov_r 96) d_239_45 fl_Mo_81 (zb_90 I1) (zs_90 I1) (congrArg ov_r (rg_90_10 I1)) ?_
            refine ov_blk (ls2 := [(0, ov_r 90), (1, ov_i x), (2, ov_i y), (3, ov_i w)]) (st2 := [ov_i ((226 + (6 * y)) + x), ov_r 96]) (pc2 := 58) b_239_48_7 rfl rfl ?_
            refine ov_iald d_239_58 (zb_96 I1) (zs_96 I1) (by omega) ?_
            show ov_R u d ov_m239 59 [(0, ov_r 90), (1, ov_i x), (2, ov_i y), (3, ov_i w)] [ov_i (h 96 ((226 + (6 * y)) + x))] z (ov_up h 90 0 0) (P_Mo_light_90 F z h x y w)
            have g42 := g96 I ((226 + (6 * y)) + x)
            exact ov_reti (st := []) d_239_59 rfl ⟨_, rfl, I1, (by show -2147483648 ≤ (h 96 ((226 + (6 * y)) + x)) ∧ (h 96 ((226 + (6 * y)) + x)) ≤ 2147483647 ∧ (h 90 2) = (h 90 2) ∧ (h 90 3) = (h 90 3) ∧ (h 90 7) = (h 90 7) ∧ (h 90 8) = (h 90 8) ∧ (h 90 13) = (h 90 13) ∧ (h 90 20) = (h 90 20) ∧ (h 90 22) = (h 90 22) ∧ (h 90 25) = (h 90 25) ∧ (h 90 26) = (h 90 26) ∧ (h 90 27) = (h 90 27) ∧ (h 90 28) = (h 90 28) ∧ (h 90 29) = (h 90 29) ∧ (h 90 30) = (h 90 30) ∧ (h 90 34) = (h 90 34) ∧ (h 90 35) = (h 90 35) ∧ (h 90 37) = (h 90 37); omega), rfl, rfl, rfl, rfl, rfl, rfl, rfl, rfl, rfl, rfl, rfl, rfl, rfl⟩
        · skip
          refine ov_blk (ls2 := [(0, ov_r 90), (1, ov_i x), (2, ov_i y), (3, ov_i w)]) (st2 := [ov_i (-1)]) (pc2 := 38) b_239_37_1 rfl rfl ?_
          exact ov_reti (st := []) d_239_38 rfl ⟨_, rfl, I1, (by show -2147483648 ≤ (-1) ∧ (-1) ≤ 2147483647 ∧ (h 90 2) = (h 90 2) ∧ (h 90 3) = (h 90 3) ∧ (h 90 7) = (h 90 7) ∧ (h 90 8) = (h 90 8) ∧ (h 90 13) = (h 90 13) ∧ (h 90 20) = (h 90 20) ∧ (h 90 22) = (h 90 22) ∧ (h 90 25) = (h 90 25) ∧ (h 90 26) = (h 90 26) ∧ (h 90 27) = (h 90 27) ∧ (h 90 28) = (h 90 28) ∧ (h 90 29) = (h 90 29) ∧ (h 90 30) = (h 90 30) ∧ (h 90 34) = (h 90 34) ∧ (h 90 35) = (h 90 35) ∧ (h 90 37) = (h 90 37); omega), rfl, rfl, rfl, rfl, rfl, rfl, rfl, rfl, rfl, rfl, rfl, rfl, rfl⟩
abbrev P_Mo_mayAsk_90 (F : ov_H × ov_Z) (z : ov_Z) (h : ov_H) (x : Int) (y : Int) (way : Int) (s : Int) : Option ov_V → ov_Z → ov_H → Prop := fun r0 z' h' => ∃ r : Int, r0 = some (ov_i r) ∧ z = z' ∧ h = h' ∧ ((r = 0 ∨ r = 1) ∧ (r = 1 → 0 ≤ x ∧ x ≤ 5 ∧ 0 ≤ y ∧ y ≤ 8 ∧ 0 ≤ way ∧ way ≤ 1 ∧ 0 ≤ s ∧ s ≤ 1000000 ∧ ((way = 0 → x < (h 96 0) - 1) ∧ (¬ way = 0 → y < (h 96 1) - 1)) ∧ (((h 96 (10 + 4 * (6 * y + x))) = 1 ∨ (h 96 (10 + 4 * (6 * y + x))) = 2) → (way = 0 → 0 < (h 96 (10 + 4 * (6 * y + x) + 3))) ∧ (¬ way = 0 → (h 96 (10 + 4 * (6 * y + x) + 3)) < (h 96 (10 + 4 * (6 * y + x) + 1))))))
set_option maxHeartbeats 4000000 in
theorem c_Mo_mayAsk_90 {u : ov_U} {F : ov_H × ov_Z} {z : ov_Z} {h : ov_H} (d : Nat) (hd : 3 ≤ d) (U : ov_cap u) (I : ov_N F z h) (x : Int) (y : Int) (way : Int) (s : Int) (g_x : ov_g x) (g_y : ov_g y) (g_way : ov_g way) (g_s : ov_g s) : ov_T u d ov_m246 [ov_r 90, ov_i x, ov_i y, ov_i way, ov_i s] z h (P_Mo_mayAsk_90 F z h x y way s) := by
  refine ov_en rfl (Nat.le_of_ble_eq_true rfl) ?_
  show ov_R u d ov_m246 0 [(0, ov_r 90), (1, ov_i x), (2, ov_i y), (3, ov_i way), (4, ov_i s)] [] z h (P_Mo_mayAsk_90 F z h x y way s)
  refine ov_blk (ls2 := [(0, ov_r 90), (1, ov_i x), (2, ov_i y), (3, ov_i way), (4, ov_i s)]) (st2 := [ov_i y, ov_i x, ov_r 90]) (pc2 := 3) b_246_0_3 rfl rfl ?_
  refine ov_cV (as := [ov_i x, ov_i y]) (st := []) (d2 := d - 1) d_246_3 lk_Mo_296 rfl (Nat.le_of_ble_eq_true rfl) (c := 1) (zb_90 I) (zs_90 I) ⟨by decide, rfl⟩ (by omega) (c_Mo_isCorner_90 (d - 1) (by omega) U I x y (by omega) (by omega)) ?_
  rintro _ _ _ ⟨v2, rfl, rfl, rfl, f1⟩
  show ov_R u d ov_m246 6 [(0, ov_r 90), (1, ov_i x), (2, ov_i y), (3, ov_i way), (4, ov_i s)] [ov_i v2] z h (P_Mo_mayAsk_90 F z h x y way s)
  have f3 : (v2 = 0 ∨ v2 = 1) ∧ (v2 = 1 → 0 ≤ x ∧ x ≤ 5 ∧ 0 ≤ y ∧ y ≤ 8 ∧ x < (h 96 0) ∧ y < (h 96 1)) := f1
  clear f1
  refine ov_ifeq (tgt := 41) d_246_6 (by decide) (by omega) (fun c4 => ?_) (fun c4 => ?_)
  · skip
    refine ov_blk (ls2 := [(0, ov_r 90), (1, ov_i x), (2, ov_i y), (3, ov_i way), (4, ov_i s)]) (st2 := [ov_i 0]) (pc2 := 42) b_246_41_1 rfl rfl ?_
    exact ov_retz (st := []) d_246_42 rfl (by omega) ⟨_, rfl, rfl, rfl, (by show (0 = 0 ∨ 0 = 1) ∧ (0 = 1 → 0 ≤ x ∧ x ≤ 5 ∧ 0 ≤ y ∧ y ≤ 8 ∧ 0 ≤ way ∧ way ≤ 1 ∧ 0 ≤ s ∧ s ≤ 1000000 ∧ ((way = 0 → x < (h 96 0) - 1) ∧ (¬ way = 0 → y < (h 96 1) - 1)) ∧ (((h 96 (10 + 4 * (6 * y + x))) = 1 ∨ (h 96 (10 + 4 * (6 * y + x))) = 2) → (way = 0 → 0 < (h 96 (10 + 4 * (6 * y + x) + 3))) ∧ (¬ way = 0 → (h 96 (10 + 4 * (6 * y + x) + 3)) < (h 96 (10 + 4 * (6 * y + x) + 1))))); omega)⟩
  · skip
    refine ov_blk (ls2 := [(0, ov_r 90), (1, ov_i x), (2, ov_i y), (3, ov_i way), (4, ov_i s)]) (st2 := [ov_i 1, ov_i 0, ov_i way]) (pc2 := 12) b_246_9_3 rfl rfl ?_
    refine ov_cS (as := [ov_i way, ov_i 0, ov_i 1]) (st := []) (d2 := d - 1) d_246_12 lk_Mo_299 rfl (Nat.le_of_ble_eq_true rfl) (by omega) (c_Mo_within (d - 1) (by omega) U I way 0 1 (by omega) (by omega) (by omega)) ?_
    rintro _ _ _ ⟨v6, rfl, rfl, rfl, f5⟩
    show ov_R u d ov_m246 15 [(0, ov_r 90), (1, ov_i x), (2, ov_i y), (3, ov_i way), (4, ov_i s)] [ov_i v6] z h (P_Mo_mayAsk_90 F z h x y way s)
    have f7 : (v6 = 0 ∨ v6 = 1) ∧ (v6 = 1 → (0 : Int) ≤ way ∧ way ≤ (1 : Int)) ∧ (v6 = 0 → way < (0 : Int) ∨ (1 : Int) < way) := f5
    clear f5
    refine ov_ifeq (tgt := 41) d_246_15 (by decide) (by omega) (fun c8 => ?_) (fun c8 => ?_)
    · skip
      refine ov_blk (ls2 := [(0, ov_r 90), (1, ov_i x), (2, ov_i y), (3, ov_i way), (4, ov_i s)]) (st2 := [ov_i 0]) (pc2 := 42) b_246_41_1 rfl rfl ?_
      exact ov_retz (st := []) d_246_42 rfl (by omega) ⟨_, rfl, rfl, rfl, (by show (0 = 0 ∨ 0 = 1) ∧ (0 = 1 → 0 ≤ x ∧ x ≤ 5 ∧ 0 ≤ y ∧ y ≤ 8 ∧ 0 ≤ way ∧ way ≤ 1 ∧ 0 ≤ s ∧ s ≤ 1000000 ∧ ((way = 0 → x < (h 96 0) - 1) ∧ (¬ way = 0 → y < (h 96 1) - 1)) ∧ (((h 96 (10 + 4 * (6 * y + x))) = 1 ∨ (h 96 (10 + 4 * (6 * y + x))) = 2) → (way = 0 → 0 < (h 96 (10 + 4 * (6 * y + x) + 3))) ∧ (¬ way = 0 → (h 96 (10 + 4 * (6 * y + x) + 3)) < (h 96 (10 + 4 * (6 * y + x) + 1))))); omega)⟩
    · skip
      refine ov_blk (ls2 := [(0, ov_r 90), (1, ov_i x), (2, ov_i y), (3, ov_i way), (4, ov_i s)]) (st2 := [ov_i s, ov_r 90]) (pc2 := 21) b_246_18_2 rfl rfl ?_
      refine ov_cV (as := [ov_i s]) (st := []) (d2 := d - 1) d_246_21 lk_Mo_306 rfl (Nat.le_of_ble_eq_true rfl) (c := 1) (zb_90 I) (zs_90 I) ⟨by decide, rfl⟩ (by omega) (c_Mo_isSecond_90 (d - 1) (by omega) U I s (by omega)) ?_
      rintro _ _ _ ⟨v10, rfl, rfl, rfl, f9⟩
      show ov_R u d ov_m246 24 [(0, ov_r 90), (1, ov_i x), (2, ov_i y), (3, ov_i way), (4, ov_i s)] [ov_i v10] z h (P_Mo_mayAsk_90 F z h x y way s)
      have f11 : (v10 = 0 ∨ v10 = 1) ∧ (v10 = 1 → 0 ≤ s ∧ s ≤ 1000000) := f9
      clear f9
      refine ov_ifeq (tgt := 41) d_246_24 (by decide) (by omega) (fun c12 => ?_) (fun c12 => ?_)
      · skip
        refine ov_blk (ls2 := [(0, ov_r 90), (1, ov_i x), (2, ov_i y), (3, ov_i way), (4, ov_i s)]) (st2 := [ov_i 0]) (pc2 := 42) b_246_41_1 rfl rfl ?_
        exact ov_retz (st := []) d_246_42 rfl (by omega) ⟨_, rfl, rfl, rfl, (by show (0 = 0 ∨ 0 = 1) ∧ (0 = 1 → 0 ≤ x ∧ x ≤ 5 ∧ 0 ≤ y ∧ y ≤ 8 ∧ 0 ≤ way ∧ way ≤ 1 ∧ 0 ≤ s ∧ s ≤ 1000000 ∧ ((way = 0 → x < (h 96 0) - 1) ∧ (¬ way = 0 → y < (h 96 1) - 1)) ∧ (((h 96 (10 + 4 * (6 * y + x))) = 1 ∨ (h 96 (10 + 4 * (6 * y + x))) = 2) → (way = 0 → 0 < (h 96 (10 + 4 * (6 * y + x) + 3))) ∧ (¬ way = 0 → (h 96 (10 + 4 * (6 * y + x) + 3)) < (h 96 (10 + 4 * (6 * y + x) + 1))))); omega)⟩
      · skip
        refine ov_blk (ls2 := [(0, ov_r 90), (1, ov_i x), (2, ov_i y), (3, ov_i way), (4, ov_i s)]) (st2 := [ov_i way, ov_i y, ov_i x, ov_r 90]) (pc2 := 31) b_246_27_4 rfl rfl ?_
        refine ov_cV (as := [ov_i x, ov_i y, ov_i way]) (st := []) (d2 := d - 1) d_246_31 lk_Mo_309 rfl (Nat.le_of_ble_eq_true rfl) (c := 1) (zb_90 I) (zs_90 I) ⟨by decide, rfl⟩ (by omega) (c_Mo_canGo_90 (d - 1) (by omega) U I x y way (by omega) (by omega) (by omega) (by omega) (by omega)) ?_
        rintro _ _ _ ⟨v14, rfl, rfl, rfl, f13⟩
        show ov_R u d ov_m246 34 [(0, ov_r 90), (1, ov_i x), (2, ov_i y), (3, ov_i way), (4, ov_i s)] [ov_i v14] z h (P_Mo_mayAsk_90 F z h x y way s)
        have f15 : (v14 = 0 ∨ v14 = 1) ∧ v14 = ov_cgi (h 96) x y way ∧ (v14 = 1 → ((way = 0 → x < (h 96 0) - 1) ∧ (¬ way = 0 → y < (h 96 1) - 1)) ∧ (((h 96 (10 + 4 * (6 * y + x))) = 1 ∨ (h 96 (10 + 4 * (6 * y + x))) = 2) → (way = 0 → 0 < (h 96 (10 + 4 * (6 * y + x) + 3))) ∧ (¬ way = 0 → (h 96 (10 + 4 * (6 * y + x) + 3)) < (h 96 (10 + 4 * (6 * y + x) + 1))))) := f13
        clear f13
        refine ov_ifeq (tgt := 41) d_246_34 (by decide) (by omega) (fun c16 => ?_) (fun c16 => ?_)
        · skip
          refine ov_blk (ls2 := [(0, ov_r 90), (1, ov_i x), (2, ov_i y), (3, ov_i way), (4, ov_i s)]) (st2 := [ov_i 0]) (pc2 := 42) b_246_41_1 rfl rfl ?_
          exact ov_retz (st := []) d_246_42 rfl (by omega) ⟨_, rfl, rfl, rfl, (by show (0 = 0 ∨ 0 = 1) ∧ (0 = 1 → 0 ≤ x ∧ x ≤ 5 ∧ 0 ≤ y ∧ y ≤ 8 ∧ 0 ≤ way ∧ way ≤ 1 ∧ 0 ≤ s ∧ s ≤ 1000000 ∧ ((way = 0 → x < (h 96 0) - 1) ∧ (¬ way = 0 → y < (h 96 1) - 1)) ∧ (((h 96 (10 + 4 * (6 * y + x))) = 1 ∨ (h 96 (10 + 4 * (6 * y + x))) = 2) → (way = 0 → 0 < (h 96 (10 + 4 * (6 * y + x) + 3))) ∧ (¬ way = 0 → (h 96 (10 + 4 * (6 * y + x) + 3)) < (h 96 (10 + 4 * (6 * y + x) + 1))))); omega)⟩
        · skip
          refine ov_blk (ls2 := [(0, ov_r 90), (1, ov_i x), (2, ov_i y), (3, ov_i way), (4, ov_i s)]) (st2 := [ov_i 1]) (pc2 := 38) b_246_37_1 rfl rfl ?_
          refine ov_goto (tgt := 42) d_246_38 (by decide) ?_
          exact ov_retz (st := []) d_246_42 rfl (by omega) ⟨_, rfl, rfl, rfl, (by show (1 = 0 ∨ 1 = 1) ∧ (1 = 1 → 0 ≤ x ∧ x ≤ 5 ∧ 0 ≤ y ∧ y ≤ 8 ∧ 0 ≤ way ∧ way ≤ 1 ∧ 0 ≤ s ∧ s ≤ 1000000 ∧ ((way = 0 → x < (h 96 0) - 1) ∧ (¬ way = 0 → y < (h 96 1) - 1)) ∧ (((h 96 (10 + 4 * (6 * y + x))) = 1 ∨ (h 96 (10 + 4 * (6 * y + x))) = 2) → (way = 0 → 0 < (h 96 (10 + 4 * (6 * y + x) + 3))) ∧ (¬ way = 0 → (h 96 (10 + 4 * (6 * y + x) + 3)) < (h 96 (10 + 4 * (6 * y + x) + 1))))); omega)⟩
abbrev P_Mo_green_90 (F : ov_H × ov_Z) (z : ov_Z) (h : ov_H) (x : Int) (y : Int) (way : Int) (s : Int) : Option ov_V → ov_Z → ov_H → Prop := fun r0 z' h' => ∃ r : Int, r0 = some (ov_i r) ∧ ov_N F z' h' ∧ (-2147483648 ≤ r ∧ r ≤ 2147483647 ∧ (h' 90 2) = (h 90 2) ∧ (h' 90 3) = (h 90 3) ∧ (h' 90 7) = (h 90 7) ∧ (h' 90 8) = (h 90 8) ∧ (h' 90 13) = (h 90 13) ∧ (h' 90 20) = (h 90 20) ∧ (h' 90 22) = (h 90 22) ∧ (h' 90 25) = (h 90 25) ∧ (h' 90 26) = (h 90 26) ∧ (h' 90 27) = (h 90 27) ∧ (h' 90 28) = (h 90 28) ∧ (h' 90 29) = (h 90 29) ∧ (h' 90 30) = (h 90 30) ∧ (h' 90 34) = (h 90 34) ∧ (h' 90 35) = (h 90 35) ∧ (h' 90 37) = (h 90 37)) ∧ h' 92 = h 92 ∧ h' 93 = h 93 ∧ h' 94 = h 94 ∧ h' 96 = h 96 ∧ h' 97 = h 97 ∧ h' 98 = h 98 ∧ h' 99 = h 99 ∧ h' 100 = h 100 ∧ h' 103 = h 103 ∧ h' 105 = h 105 ∧ h' 106 = h 106 ∧ h' 109 = h 109 ∧ h' 114 = h 114
set_option maxHeartbeats 4000000 in
theorem c_Mo_green_90 {u : ov_U} {F : ov_H × ov_Z} {z : ov_Z} {h : ov_H} (d : Nat) (hd : 4 ≤ d) (U : ov_cap u) (I : ov_N F z h) (x : Int) (y : Int) (way : Int) (s : Int) (g_x : ov_g x) (g_y : ov_g y) (g_way : ov_g way) (g_s : ov_g s) (W : ov_WT (h 96)) : ov_T u d ov_m245 [ov_r 90, ov_i x, ov_i y, ov_i way, ov_i s] z h (P_Mo_green_90 F z h x y way s) := by
  refine ov_en rfl (Nat.le_of_ble_eq_true rfl) ?_
  show ov_R u d ov_m245 0 [(0, ov_r 90), (1, ov_i x), (2, ov_i y), (3, ov_i way), (4, ov_i s)] [] z h (P_Mo_green_90 F z h x y way s)
  refine ov_blk (ls2 := [(0, ov_r 90), (1, ov_i x), (2, ov_i y), (3, ov_i way), (4, ov_i s)]) (st2 := [ov_i 0, ov_r 90]) (pc2 := 2) b_245_0_2 rfl rfl ?_
  refine ov_putf (x := 0) d_245_2 fl_Mo_1 (zb_90 I) (zs_90 I) rfl nk_0 rfl ?_
  have I1 := up_90_0 (x := 0) I (by omega)
  refine ov_blk (ls2 := [(0, ov_r 90), (1, ov_i x), (2, ov_i y), (3, ov_i way), (4, ov_i s)]) (st2 := [ov_i s, ov_i way, ov_i y, ov_i x, ov_r 90]) (pc2 := 11) b_245_5_5 rfl rfl ?_
  refine ov_cV (as := [ov_i x, ov_i y, ov_i way, ov_i s]) (st := []) (d2 := d - 1) d_245_11 lk_Mo_312 rfl (Nat.le_of_ble_eq_true rfl) (c := 1) (zb_90 I1) (zs_90 I1) ⟨by decide, rfl⟩ (by omega) (c_Mo_mayAsk_90 (d - 1) (by omega) U I1 x y way s (by omega) (by omega) (by omega) (by omega)) ?_
  rintro _ _ _ ⟨v3, rfl, rfl, rfl, f2⟩
  show ov_R u d ov_m245 14 [(0, ov_r 90), (1, ov_i x), (2, ov_i y), (3, ov_i way), (4, ov_i s)] [ov_i v3] z (ov_up h 90 0 0) (P_Mo_green_90 F z h x y way s)
  have f4 : (v3 = 0 ∨ v3 = 1) ∧ (v3 = 1 → 0 ≤ x ∧ x ≤ 5 ∧ 0 ≤ y ∧ y ≤ 8 ∧ 0 ≤ way ∧ way ≤ 1 ∧ 0 ≤ s ∧ s ≤ 1000000 ∧ ((way = 0 → x < (h 96 0) - 1) ∧ (¬ way = 0 → y < (h 96 1) - 1)) ∧ (((h 96 (10 + 4 * (6 * y + x))) = 1 ∨ (h 96 (10 + 4 * (6 * y + x))) = 2) → (way = 0 → 0 < (h 96 (10 + 4 * (6 * y + x) + 3))) ∧ (¬ way = 0 → (h 96 (10 + 4 * (6 * y + x) + 3)) < (h 96 (10 + 4 * (6 * y + x) + 1))))) := f2
  clear f2
  refine ov_ifne (tgt := 19) d_245_14 (by decide) (by omega) (fun c5 => ?_) (fun c5 => ?_)
  · skip
    refine ov_blk (ls2 := [(0, ov_r 90), (1, ov_i x), (2, ov_i y), (3, ov_i way), (4, ov_i s)]) (st2 := [ov_i y, ov_i x, ov_r 90]) (pc2 := 22) b_245_19_3 rfl rfl ?_
    refine ov_cV (as := [ov_i x, ov_i y]) (st := []) (d2 := d - 1) d_245_22 lk_Mo_282 rfl (Nat.le_of_ble_eq_true rfl) (c := 1) (zb_90 I1) (zs_90 I1) ⟨by decide, rfl⟩ (by omega) (c_Mo_kindAt_90 (d - 1) (by omega) U I1 x y (by omega) (by omega) (by omega)) ?_
    rintro _ _ _ ⟨v7, rfl, rfl, rfl, f6⟩
    show ov_R u d ov_m245 25 [(0, ov_r 90), (1, ov_i x), (2, ov_i y), (3, ov_i way), (4, ov_i s)] [ov_i v7] z (ov_up h 90 0 0) (P_Mo_green_90 F z h x y way s)
    have f8 : v7 = (h 96 (10 + 4 * (6 * y + x))) - 1 ∧ -1 ≤ v7 ∧ v7 ≤ 3 := f6
    clear f6
    refine ov_blk (ls2 := [(0, ov_r 90), (1, ov_i x), (2, ov_i y), (3, ov_i way), (4, ov_i s)]) (st2 := [ov_i 2, ov_i v7]) (pc2 := 26) b_245_25_1 rfl rfl ?_
    refine ov_icne (tgt := 42) d_245_26 (by decide) (by omega) (by omega) (fun c9 => ?_) (fun c9 => ?_)
    · skip
      refine ov_blk (ls2 := [(0, ov_r 90), (1, ov_i x), (2, ov_i y), (3, ov_i way), (4, ov_i s)]) (st2 := [ov_i y, ov_i x, ov_r 90]) (pc2 := 45) b_245_42_3 rfl rfl ?_
      refine ov_cV (as := [ov_i x, ov_i y]) (st := []) (d2 := d - 1) d_245_45 lk_Mo_285 rfl (Nat.le_of_ble_eq_true rfl) (c := 1) (zb_90 I1) (zs_90 I1) ⟨by decide, rfl⟩ (by omega) (c_Mo_isTimed_90 (d - 1) (by omega) U I1 x y (by omega) (by omega) (by omega)) ?_
      rintro _ _ _ ⟨v11, rfl, rfl, rfl, f10⟩
      show ov_R u d ov_m245 48 [(0, ov_r 90), (1, ov_i x), (2, ov_i y), (3, ov_i way), (4, ov_i s)] [ov_i v11] z (ov_up h 90 0 0) (P_Mo_green_90 F z h x y way s)
      have f12 : (v11 = 0 ∨ v11 = 1) ∧ (v11 = 1 → ((h 96 (10 + 4 * (6 * y + x))) = 1 ∨ (h 96 (10 + 4 * (6 * y + x))) = 2)) ∧ (v11 = 0 → ¬ ((h 96 (10 + 4 * (6 * y + x))) = 1 ∨ (h 96 (10 + 4 * (6 * y + x))) = 2)) := f10
      clear f10
      refine ov_ifeq (tgt := 63) d_245_48 (by decide) (by omega) (fun c13 => ?_) (fun c13 => ?_)
      · skip
        refine ov_blk (ls2 := [(0, ov_r 90), (1, ov_i x), (2, ov_i y), (3, ov_i way), (4, ov_i s)]) (st2 := [ov_i 1]) (pc2 := 64) b_245_63_1 rfl rfl ?_
        refine ov_goto (tgt := 68) d_245_64 (by decide) ?_
        refine ov_blk (ls2 := [(0, ov_r 90), (1, ov_i x), (2, ov_i y), (3, ov_i way), (4, ov_i s), (5, ov_i 1)]) (st2 := [ov_i 1]) (pc2 := 72) b_245_68_2 rfl rfl ?_
        refine ov_ifeq (tgt := 79) d_245_72 (by decide) (by omega) (fun c14 => ?_) (fun c14 => ?_)
        · omega
        · skip
          refine ov_blk (ls2 := [(0, ov_r 90), (1, ov_i x), (2, ov_i y), (3, ov_i way), (4, ov_i s), (5, ov_i 1)]) (st2 := [ov_i 1]) (pc2 := 76) b_245_75_1 rfl rfl ?_
          refine ov_goto (tgt := 80) d_245_76 (by decide) ?_
          exact ov_reti (st := []) d_245_80 rfl ⟨_, rfl, I1, (by show -2147483648 ≤ 1 ∧ 1 ≤ 2147483647 ∧ (h 90 2) = (h 90 2) ∧ (h 90 3) = (h 90 3) ∧ (h 90 7) = (h 90 7) ∧ (h 90 8) = (h 90 8) ∧ (h 90 13) = (h 90 13) ∧ (h 90 20) = (h 90 20) ∧ (h 90 22) = (h 90 22) ∧ (h 90 25) = (h 90 25) ∧ (h 90 26) = (h 90 26) ∧ (h 90 27) = (h 90 27) ∧ (h 90 28) = (h 90 28) ∧ (h 90 29) = (h 90 29) ∧ (h 90 30) = (h 90 30) ∧ (h 90 34) = (h 90 34) ∧ (h 90 35) = (h 90 35) ∧ (h 90 37) = (h 90 37); omega), rfl, rfl, rfl, rfl, rfl, rfl, rfl, rfl, rfl, rfl, rfl, rfl, rfl⟩
      · skip
        refine ov_blk (ls2 := [(0, ov_r 90), (1, ov_i x), (2, ov_i y), (3, ov_i way), (4, ov_i s)]) (st2 := [ov_i s, ov_i way, ov_i y, ov_i x, ov_r 90]) (pc2 := 57) b_245_51_5 rfl rfl ?_
        have w1 := ov_WT_at W (c := 6 * y + x) (by omega)
        refine ov_cV (as := [ov_i x, ov_i y, ov_i way, ov_i s]) (st := []) (d2 := d - 1) d_245_57 lk_Mo_292 rfl (Nat.le_of_ble_eq_true rfl) (c := 1) (zb_90 I1) (zs_90 I1) ⟨by decide, rfl⟩ (by omega) (c_Mo_isGreen_90 (d - 1) (by omega) U I1 x y way s (by omega) (by omega) (by omega) (by omega) (by omega) (by omega) (by omega)) ?_
        rintro _ _ _ ⟨v16, rfl, rfl, rfl, f15⟩
        show ov_R u d ov_m245 60 [(0, ov_r 90), (1, ov_i x), (2, ov_i y), (3, ov_i way), (4, ov_i s)] [ov_i v16] z (ov_up h 90 0 0) (P_Mo_green_90 F z h x y way s)
        have f17 : (v16 = 0 ∨ v16 = 1) ∧ (v16 = 1 → (ov_ph s ((h 96 (10 + 4 * (6 * y + x) + 2))) ((h 96 (10 + 4 * (6 * y + x) + 1))) < (h 96 (10 + 4 * (6 * y + x) + 3)) ∧ way = 0) ∨ (¬ ov_ph s ((h 96 (10 + 4 * (6 * y + x) + 2))) ((h 96 (10 + 4 * (6 * y + x) + 1))) < (h 96 (10 + 4 * (6 * y + x) + 3)) ∧ ¬ way = 0)) ∧ (v16 = 0 → (ov_ph s ((h 96 (10 + 4 * (6 * y + x) + 2))) ((h 96 (10 + 4 * (6 * y + x) + 1))) < (h 96 (10 + 4 * (6 * y + x) + 3)) ∧ ¬ way = 0) ∨ (¬ ov_ph s ((h 96 (10 + 4 * (6 * y + x) + 2))) ((h 96 (10 + 4 * (6 * y + x) + 1))) < (h 96 (10 + 4 * (6 * y + x) + 3)) ∧ way = 0)) := f15
        clear f15
        refine ov_ifeq (tgt := 67) d_245_60 (by decide) (by omega) (fun c18 => ?_) (fun c18 => ?_)
        · skip
          refine ov_blk (ls2 := [(0, ov_r 90), (1, ov_i x), (2, ov_i y), (3, ov_i way), (4, ov_i s), (5, ov_i 0)]) (st2 := [ov_i 0]) (pc2 := 72) b_245_67_3 rfl rfl ?_
          refine ov_ifeq (tgt := 79) d_245_72 (by decide) (by omega) (fun c19 => ?_) (fun c19 => ?_)
          · skip
            refine ov_blk (ls2 := [(0, ov_r 90), (1, ov_i x), (2, ov_i y), (3, ov_i way), (4, ov_i s), (5, ov_i 0)]) (st2 := [ov_i 0]) (pc2 := 80) b_245_79_1 rfl rfl ?_
            exact ov_reti (st := []) d_245_80 rfl ⟨_, rfl, I1, (by show -2147483648 ≤ 0 ∧ 0 ≤ 2147483647 ∧ (h 90 2) = (h 90 2) ∧ (h 90 3) = (h 90 3) ∧ (h 90 7) = (h 90 7) ∧ (h 90 8) = (h 90 8) ∧ (h 90 13) = (h 90 13) ∧ (h 90 20) = (h 90 20) ∧ (h 90 22) = (h 90 22) ∧ (h 90 25) = (h 90 25) ∧ (h 90 26) = (h 90 26) ∧ (h 90 27) = (h 90 27) ∧ (h 90 28) = (h 90 28) ∧ (h 90 29) = (h 90 29) ∧ (h 90 30) = (h 90 30) ∧ (h 90 34) = (h 90 34) ∧ (h 90 35) = (h 90 35) ∧ (h 90 37) = (h 90 37); omega), rfl, rfl, rfl, rfl, rfl, rfl, rfl, rfl, rfl, rfl, rfl, rfl, rfl⟩
          · omega
        · skip
          refine ov_blk (ls2 := [(0, ov_r 90), (1, ov_i x), (2, ov_i y), (3, ov_i way), (4, ov_i s)]) (st2 := [ov_i 1]) (pc2 := 64) b_245_63_1 rfl rfl ?_
          refine ov_goto (tgt := 68) d_245_64 (by decide) ?_
          refine ov_blk (ls2 := [(0, ov_r 90), (1, ov_i x), (2, ov_i y), (3, ov_i way), (4, ov_i s), (5, ov_i 1)]) (st2 := [ov_i 1]) (pc2 := 72) b_245_68_2 rfl rfl ?_
          refine ov_ifeq (tgt := 79) d_245_72 (by decide) (by omega) (fun c20 => ?_) (fun c20 => ?_)
          · omega
          · skip
            refine ov_blk (ls2 := [(0, ov_r 90), (1, ov_i x), (2, ov_i y), (3, ov_i way), (4, ov_i s), (5, ov_i 1)]) (st2 := [ov_i 1]) (pc2 := 76) b_245_75_1 rfl rfl ?_
            refine ov_goto (tgt := 80) d_245_76 (by decide) ?_
            exact ov_reti (st := []) d_245_80 rfl ⟨_, rfl, I1, (by show -2147483648 ≤ 1 ∧ 1 ≤ 2147483647 ∧ (h 90 2) = (h 90 2) ∧ (h 90 3) = (h 90 3) ∧ (h 90 7) = (h 90 7) ∧ (h 90 8) = (h 90 8) ∧ (h 90 13) = (h 90 13) ∧ (h 90 20) = (h 90 20) ∧ (h 90 22) = (h 90 22) ∧ (h 90 25) = (h 90 25) ∧ (h 90 26) = (h 90 26) ∧ (h 90 27) = (h 90 27) ∧ (h 90 28) = (h 90 28) ∧ (h 90 29) = (h 90 29) ∧ (h 90 30) = (h 90 30) ∧ (h 90 34) = (h 90 34) ∧ (h 90 35) = (h 90 35) ∧ (h 90 37) = (h 90 37); omega), rfl, rfl, rfl, rfl, rfl, rfl, rfl, rfl, rfl, rfl, rfl, rfl, rfl⟩
    · skip
      refine ov_blk (ls2 := [(0, ov_r 90), (1, ov_i x), (2, ov_i y), (3, ov_i way), (4, ov_i s)]) (st2 := [ov_i 1, ov_i way]) (pc2 := 31) b_245_29_2 rfl rfl ?_
      refine ov_icne (tgt := 38) d_245_31 (by decide) (by omega) (by omega) (fun c21 => ?_) (fun c21 => ?_)
      · skip
        refine ov_blk (ls2 := [(0, ov_r 90), (1, ov_i x), (2, ov_i y), (3, ov_i way), (4, ov_i s)]) (st2 := [ov_i 0]) (pc2 := 39) b_245_38_1 rfl rfl ?_
        refine ov_goto (tgt := 68) d_245_39 (by decide) ?_
        refine ov_blk (ls2 := [(0, ov_r 90), (1, ov_i x), (2, ov_i y), (3, ov_i way), (4, ov_i s), (5, ov_i 0)]) (st2 := [ov_i 0]) (pc2 := 72) b_245_68_2 rfl rfl ?_
        refine ov_ifeq (tgt := 79) d_245_72 (by decide) (by omega) (fun c22 => ?_) (fun c22 => ?_)
        · skip
          refine ov_blk (ls2 := [(0, ov_r 90), (1, ov_i x), (2, ov_i y), (3, ov_i way), (4, ov_i s), (5, ov_i 0)]) (st2 := [ov_i 0]) (pc2 := 80) b_245_79_1 rfl rfl ?_
          exact ov_reti (st := []) d_245_80 rfl ⟨_, rfl, I1, (by show -2147483648 ≤ 0 ∧ 0 ≤ 2147483647 ∧ (h 90 2) = (h 90 2) ∧ (h 90 3) = (h 90 3) ∧ (h 90 7) = (h 90 7) ∧ (h 90 8) = (h 90 8) ∧ (h 90 13) = (h 90 13) ∧ (h 90 20) = (h 90 20) ∧ (h 90 22) = (h 90 22) ∧ (h 90 25) = (h 90 25) ∧ (h 90 26) = (h 90 26) ∧ (h 90 27) = (h 90 27) ∧ (h 90 28) = (h 90 28) ∧ (h 90 29) = (h 90 29) ∧ (h 90 30) = (h 90 30) ∧ (h 90 34) = (h 90 34) ∧ (h 90 35) = (h 90 35) ∧ (h 90 37) = (h 90 37); omega), rfl, rfl, rfl, rfl, rfl, rfl, rfl, rfl, rfl, rfl, rfl, rfl, rfl⟩
        · omega
      · skip
        refine ov_blk (ls2 := [(0, ov_r 90), (1, ov_i x), (2, ov_i y), (3, ov_i way), (4, ov_i s)]) (st2 := [ov_i 1]) (pc2 := 35) b_245_34_1 rfl rfl ?_
        refine ov_goto (tgt := 68) d_245_35 (by decide) ?_
        refine ov_blk (ls2 := [(0, ov_r 90), (1, ov_i x), (2, ov_i y), (3, ov_i way), (4, ov_i s), (5, ov_i 1)]) (st2 := [ov_i 1]) (pc2 := 72) b_245_68_2 rfl rfl ?_
        refine ov_ifeq (tgt := 79) d_245_72 (by decide) (by omega) (fun c23 => ?_) (fun c23 => ?_)
        · omega
        · skip
          refine ov_blk (ls2 := [(0, ov_r 90), (1, ov_i x), (2, ov_i y), (3, ov_i way), (4, ov_i s), (5, ov_i 1)]) (st2 := [ov_i 1]) (pc2 := 76) b_245_75_1 rfl rfl ?_
          refine ov_goto (tgt := 80) d_245_76 (by decide) ?_
          exact ov_reti (st := []) d_245_80 rfl ⟨_, rfl, I1, (by show -2147483648 ≤ 1 ∧ 1 ≤ 2147483647 ∧ (h 90 2) = (h 90 2) ∧ (h 90 3) = (h 90 3) ∧ (h 90 7) = (h 90 7) ∧ (h 90 8) = (h 90 8) ∧ (h 90 13) = (h 90 13) ∧ (h 90 20) = (h 90 20) ∧ (h 90 22) = (h 90 22) ∧ (h 90 25) = (h 90 25) ∧ (h 90 26) = (h 90 26) ∧ (h 90 27) = (h 90 27) ∧ (h 90 28) = (h 90 28) ∧ (h 90 29) = (h 90 29) ∧ (h 90 30) = (h 90 30) ∧ (h 90 34) = (h 90 34) ∧ (h 90 35) = (h 90 35) ∧ (h 90 37) = (h 90 37); omega), rfl, rfl, rfl, rfl, rfl, rfl, rfl, rfl, rfl, rfl, rfl, rfl, rfl⟩
  · skip
    refine ov_blk (ls2 := [(0, ov_r 90), (1, ov_i x), (2, ov_i y), (3, ov_i way), (4, ov_i s)]) (st2 := [ov_i (-1)]) (pc2 := 18) b_245_17_1 rfl rfl ?_
    exact ov_reti (st := []) d_245_18 rfl ⟨_, rfl, I1, (by show -2147483648 ≤ (-1) ∧ (-1) ≤ 2147483647 ∧ (h 90 2) = (h 90 2) ∧ (h 90 3) = (h 90 3) ∧ (h 90 7) = (h 90 7) ∧ (h 90 8) = (h 90 8) ∧ (h 90 13) = (h 90 13) ∧ (h 90 20) = (h 90 20) ∧ (h 90 22) = (h 90 22) ∧ (h 90 25) = (h 90 25) ∧ (h 90 26) = (h 90 26) ∧ (h 90 27) = (h 90 27) ∧ (h 90 28) = (h 90 28) ∧ (h 90 29) = (h 90 29) ∧ (h 90 30) = (h 90 30) ∧ (h 90 34) = (h 90 34) ∧ (h 90 35) = (h 90 35) ∧ (h 90 37) = (h 90 37); omega), rfl, rfl, rfl, rfl, rfl, rfl, rfl, rfl, rfl, rfl, rfl, rfl, rfl⟩
abbrev P_Mo_until_90 (F : ov_H × ov_Z) (z : ov_Z) (h : ov_H) (x : Int) (y : Int) (way : Int) (s : Int) : Option ov_V → ov_Z → ov_H → Prop := fun r0 z' h' => ∃ r : Int, r0 = some (ov_i r) ∧ ov_N F z' h' ∧ (-2147483648 ≤ r ∧ r ≤ 2147483647 ∧ (h' 90 2) = (h 90 2) ∧ (h' 90 3) = (h 90 3) ∧ (h' 90 7) = (h 90 7) ∧ (h' 90 8) = (h 90 8) ∧ (h' 90 13) = (h 90 13) ∧ (h' 90 20) = (h 90 20) ∧ (h' 90 22) = (h 90 22) ∧ (h' 90 25) = (h 90 25) ∧ (h' 90 26) = (h 90 26) ∧ (h' 90 27) = (h 90 27) ∧ (h' 90 28) = (h 90 28) ∧ (h' 90 29) = (h 90 29) ∧ (h' 90 30) = (h 90 30) ∧ (h' 90 34) = (h 90 34) ∧ (h' 90 35) = (h 90 35) ∧ (h' 90 37) = (h 90 37)) ∧ h' 92 = h 92 ∧ h' 93 = h 93 ∧ h' 94 = h 94 ∧ h' 96 = h 96 ∧ h' 97 = h 97 ∧ h' 98 = h 98 ∧ h' 99 = h 99 ∧ h' 100 = h 100 ∧ h' 103 = h 103 ∧ h' 105 = h 105 ∧ h' 106 = h 106 ∧ h' 109 = h 109 ∧ h' 114 = h 114
set_option maxHeartbeats 4000000 in
theorem c_Mo_until_90 {u : ov_U} {F : ov_H × ov_Z} {z : ov_Z} {h : ov_H} (d : Nat) (hd : 4 ≤ d) (U : ov_cap u) (I : ov_N F z h) (x : Int) (y : Int) (way : Int) (s : Int) (g_x : ov_g x) (g_y : ov_g y) (g_way : ov_g way) (g_s : ov_g s) (W : ov_WT (h 96)) : ov_T u d ov_m251 [ov_r 90, ov_i x, ov_i y, ov_i way, ov_i s] z h (P_Mo_until_90 F z h x y way s) := by
  refine ov_en rfl (Nat.le_of_ble_eq_true rfl) ?_
  show ov_R u d ov_m251 0 [(0, ov_r 90), (1, ov_i x), (2, ov_i y), (3, ov_i way), (4, ov_i s)] [] z h (P_Mo_until_90 F z h x y way s)
  refine ov_blk (ls2 := [(0, ov_r 90), (1, ov_i x), (2, ov_i y), (3, ov_i way), (4, ov_i s)]) (st2 := [ov_i 0, ov_r 90]) (pc2 := 2) b_251_0_2 rfl rfl ?_
  refine ov_putf (x := 0) d_251_2 fl_Mo_1 (zb_90 I) (zs_90 I) rfl nk_0 rfl ?_
  have I1 := up_90_0 (x := 0) I (by omega)
  refine ov_blk (ls2 := [(0, ov_r 90), (1, ov_i x), (2, ov_i y), (3, ov_i way), (4, ov_i s)]) (st2 := [ov_i s, ov_i way, ov_i y, ov_i x, ov_r 90]) (pc2 := 11) b_251_5_5 rfl rfl ?_
  refine ov_cV (as := [ov_i x, ov_i y, ov_i way, ov_i s]) (st := []) (d2 := d - 1) d_251_11 lk_Mo_312 rfl (Nat.le_of_ble_eq_true rfl) (c := 1) (zb_90 I1) (zs_90 I1) ⟨by decide, rfl⟩ (by omega) (c_Mo_mayAsk_90 (d - 1) (by omega) U I1 x y way s (by omega) (by omega) (by omega) (by omega)) ?_
  rintro _ _ _ ⟨v3, rfl, rfl, rfl, f2⟩
  show ov_R u d ov_m251 14 [(0, ov_r 90), (1, ov_i x), (2, ov_i y), (3, ov_i way), (4, ov_i s)] [ov_i v3] z (ov_up h 90 0 0) (P_Mo_until_90 F z h x y way s)
  have f4 : (v3 = 0 ∨ v3 = 1) ∧ (v3 = 1 → 0 ≤ x ∧ x ≤ 5 ∧ 0 ≤ y ∧ y ≤ 8 ∧ 0 ≤ way ∧ way ≤ 1 ∧ 0 ≤ s ∧ s ≤ 1000000 ∧ ((way = 0 → x < (h 96 0) - 1) ∧ (¬ way = 0 → y < (h 96 1) - 1)) ∧ (((h 96 (10 + 4 * (6 * y + x))) = 1 ∨ (h 96 (10 + 4 * (6 * y + x))) = 2) → (way = 0 → 0 < (h 96 (10 + 4 * (6 * y + x) + 3))) ∧ (¬ way = 0 → (h 96 (10 + 4 * (6 * y + x) + 3)) < (h 96 (10 + 4 * (6 * y + x) + 1))))) := f2
  clear f2
  refine ov_ifeq (tgt := 29) d_251_14 (by decide) (by omega) (fun c5 => ?_) (fun c5 => ?_)
  · skip
    refine ov_blk (ls2 := [(0, ov_r 90), (1, ov_i x), (2, ov_i y), (3, ov_i way), (4, ov_i s)]) (st2 := [ov_i (-1)]) (pc2 := 30) b_251_29_1 rfl rfl ?_
    exact ov_reti (st := []) d_251_30 rfl ⟨_, rfl, I1, (by show -2147483648 ≤ (-1) ∧ (-1) ≤ 2147483647 ∧ (h 90 2) = (h 90 2) ∧ (h 90 3) = (h 90 3) ∧ (h 90 7) = (h 90 7) ∧ (h 90 8) = (h 90 8) ∧ (h 90 13) = (h 90 13) ∧ (h 90 20) = (h 90 20) ∧ (h 90 22) = (h 90 22) ∧ (h 90 25) = (h 90 25) ∧ (h 90 26) = (h 90 26) ∧ (h 90 27) = (h 90 27) ∧ (h 90 28) = (h 90 28) ∧ (h 90 29) = (h 90 29) ∧ (h 90 30) = (h 90 30) ∧ (h 90 34) = (h 90 34) ∧ (h 90 35) = (h 90 35) ∧ (h 90 37) = (h 90 37); omega), rfl, rfl, rfl, rfl, rfl, rfl, rfl, rfl, rfl, rfl, rfl, rfl, rfl⟩
  · skip
    refine ov_blk (ls2 := [(0, ov_r 90), (1, ov_i x), (2, ov_i y), (3, ov_i way), (4, ov_i s)]) (st2 := [ov_i s, ov_i way, ov_i y, ov_i x, ov_r 90]) (pc2 := 23) b_251_17_5 rfl rfl ?_
    refine ov_cV (as := [ov_i x, ov_i y, ov_i way, ov_i s]) (st := []) (d2 := d - 1) d_251_23 lk_Mo_315 rfl (Nat.le_of_ble_eq_true rfl) (c := 1) (zb_90 I1) (zs_90 I1) ⟨by decide, rfl⟩ (by omega) (c_Mo_waitFor_90 (d - 1) (by omega) U I1 x y way s (by omega) (by omega) (by omega) (by omega) (by omega) (by omega) (by omega) (by omega) W) ?_
    rintro _ _ _ ⟨v7, rfl, rfl, rfl, f6⟩
    show ov_R u d ov_m251 26 [(0, ov_r 90), (1, ov_i x), (2, ov_i y), (3, ov_i way), (4, ov_i s)] [ov_i v7] z (ov_up h 90 0 0) (P_Mo_until_90 F z h x y way s)
    have f8 : 0 ≤ v7 ∧ v7 ≤ 59 ∧ v7 = ov_wm (h 96) (6 * y + x) way s := f6
    clear f6
    refine ov_goto (tgt := 30) d_251_26 (by decide) ?_
    exact ov_reti (st := []) d_251_30 rfl ⟨_, rfl, I1, (by show -2147483648 ≤ v7 ∧ v7 ≤ 2147483647 ∧ (h 90 2) = (h 90 2) ∧ (h 90 3) = (h 90 3) ∧ (h 90 7) = (h 90 7) ∧ (h 90 8) = (h 90 8) ∧ (h 90 13) = (h 90 13) ∧ (h 90 20) = (h 90 20) ∧ (h 90 22) = (h 90 22) ∧ (h 90 25) = (h 90 25) ∧ (h 90 26) = (h 90 26) ∧ (h 90 27) = (h 90 27) ∧ (h 90 28) = (h 90 28) ∧ (h 90 29) = (h 90 29) ∧ (h 90 30) = (h 90 30) ∧ (h 90 34) = (h 90 34) ∧ (h 90 35) = (h 90 35) ∧ (h 90 37) = (h 90 37); omega), rfl, rfl, rfl, rfl, rfl, rfl, rfl, rfl, rfl, rfl, rfl, rfl, rfl⟩
abbrev P_Mo_copies_90 (F : ov_H × ov_Z) (z : ov_Z) (h : ov_H) (fr : Int) (tt : Int) (m : Int) : Option ov_V → ov_Z → ov_H → Prop := fun r0 z' h' => r0 = none ∧ ov_N F z' h' ∧ ((h' 90 2) = (h 90 2) ∧ (h' 90 3) = (h 90 3) ∧ (h' 90 7) = (h 90 7) ∧ (h' 90 8) = (h 90 8) ∧ (h' 90 13) = (h 90 13) ∧ (h' 90 20) = (h 90 20) ∧ (h' 90 22) = (h 90 22) ∧ (h' 90 25) = (h 90 25) ∧ (h' 90 26) = (h 90 26) ∧ (h' 90 27) = (h 90 27) ∧ (h' 90 28) = (h 90 28) ∧ (h' 90 29) = (h 90 29) ∧ (h' 90 30) = (h 90 30) ∧ (h' 90 34) = (h 90 34) ∧ (h' 90 35) = (h 90 35) ∧ (h' 90 37) = (h 90 37)) ∧ h' 92 = h 92 ∧ h' 93 = h 93 ∧ h' 94 = h 94 ∧ h' 96 = h 96 ∧ h' 97 = h 97 ∧ h' 98 = h 98 ∧ h' 99 = h 99 ∧ h' 100 = h 100 ∧ h' 105 = h 105 ∧ h' 106 = h 106 ∧ h' 109 = h 109 ∧ h' 114 = h 114 ∧ (∀ j : Int, j < 120 * tt ∨ 120 * tt + m ≤ j → (h' 103) j = (h 103) j)
set_option maxHeartbeats 4000000 in
theorem c_Mo_copies_90 {u : ov_U} {F : ov_H × ov_Z} {z : ov_Z} {h : ov_H} (d : Nat) (hd : 0 ≤ d) (U : ov_cap u) (I : ov_N F z h) (fr : Int) (tt : Int) (m : Int) (g_fr : ov_g fr) (g_tt : ov_g tt) (g_m : ov_g m) (p0 : 0 ≤ fr ∧ fr ≤ 20) (p1 : 0 ≤ tt ∧ tt ≤ 20) (p2 : 0 ≤ m ∧ m ≤ 120) : ov_T u d ov_m255 [ov_r 90, ov_i fr, ov_i tt, ov_i m] z h (P_Mo_copies_90 F z h fr tt m) := by
  refine ov_en rfl (Nat.le_of_ble_eq_true rfl) ?_
  show ov_R u d ov_m255 0 [(0, ov_r 90), (1, ov_i fr), (2, ov_i tt), (3, ov_i m)] [] z h (P_Mo_copies_90 F z h fr tt m)
  refine ov_blk (ls2 := [(0, ov_r 90), (1, ov_i fr), (2, ov_i tt), (3, ov_i m), (4, ov_i 0)]) (st2 := []) (pc2 := 3) b_255_0_2 rfl rfl ?_
  have L4 : ∀ (n1 : Nat) (x4 : Int) (z5 : ov_Z) (h6 : ov_H) (I7 : ov_N F z5 h6) (E8 : h6 92 = h 92) (E9 : h6 93 = h 93) (E10 : h6 94 = h 94) (E11 : h6 96 = h 96) (E12 : h6 97 = h 97) (E13 : h6 98 = h 98) (E14 : h6 99 = h 99) (E15 : h6 100 = h 100) (E16 : h6 105 = h 105) (E17 : h6 106 = h 106) (E18 : h6 109 = h 109) (E19 : h6 114 = h 114) (xc : ∀ j : Int, j < 120 * tt ∨ 120 * tt + x4 ≤ j → (h6 103) j = (h 103) j) (q3 : 0 ≤ x4 ∧ x4 ≤ m ∧ (h6 90 2) = (h 90 2) ∧ (h6 90 3) = (h 90 3) ∧ (h6 90 7) = (h 90 7) ∧ (h6 90 8) = (h 90 8) ∧ (h6 90 13) = (h 90 13) ∧ (h6 90 20) = (h 90 20) ∧ (h6 90 22) = (h 90 22) ∧ (h6 90 25) = (h 90 25) ∧ (h6 90 26) = (h 90 26) ∧ (h6 90 27) = (h 90 27) ∧ (h6 90 28) = (h 90 28) ∧ (h6 90 29) = (h 90 29) ∧ (h6 90 30) = (h 90 30) ∧ (h6 90 34) = (h 90 34) ∧ (h6 90 35) = (h 90 35) ∧ (h6 90 37) = (h 90 37)), m - x4 < (n1 : Int) → ov_R u d ov_m255 3 [(0, ov_r 90), (1, ov_i fr), (2, ov_i tt), (3, ov_i m), (4, ov_i x4)] [] z5 h6 (P_Mo_copies_90 F z h fr tt m) := by
    intro n1
    induction n1 with
    | zero =>
      intro x4 z5 h6 I7 E8 E9 E10 E11 E12 E13 E14 E15 E16 E17 E18 E19 xc q3 hn20
      exact absurd hn20 (by omega)
    | succ n1 ih2 =>
      intro x4 z5 h6 I7 E8 E9 E10 E11 E12 E13 E14 E15 E16 E17 E18 E19 xc q3 hn20
      refine ov_blk (ls2 := [(0, ov_r 90), (1, ov_i fr), (2, ov_i tt), (3, ov_i m), (4, ov_i x4)]) (st2 := [ov_i m, ov_i x4]) (pc2 := 6) b_255_3_2 rfl rfl ?_
      refine ov_icge (tgt := 39) d_255_6 (by decide) (by omega) (by omega) (fun c21 => ?_) (fun c21 => ?_)
      · skip
        exact ov_retv (st := []) d_255_39 rfl ⟨rfl, I7, (by show (h6 90 2) = (h 90 2) ∧ (h6 90 3) = (h 90 3) ∧ (h6 90 7) = (h 90 7) ∧ (h6 90 8) = (h 90 8) ∧ (h6 90 13) = (h 90 13) ∧ (h6 90 20) = (h 90 20) ∧ (h6 90 22) = (h 90 22) ∧ (h6 90 25) = (h 90 25) ∧ (h6 90 26) = (h 90 26) ∧ (h6 90 27) = (h 90 27) ∧ (h6 90 28) = (h 90 28) ∧ (h6 90 29) = (h 90 29) ∧ (h6 90 30) = (h 90 30) ∧ (h6 90 34) = (h 90 34) ∧ (h6 90 35) = (h 90 35) ∧ (h6 90 37) = (h 90 37); omega), E8, E9, E10, E11, E12, E13, E14, E15, E16, E17, E18, E19, (fun j hj => xc j (by omega))⟩
      · skip
        refine ov_blk (ls2 := [(0, ov_r 90), (1, ov_i fr), (2, ov_i tt), (3, ov_i m), (4, ov_i x4)]) (st2 := [ov_r 90]) (pc2 := 10) b_255_9_1 rfl rfl ?_
        refine ov_getf (v := ov_r 103) d_255_10 fl_Mo_102 (zb_90 I7) (zs_90 I7) (congrArg ov_r (rg_90_19 I7)) ?_
        refine ov_blk (ls2 := [(0, ov_r 90), (1, ov_i fr), (2, ov_i tt), (3, ov_i m), (4, ov_i x4)]) (st2 := [ov_r 90, ov_i ((120 * tt) + x4), ov_r 103]) (pc2 := 21) b_255_13_6 rfl rfl ?_
        refine ov_getf (v := ov_r 103) d_255_21 fl_Mo_102 (zb_90 I7) (zs_90 I7) (congrArg ov_r (rg_90_19 I7)) ?_
        refine ov_blk (ls2 := [(0, ov_r 90), (1, ov_i fr), (2, ov_i tt), (3, ov_i m), (4, ov_i x4)]) (st2 := [ov_i ((120 * fr) + x4), ov_r 103, ov_i ((120 * tt) + x4), ov_r 103]) (pc2 := 31) b_255_24_5 rfl rfl ?_
        refine ov_iald d_255_31 (zb_103 I7) (zs_103 I7) (by omega) ?_
        have g22 := g103 I7 ((120 * fr) + x4)
        refine ov_iast d_255_32 (zb_103 I7) (zs_103 I7) (by omega) ?_
        have gw := ra_103 I7 (120 * fr + x4)
        have I23 := ua_103 (k := ((120 * tt) + x4)) (x := (h6 103 ((120 * fr) + x4))) I7 (by refine ⟨?_, ?_, ?_, ?_, ?_, ?_⟩ <;> omega)
        refine ov_blk (ls2 := [(0, ov_r 90), (1, ov_i fr), (2, ov_i tt), (3, ov_i m), (4, ov_i (x4 + 1))]) (st2 := []) (pc2 := 36) b_255_33_1 rfl rfl ?_
        refine ov_goto (tgt := 3) d_255_36 (by decide) ?_
        exact ih2 (x4 + 1) _ _ I23 E8 E9 E10 E11 E12 E13 E14 E15 E16 E17 E18 E19 (fun j hj => by rw [ov_up_j (by omega)]; exact xc j (by omega)) (by show 0 ≤ (x4 + 1) ∧ (x4 + 1) ≤ m ∧ (h6 90 2) = (h 90 2) ∧ (h6 90 3) = (h 90 3) ∧ (h6 90 7) = (h 90 7) ∧ (h6 90 8) = (h 90 8) ∧ (h6 90 13) = (h 90 13) ∧ (h6 90 20) = (h 90 20) ∧ (h6 90 22) = (h 90 22) ∧ (h6 90 25) = (h 90 25) ∧ (h6 90 26) = (h 90 26) ∧ (h6 90 27) = (h 90 27) ∧ (h6 90 28) = (h 90 28) ∧ (h6 90 29) = (h 90 29) ∧ (h6 90 30) = (h 90 30) ∧ (h6 90 34) = (h 90 34) ∧ (h6 90 35) = (h 90 35) ∧ (h6 90 37) = (h 90 37); omega) (by omega)
  exact L4 200 0 _ _ I rfl rfl rfl rfl rfl rfl rfl rfl rfl rfl rfl rfl (fun j _ => rfl) (by show 0 ≤ 0 ∧ 0 ≤ m ∧ (h 90 2) = (h 90 2) ∧ (h 90 3) = (h 90 3) ∧ (h 90 7) = (h 90 7) ∧ (h 90 8) = (h 90 8) ∧ (h 90 13) = (h 90 13) ∧ (h 90 20) = (h 90 20) ∧ (h 90 22) = (h 90 22) ∧ (h 90 25) = (h 90 25) ∧ (h 90 26) = (h 90 26) ∧ (h 90 27) = (h 90 27) ∧ (h 90 28) = (h 90 28) ∧ (h 90 29) = (h 90 29) ∧ (h 90 30) = (h 90 30) ∧ (h 90 34) = (h 90 34) ∧ (h 90 35) = (h 90 35) ∧ (h 90 37) = (h 90 37); omega) (by omega)
abbrev P_Mo_begins_90 (F : ov_H × ov_Z) (z : ov_Z) (h : ov_H) : Option ov_V → ov_Z → ov_H → Prop := fun r0 z' h' => r0 = none ∧ ov_N F z' h' ∧ ((h' 90 22) = (h 90 22) + 1 ∧ (h' 100 0) = 0 ∧ (h' 90 2) = (h 90 2) ∧ (h' 90 3) = (h 90 3) ∧ (h' 90 7) = (h 90 7) ∧ (h' 90 8) = (h 90 8) ∧ (h' 90 13) = (h 90 13) ∧ (h' 90 25) = (h 90 25) ∧ (h' 90 26) = (h 90 26) ∧ (h' 90 27) = (h 90 27) ∧ (h' 90 28) = (h 90 28) ∧ (h' 90 29) = (h 90 29) ∧ (h' 90 30) = (h 90 30) ∧ (h' 90 34) = (h 90 34) ∧ (h' 90 35) = (h 90 35) ∧ (h' 90 37) = (h 90 37)) ∧ h' 92 = h 92 ∧ h' 93 = h 93 ∧ h' 94 = h 94 ∧ h' 96 = h 96 ∧ h' 97 = h 97 ∧ h' 98 = h 98 ∧ h' 99 = h 99 ∧ h' 105 = h 105 ∧ h' 106 = h 106 ∧ h' 109 = h 109 ∧ h' 114 = h 114
set_option maxHeartbeats 4000000 in
theorem c_Mo_begins_90 {u : ov_U} {F : ov_H × ov_Z} {z : ov_Z} {h : ov_H} (d : Nat) (hd : 0 ≤ d) (U : ov_cap u) (I : ov_N F z h) (p0 : 0 ≤ ov_bd F ∧ ov_bd F ≤ 800000000) (p1 : 0 ≤ (h 90 22) ∧ (h 90 22) ≤ 2000000000) : ov_T u d ov_m204 [ov_r 90] z h (P_Mo_begins_90 F z h) := by
  refine ov_en rfl (Nat.le_of_ble_eq_true rfl) ?_
  show ov_R u d ov_m204 0 [(0, ov_r 90)] [] z h (P_Mo_begins_90 F z h)
  refine ov_blk (ls2 := [(0, ov_r 90), (1, ov_i 0)]) (st2 := []) (pc2 := 2) b_204_0_2 rfl rfl ?_
  have L4 : ∀ (n1 : Nat) (x1 : Int) (z5 : ov_Z) (h6 : ov_H) (I7 : ov_N F z5 h6) (E8 : h6 92 = h 92) (E9 : h6 93 = h 93) (E10 : h6 94 = h 94) (E11 : h6 96 = h 96) (E12 : h6 97 = h 97) (E13 : h6 98 = h 98) (E14 : h6 99 = h 99) (E15 : h6 100 = h 100) (E16 : h6 105 = h 105) (E17 : h6 106 = h 106) (E18 : h6 109 = h 109) (E19 : h6 114 = h 114) (q3 : 0 ≤ x1 ∧ x1 ≤ 120 ∧ (h6 90 2) = (h 90 2) ∧ (h6 90 3) = (h 90 3) ∧ (h6 90 7) = (h 90 7) ∧ (h6 90 8) = (h 90 8) ∧ (h6 90 13) = (h 90 13) ∧ (h6 90 20) = (h 90 20) ∧ (h6 90 22) = (h 90 22) ∧ (h6 90 25) = (h 90 25) ∧ (h6 90 26) = (h 90 26) ∧ (h6 90 27) = (h 90 27) ∧ (h6 90 28) = (h 90 28) ∧ (h6 90 29) = (h 90 29) ∧ (h6 90 30) = (h 90 30) ∧ (h6 90 34) = (h 90 34) ∧ (h6 90 35) = (h 90 35) ∧ (h6 90 37) = (h 90 37)), 120 - x1 < (n1 : Int) → ov_R u d ov_m204 2 [(0, ov_r 90), (1, ov_i x1)] [] z5 h6 (P_Mo_begins_90 F z h) := by
    intro n1
    induction n1 with
    | zero =>
      intro x1 z5 h6 I7 E8 E9 E10 E11 E12 E13 E14 E15 E16 E17 E18 E19 q3 hn20
      exact absurd hn20 (by omega)
    | succ n1 ih2 =>
      intro x1 z5 h6 I7 E8 E9 E10 E11 E12 E13 E14 E15 E16 E17 E18 E19 q3 hn20
      refine ov_blk (ls2 := [(0, ov_r 90), (1, ov_i x1)]) (st2 := [ov_i 120, ov_i x1]) (pc2 := 5) b_204_2_2 rfl rfl ?_
      refine ov_icge (tgt := 21) d_204_5 (by decide) (by omega) (by omega) (fun c21 => ?_) (fun c21 => ?_)
      · skip
        refine ov_blk (ls2 := [(0, ov_r 90), (1, ov_i x1)]) (st2 := [ov_r 90]) (pc2 := 22) b_204_21_1 rfl rfl ?_
        refine ov_getf (v := ov_r 100) d_204_22 fl_Mo_93 (zb_90 I7) (zs_90 I7) (congrArg ov_r (rg_90_16 I7)) ?_
        refine ov_blk (ls2 := [(0, ov_r 90), (1, ov_i x1)]) (st2 := [ov_i 0, ov_i 0, ov_r 100]) (pc2 := 27) b_204_25_2 rfl rfl ?_
        refine ov_iast d_204_27 (zb_100 I7) (zs_100 I7) (by omega) ?_
        have I22 := ua_100 (k := 0) (x := 0) I7 (by omega)
        refine ov_blk (ls2 := [(0, ov_r 90), (1, ov_i x1)]) (st2 := [ov_i 0, ov_r 90]) (pc2 := 30) b_204_28_2 rfl rfl ?_
        refine ov_putf (x := 0) d_204_30 fl_Mo_319 (zb_90 I22) (zs_90 I22) rfl nk_0 rfl ?_
        have I23 := up_90_20 (x := 0) I22 (by omega)
        refine ov_blk (ls2 := [(0, ov_r 90), (1, ov_i x1)]) (st2 := [ov_r 90, ov_r 90]) (pc2 := 35) b_204_33_2 rfl rfl ?_
        refine ov_getf (v := ov_i (h6 90 22)) d_204_35 fl_Mo_322 (zb_90 I23) (zs_90 I23) rfl ?_
        have g24 := rg_90_22 I7
        refine ov_blk (ls2 := [(0, ov_r 90), (1, ov_i x1)]) (st2 := [ov_i ((h6 90 22) + 1), ov_r 90]) (pc2 := 40) b_204_38_2 rfl rfl ?_
        refine ov_putf (x := ((h6 90 22) + 1)) d_204_40 fl_Mo_322 (zb_90 I23) (zs_90 I23) rfl nk_0 rfl ?_
        have I25 := up_90_22 (x := ((h6 90 22) + 1)) I23 (by omega)
        refine ov_blk (ls2 := [(0, ov_r 90), (1, ov_i 0)]) (st2 := []) (pc2 := 45) b_204_43_2 rfl rfl ?_
        have L29 : ∀ (n26 : Nat) (x1_ : Int) (z30 : ov_Z) (h31 : ov_H) (I32 : ov_N F z30 h31) (E33 : h31 92 = h 92) (E34 : h31 93 = h 93) (E35 : h31 94 = h 94) (E36 : h31 96 = h 96) (E37 : h31 97 = h 97) (E38 : h31 98 = h 98) (E39 : h31 99 = h 99) (E40 : h31 103 = h6 103) (E41 : h31 105 = h 105) (E42 : h31 106 = h 106) (E43 : h31 109 = h 109) (E44 : h31 114 = h 114) (q28 : 0 ≤ x1_ ∧ x1_ ≤ 4 ∧ (h31 100 0) = 0 ∧ (h31 90 2) = (h6 90 2) ∧ (h31 90 3) = (h6 90 3) ∧ (h31 90 7) = (h6 90 7) ∧ (h31 90 8) = (h6 90 8) ∧ (h31 90 13) = (h6 90 13) ∧ (h31 90 20) = 0 ∧ (h31 90 22) = ((h6 90 22) + 1) ∧ (h31 90 25) = (h6 90 25) ∧ (h31 90 26) = (h6 90 26) ∧ (h31 90 27) = (h6 90 27) ∧ (h31 90 28) = (h6 90 28) ∧ (h31 90 29) = (h6 90 29) ∧ (h31 90 30) = (h6 90 30) ∧ (h31 90 34) = (h6 90 34) ∧ (h31 90 35) = (h6 90 35) ∧ (h31 90 37) = (h6 90 37)), 4 - x1_ < (n26 : Int) → ov_R u d ov_m204 45 [(0, ov_r 90), (1, ov_i x1_)] [] z30 h31 (P_Mo_begins_90 F z h) := by
          intro n26
          induction n26 with
          | zero =>
            intro x1_ z30 h31 I32 E33 E34 E35 E36 E37 E38 E39 E40 E41 E42 E43 E44 q28 hn45
            exact absurd hn45 (by omega)
          | succ n26 ih27 =>
            intro x1_ z30 h31 I32 E33 E34 E35 E36 E37 E38 E39 E40 E41 E42 E43 E44 q28 hn45
            refine ov_blk (ls2 := [(0, ov_r 90), (1, ov_i x1_)]) (st2 := [ov_i 4, ov_i x1_]) (pc2 := 47) b_204_45_2 rfl rfl ?_
            refine ov_icge (tgt := 63) d_204_47 (by decide) (by omega) (by omega) (fun c46 => ?_) (fun c46 => ?_)
            · skip
              exact ov_retv (st := []) d_204_63 rfl ⟨rfl, I32, (by show (h31 90 22) = (h 90 22) + 1 ∧ (h31 100 0) = 0 ∧ (h31 90 2) = (h 90 2) ∧ (h31 90 3) = (h 90 3) ∧ (h31 90 7) = (h 90 7) ∧ (h31 90 8) = (h 90 8) ∧ (h31 90 13) = (h 90 13) ∧ (h31 90 25) = (h 90 25) ∧ (h31 90 26) = (h 90 26) ∧ (h31 90 27) = (h 90 27) ∧ (h31 90 28) = (h 90 28) ∧ (h31 90 29) = (h 90 29) ∧ (h31 90 30) = (h 90 30) ∧ (h31 90 34) = (h 90 34) ∧ (h31 90 35) = (h 90 35) ∧ (h31 90 37) = (h 90 37); omega), E33, E34, E35, E36, E37, E38, E39, E41, E42, E43, E44⟩
            · skip
              refine ov_blk (ls2 := [(0, ov_r 90), (1, ov_i x1_)]) (st2 := [ov_r 90]) (pc2 := 51) b_204_50_1 rfl rfl ?_
              refine ov_getf (v := ov_r 104) d_204_51 fl_Mo_105 (zb_90 I32) (zs_90 I32) (congrArg ov_r (rg_90_21 I32)) ?_
              refine ov_blk (ls2 := [(0, ov_r 90), (1, ov_i x1_)]) (st2 := [ov_i 0, ov_i x1_, ov_r 104]) (pc2 := 56) b_204_54_2 rfl rfl ?_
              refine ov_zast d_204_56 (zb_104 I32) (zs_104 I32) (by omega) (by omega) ?_
              have I47 := ua_104 (k := x1_) (x := 0) I32 (by omega)
              refine ov_blk (ls2 := [(0, ov_r 90), (1, ov_i (x1_ + 1))]) (st2 := []) (pc2 := 60) b_204_57_1 rfl rfl ?_
              refine ov_goto (tgt := 45) d_204_60 (by decide) ?_
              exact ih27 (x1_ + 1) _ _ I47 E33 E34 E35 E36 E37 E38 E39 E40 E41 E42 E43 E44 (by show 0 ≤ (x1_ + 1) ∧ (x1_ + 1) ≤ 4 ∧ (h31 100 0) = 0 ∧ (h31 90 2) = (h6 90 2) ∧ (h31 90 3) = (h6 90 3) ∧ (h31 90 7) = (h6 90 7) ∧ (h31 90 8) = (h6 90 8) ∧ (h31 90 13) = (h6 90 13) ∧ (h31 90 20) = 0 ∧ (h31 90 22) = ((h6 90 22) + 1) ∧ (h31 90 25) = (h6 90 25) ∧ (h31 90 26) = (h6 90 26) ∧ (h31 90 27) = (h6 90 27) ∧ (h31 90 28) = (h6 90 28) ∧ (h31 90 29) = (h6 90 29) ∧ (h31 90 30) = (h6 90 30) ∧ (h31 90 34) = (h6 90 34) ∧ (h31 90 35) = (h6 90 35) ∧ (h31 90 37) = (h6 90 37); omega) (by omega)
        exact L29 5 0 _ _ I25 E8 E9 E10 E11 E12 E13 E14 rfl E16 E17 E18 E19 (by show 0 ≤ 0 ∧ 0 ≤ 4 ∧ 0 = 0 ∧ (h6 90 2) = (h6 90 2) ∧ (h6 90 3) = (h6 90 3) ∧ (h6 90 7) = (h6 90 7) ∧ (h6 90 8) = (h6 90 8) ∧ (h6 90 13) = (h6 90 13) ∧ 0 = 0 ∧ ((h6 90 22) + 1) = ((h6 90 22) + 1) ∧ (h6 90 25) = (h6 90 25) ∧ (h6 90 26) = (h6 90 26) ∧ (h6 90 27) = (h6 90 27) ∧ (h6 90 28) = (h6 90 28) ∧ (h6 90 29) = (h6 90 29) ∧ (h6 90 30) = (h6 90 30) ∧ (h6 90 34) = (h6 90 34) ∧ (h6 90 35) = (h6 90 35) ∧ (h6 90 37) = (h6 90 37); omega) (by omega)
      · skip
        refine ov_blk (ls2 := [(0, ov_r 90), (1, ov_i x1)]) (st2 := [ov_r 90]) (pc2 := 9) b_204_8_1 rfl rfl ?_
        refine ov_getf (v := ov_r 103) d_204_9 fl_Mo_102 (zb_90 I7) (zs_90 I7) (congrArg ov_r (rg_90_19 I7)) ?_
        refine ov_blk (ls2 := [(0, ov_r 90), (1, ov_i x1)]) (st2 := [ov_i 0, ov_i x1, ov_r 103]) (pc2 := 14) b_204_12_2 rfl rfl ?_
        refine ov_iast d_204_14 (zb_103 I7) (zs_103 I7) (by omega) ?_
        have I48 := ua_103 (k := x1) (x := 0) I7 (by refine ⟨?_, ?_, ?_, ?_, ?_, ?_⟩ <;> omega)
        refine ov_blk (ls2 := [(0, ov_r 90), (1, ov_i (x1 + 1))]) (st2 := []) (pc2 := 18) b_204_15_1 rfl rfl ?_
        refine ov_goto (tgt := 2) d_204_18 (by decide) ?_
        exact ih2 (x1 + 1) _ _ I48 E8 E9 E10 E11 E12 E13 E14 E15 E16 E17 E18 E19 (by show 0 ≤ (x1 + 1) ∧ (x1 + 1) ≤ 120 ∧ (h6 90 2) = (h 90 2) ∧ (h6 90 3) = (h 90 3) ∧ (h6 90 7) = (h 90 7) ∧ (h6 90 8) = (h 90 8) ∧ (h6 90 13) = (h 90 13) ∧ (h6 90 20) = (h 90 20) ∧ (h6 90 22) = (h 90 22) ∧ (h6 90 25) = (h 90 25) ∧ (h6 90 26) = (h 90 26) ∧ (h6 90 27) = (h 90 27) ∧ (h6 90 28) = (h 90 28) ∧ (h6 90 29) = (h 90 29) ∧ (h6 90 30) = (h 90 30) ∧ (h6 90 34) = (h 90 34) ∧ (h6 90 35) = (h 90 35) ∧ (h6 90 37) = (h 90 37); omega) (by omega)
  exact L4 121 0 _ _ I rfl rfl rfl rfl rfl rfl rfl rfl rfl rfl rfl rfl (by show 0 ≤ 0 ∧ 0 ≤ 120 ∧ (h 90 2) = (h 90 2) ∧ (h 90 3) = (h 90 3) ∧ (h 90 7) = (h 90 7) ∧ (h 90 8) = (h 90 8) ∧ (h 90 13) = (h 90 13) ∧ (h 90 20) = (h 90 20) ∧ (h 90 22) = (h 90 22) ∧ (h 90 25) = (h 90 25) ∧ (h 90 26) = (h 90 26) ∧ (h 90 27) = (h 90 27) ∧ (h 90 28) = (h 90 28) ∧ (h 90 29) = (h 90 29) ∧ (h 90 30) = (h 90 30) ∧ (h 90 34) = (h 90 34) ∧ (h 90 35) = (h 90 35) ∧ (h 90 37) = (h 90 37); omega) (by omega)
abbrev P_Mo_keeps_90 (F : ov_H × ov_Z) (z : ov_Z) (h : ov_H) : Option ov_V → ov_Z → ov_H → Prop := fun r0 z' h' => r0 = none ∧ ov_N F z' h' ∧ ((h' 90 2) = (h 90 2) ∧ (h' 90 3) = (h 90 3) ∧ (h' 90 7) = (h 90 7) ∧ (h' 90 8) = (h 90 8) ∧ (h' 90 13) = (h 90 13) ∧ (h' 90 22) = (h 90 22) ∧ (h' 90 25) = (h 90 25) ∧ (h' 90 26) = (h 90 26) ∧ (h' 90 27) = (h 90 27) ∧ (h' 90 28) = (h 90 28) ∧ (h' 90 29) = (h 90 29) ∧ (h' 90 30) = (h 90 30) ∧ (h' 90 34) = (h 90 34) ∧ (h' 90 35) = (h 90 35) ∧ (h' 90 37) = (h 90 37)) ∧ h' 92 = h 92 ∧ h' 93 = h 93 ∧ h' 94 = h 94 ∧ h' 96 = h 96 ∧ h' 97 = h 97 ∧ h' 98 = h 98 ∧ h' 99 = h 99 ∧ h' 100 = h 100 ∧ h' 105 = h 105 ∧ h' 106 = h 106 ∧ h' 109 = h 109 ∧ h' 114 = h 114 ∧ (∀ j : Int, j < 600 → (h' 103) j = (h 103) j)
set_option maxHeartbeats 4000000 in
theorem c_Mo_keeps_90 {u : ov_U} {F : ov_H × ov_Z} {z : ov_Z} {h : ov_H} (d : Nat) (hd : 1 ≤ d) (U : ov_cap u) (I : ov_N F z h) : ov_T u d ov_m254 [ov_r 90] z h (P_Mo_keeps_90 F z h) := by
  refine ov_en rfl (Nat.le_of_ble_eq_true rfl) ?_
  show ov_R u d ov_m254 0 [(0, ov_r 90)] [] z h (P_Mo_keeps_90 F z h)
  refine ov_blk (ls2 := [(0, ov_r 90)]) (st2 := [ov_r 90]) (pc2 := 1) b_254_0_1 rfl rfl ?_
  refine ov_getf (v := ov_i (h 90 20)) d_254_1 fl_Mo_319 (zb_90 I) (zs_90 I) rfl ?_
  have g1 := rg_90_20 I
  refine ov_blk (ls2 := [(0, ov_r 90)]) (st2 := [ov_i 16, ov_i (h 90 20)]) (pc2 := 6) b_254_4_1 rfl rfl ?_
  refine ov_icne (tgt := 47) d_254_6 (by decide) (by omega) (by omega) (fun c2 => ?_) (fun c2 => ?_)
  · skip
    refine ov_blk (ls2 := [(0, ov_r 90)]) (st2 := [ov_r 90, ov_i 5, ov_i 0, ov_r 90]) (pc2 := 51) b_254_47_4 rfl rfl ?_
    refine ov_getf (v := ov_i (h 90 20)) d_254_51 fl_Mo_319 (zb_90 I) (zs_90 I) rfl ?_
    refine ov_blk (ls2 := [(0, ov_r 90)]) (st2 := [ov_i 58, ov_i (5 + (h 90 20)), ov_i 0, ov_r 90]) (pc2 := 57) b_254_54_2 rfl rfl ?_
    refine ov_cV (as := [ov_i 0, ov_i (5 + (h 90 20)), ov_i 58]) (st := []) (d2 := d - 1) d_254_57 lk_Mo_325 rfl (Nat.le_of_ble_eq_true rfl) (c := 1) (zb_90 I) (zs_90 I) ⟨by decide, rfl⟩ (by omega) (c_Mo_copies_90 (d - 1) (by omega) U I 0 (5 + (h 90 20)) 58 (by omega) (by omega) (by omega) (by omega) (by omega) (by omega)) ?_
    rintro _ z18 h19 ⟨rfl, I20, f4, e5, e6, e7, e8, e9, e10, e11, e12, e13, e14, e15, e16, y17⟩
    have E21 : h19 92 = h 92 := e5
    have E22 : h19 93 = h 93 := e6
    have E23 : h19 94 = h 94 := e7
    have E24 : h19 96 = h 96 := e8
    have E25 : h19 97 = h 97 := e9
    have E26 : h19 98 = h 98 := e10
    have E27 : h19 99 = h 99 := e11
    have E28 : h19 100 = h 100 := e12
    have E29 : h19 105 = h 105 := e13
    have E30 : h19 106 = h 106 := e14
    have E31 : h19 109 = h 109 := e15
    have E32 : h19 114 = h 114 := e16
    show ov_R u d ov_m254 60 [(0, ov_r 90)] [] z18 h19 (P_Mo_keeps_90 F z h)
    have f33 : (h19 90 2) = (h 90 2) ∧ (h19 90 3) = (h 90 3) ∧ (h19 90 7) = (h 90 7) ∧ (h19 90 8) = (h 90 8) ∧ (h19 90 13) = (h 90 13) ∧ (h19 90 20) = (h 90 20) ∧ (h19 90 22) = (h 90 22) ∧ (h19 90 25) = (h 90 25) ∧ (h19 90 26) = (h 90 26) ∧ (h19 90 27) = (h 90 27) ∧ (h19 90 28) = (h 90 28) ∧ (h19 90 29) = (h 90 29) ∧ (h19 90 30) = (h 90 30) ∧ (h19 90 34) = (h 90 34) ∧ (h19 90 35) = (h 90 35) ∧ (h19 90 37) = (h 90 37) := f4
    clear f4
    have y17_ : ∀ j : Int, j < 120 * (5 + (h 90 20)) ∨ 120 * (5 + (h 90 20)) + (58 : Int) ≤ j → (h19 103) j = (h 103) j := y17
    refine ov_blk (ls2 := [(0, ov_r 90)]) (st2 := [ov_r 90, ov_r 90]) (pc2 := 62) b_254_60_2 rfl rfl ?_
    refine ov_getf (v := ov_i (h19 90 20)) d_254_62 fl_Mo_319 (zb_90 I20) (zs_90 I20) rfl ?_
    have g34 := rg_90_20 I20
    refine ov_blk (ls2 := [(0, ov_r 90)]) (st2 := [ov_i ((h19 90 20) + 1), ov_r 90]) (pc2 := 67) b_254_65_2 rfl rfl ?_
    refine ov_putf (x := ((h19 90 20) + 1)) d_254_67 fl_Mo_319 (zb_90 I20) (zs_90 I20) rfl nk_0 rfl ?_
    have I35 := up_90_20 (x := ((h19 90 20) + 1)) I20 (by omega)
    have xk0 : ∀ j : Int, j < 600 → (ov_up h19 90 20 ((h19 90 20) + 1)) 103 j = h 103 j := fun j hj => by show h19 103 j = _; rw [y17_ j (by omega)]; rfl
    exact ov_retv (st := []) d_254_70 rfl ⟨rfl, I35, (by show (h19 90 2) = (h 90 2) ∧ (h19 90 3) = (h 90 3) ∧ (h19 90 7) = (h 90 7) ∧ (h19 90 8) = (h 90 8) ∧ (h19 90 13) = (h 90 13) ∧ (h19 90 22) = (h 90 22) ∧ (h19 90 25) = (h 90 25) ∧ (h19 90 26) = (h 90 26) ∧ (h19 90 27) = (h 90 27) ∧ (h19 90 28) = (h 90 28) ∧ (h19 90 29) = (h 90 29) ∧ (h19 90 30) = (h 90 30) ∧ (h19 90 34) = (h 90 34) ∧ (h19 90 35) = (h 90 35) ∧ (h19 90 37) = (h 90 37); omega), E21, E22, E23, E24, E25, E26, E27, E28, E29, E30, E31, E32, xk0⟩
  · skip
    refine ov_blk (ls2 := [(0, ov_r 90), (1, ov_i 1)]) (st2 := []) (pc2 := 11) b_254_9_2 rfl rfl ?_
    have L39 : ∀ (n36 : Nat) (x1 : Int) (z40 : ov_Z) (h41 : ov_H) (I42 : ov_N F z40 h41) (E43 : h41 92 = h 92) (E44 : h41 93 = h 93) (E45 : h41 94 = h 94) (E46 : h41 96 = h 96) (E47 : h41 97 = h 97) (E48 : h41 98 = h 98) (E49 : h41 99 = h 99) (E50 : h41 100 = h 100) (E51 : h41 105 = h 105) (E52 : h41 106 = h 106) (E53 : h41 109 = h 109) (E54 : h41 114 = h 114) (xl : ∀ j : Int, j < 600 → (h41 103) j = (h 103) j) (q38 : 1 ≤ x1 ∧ x1 ≤ 16 ∧ (h41 90 20) = 16 ∧ (h41 90 2) = (h 90 2) ∧ (h41 90 3) = (h 90 3) ∧ (h41 90 7) = (h 90 7) ∧ (h41 90 8) = (h 90 8) ∧ (h41 90 13) = (h 90 13) ∧ (h41 90 20) = (h 90 20) ∧ (h41 90 22) = (h 90 22) ∧ (h41 90 25) = (h 90 25) ∧ (h41 90 26) = (h 90 26) ∧ (h41 90 27) = (h 90 27) ∧ (h41 90 28) = (h 90 28) ∧ (h41 90 29) = (h 90 29) ∧ (h41 90 30) = (h 90 30) ∧ (h41 90 34) = (h 90 34) ∧ (h41 90 35) = (h 90 35) ∧ (h41 90 37) = (h 90 37)), 16 - x1 < (n36 : Int) → ov_R u d ov_m254 11 [(0, ov_r 90), (1, ov_i x1)] [] z40 h41 (P_Mo_keeps_90 F z h) := by
      intro n36
      induction n36 with
      | zero =>
        intro x1 z40 h41 I42 E43 E44 E45 E46 E47 E48 E49 E50 E51 E52 E53 E54 xl q38 hn55
        exact absurd hn55 (by omega)
      | succ n36 ih37 =>
        intro x1 z40 h41 I42 E43 E44 E45 E46 E47 E48 E49 E50 E51 E52 E53 E54 xl q38 hn55
        refine ov_blk (ls2 := [(0, ov_r 90), (1, ov_i x1)]) (st2 := [ov_i 16, ov_i x1]) (pc2 := 14) b_254_11_2 rfl rfl ?_
        refine ov_icge (tgt := 37) d_254_14 (by decide) (by omega) (by omega) (fun c56 => ?_) (fun c56 => ?_)
        · skip
          refine ov_blk (ls2 := [(0, ov_r 90), (1, ov_i x1)]) (st2 := [ov_r 90, ov_r 90]) (pc2 := 39) b_254_37_2 rfl rfl ?_
          refine ov_getf (v := ov_i (h41 90 20)) d_254_39 fl_Mo_319 (zb_90 I42) (zs_90 I42) rfl ?_
          have g57 := rg_90_20 I42
          refine ov_blk (ls2 := [(0, ov_r 90), (1, ov_i x1)]) (st2 := [ov_i ((h41 90 20) - 1), ov_r 90]) (pc2 := 44) b_254_42_2 rfl rfl ?_
          refine ov_putf (x := ((h41 90 20) - 1)) d_254_44 fl_Mo_319 (zb_90 I42) (zs_90 I42) rfl nk_0 rfl ?_
          have I58 := up_90_20 (x := ((h41 90 20) - 1)) I42 (by omega)
          refine ov_blk (ls2 := [(0, ov_r 90), (1, ov_i x1)]) (st2 := [ov_r 90, ov_i 5, ov_i 0, ov_r 90]) (pc2 := 51) b_254_47_4 rfl rfl ?_
          refine ov_getf (v := ov_i ((h41 90 20) - 1)) d_254_51 fl_Mo_319 (zb_90 I58) (zs_90 I58) rfl ?_
          refine ov_blk (ls2 := [(0, ov_r 90), (1, ov_i x1)]) (st2 := [ov_i 58, ov_i (5 + ((h41 90 20) - 1)), ov_i 0, ov_r 90]) (pc2 := 57) b_254_54_2 rfl rfl ?_
          refine ov_cV (as := [ov_i 0, ov_i (5 + ((h41 90 20) - 1)), ov_i 58]) (st := []) (d2 := d - 1) d_254_57 lk_Mo_325 rfl (Nat.le_of_ble_eq_true rfl) (c := 1) (zb_90 I58) (zs_90 I58) ⟨by decide, rfl⟩ (by omega) (c_Mo_copies_90 (d - 1) (by omega) U I58 0 (5 + ((h41 90 20) - 1)) 58 (by omega) (by omega) (by omega) (by omega) (by omega) (by omega)) ?_
          rintro _ z73 h74 ⟨rfl, I75, f59, e60, e61, e62, e63, e64, e65, e66, e67, e68, e69, e70, e71, y72⟩
          have E76 : h74 92 = h 92 := Eq.trans e60 E43
          have E77 : h74 93 = h 93 := Eq.trans e61 E44
          have E78 : h74 94 = h 94 := Eq.trans e62 E45
          have E79 : h74 96 = h 96 := Eq.trans e63 E46
          have E80 : h74 97 = h 97 := Eq.trans e64 E47
          have E81 : h74 98 = h 98 := Eq.trans e65 E48
          have E82 : h74 99 = h 99 := Eq.trans e66 E49
          have E83 : h74 100 = h 100 := Eq.trans e67 E50
          have E84 : h74 105 = h 105 := Eq.trans e68 E51
          have E85 : h74 106 = h 106 := Eq.trans e69 E52
          have E86 : h74 109 = h 109 := Eq.trans e70 E53
          have E87 : h74 114 = h 114 := Eq.trans e71 E54
          show ov_R u d ov_m254 60 [(0, ov_r 90), (1, ov_i x1)] [] z73 h74 (P_Mo_keeps_90 F z h)
          have f88 : (h74 90 2) = (h41 90 2) ∧ (h74 90 3) = (h41 90 3) ∧ (h74 90 7) = (h41 90 7) ∧ (h74 90 8) = (h41 90 8) ∧ (h74 90 13) = (h41 90 13) ∧ (h74 90 20) = ((h41 90 20) - 1) ∧ (h74 90 22) = (h41 90 22) ∧ (h74 90 25) = (h41 90 25) ∧ (h74 90 26) = (h41 90 26) ∧ (h74 90 27) = (h41 90 27) ∧ (h74 90 28) = (h41 90 28) ∧ (h74 90 29) = (h41 90 29) ∧ (h74 90 30) = (h41 90 30) ∧ (h74 90 34) = (h41 90 34) ∧ (h74 90 35) = (h41 90 35) ∧ (h74 90 37) = (h41 90 37) := f59
          clear f59
          have y72_ : ∀ j : Int, j < 120 * (5 + ((h41 90 20) - 1)) ∨ 120 * (5 + ((h41 90 20) - 1)) + (58 : Int) ≤ j → (h74 103) j = (h41 103) j := y72
          refine ov_blk (ls2 := [(0, ov_r 90), (1, ov_i x1)]) (st2 := [ov_r 90, ov_r 90]) (pc2 := 62) b_254_60_2 rfl rfl ?_
          refine ov_getf (v := ov_i (h74 90 20)) d_254_62 fl_Mo_319 (zb_90 I75) (zs_90 I75) rfl ?_
          have g89 := rg_90_20 I75
          refine ov_blk (ls2 := [(0, ov_r 90), (1, ov_i x1)]) (st2 := [ov_i ((h74 90 20) + 1), ov_r 90]) (pc2 := 67) b_254_65_2 rfl rfl ?_
          refine ov_putf (x := ((h74 90 20) + 1)) d_254_67 fl_Mo_319 (zb_90 I75) (zs_90 I75) rfl nk_0 rfl ?_
          have I90 := up_90_20 (x := ((h74 90 20) + 1)) I75 (by omega)
          have xk0 : ∀ j : Int, j < 600 → (ov_up h74 90 20 ((h74 90 20) + 1)) 103 j = h 103 j := fun j hj => by show h74 103 j = _; rw [y72_ j (by omega)]; exact xl j hj
          exact ov_retv (st := []) d_254_70 rfl ⟨rfl, I90, (by show (h74 90 2) = (h 90 2) ∧ (h74 90 3) = (h 90 3) ∧ (h74 90 7) = (h 90 7) ∧ (h74 90 8) = (h 90 8) ∧ (h74 90 13) = (h 90 13) ∧ (h74 90 22) = (h 90 22) ∧ (h74 90 25) = (h 90 25) ∧ (h74 90 26) = (h 90 26) ∧ (h74 90 27) = (h 90 27) ∧ (h74 90 28) = (h 90 28) ∧ (h74 90 29) = (h 90 29) ∧ (h74 90 30) = (h 90 30) ∧ (h74 90 34) = (h 90 34) ∧ (h74 90 35) = (h 90 35) ∧ (h74 90 37) = (h 90 37); omega), E76, E77, E78, E79, E80, E81, E82, E83, E84, E85, E86, E87, xk0⟩
        · skip
          refine ov_blk (ls2 := [(0, ov_r 90), (1, ov_i x1)]) (st2 := [ov_i 58, ov_i ((5 + x1) - 1), ov_i (5 + x1), ov_r 90]) (pc2 := 28) b_254_17_10 rfl rfl ?_
          refine ov_cV (as := [ov_i (5 + x1), ov_i ((5 + x1) - 1), ov_i 58]) (st := []) (d2 := d - 1) d_254_28 lk_Mo_325 rfl (Nat.le_of_ble_eq_true rfl) (c := 1) (zb_90 I42) (zs_90 I42) ⟨by decide, rfl⟩ (by omega) (c_Mo_copies_90 (d - 1) (by omega) U I42 (5 + x1) ((5 + x1) - 1) 58 (by omega) (by omega) (by omega) (by omega) (by omega) (by omega)) ?_
          rintro _ z105 h106 ⟨rfl, I107, f91, e92, e93, e94, e95, e96, e97, e98, e99, e100, e101, e102, e103, y104⟩
          have E108 : h106 92 = h 92 := Eq.trans e92 E43
          have E109 : h106 93 = h 93 := Eq.trans e93 E44
          have E110 : h106 94 = h 94 := Eq.trans e94 E45
          have E111 : h106 96 = h 96 := Eq.trans e95 E46
          have E112 : h106 97 = h 97 := Eq.trans e96 E47
          have E113 : h106 98 = h 98 := Eq.trans e97 E48
          have E114 : h106 99 = h 99 := Eq.trans e98 E49
          have E115 : h106 100 = h 100 := Eq.trans e99 E50
          have E116 : h106 105 = h 105 := Eq.trans e100 E51
          have E117 : h106 106 = h 106 := Eq.trans e101 E52
          have E118 : h106 109 = h 109 := Eq.trans e102 E53
          have E119 : h106 114 = h 114 := Eq.trans e103 E54
          show ov_R u d ov_m254 31 [(0, ov_r 90), (1, ov_i x1)] [] z105 h106 (P_Mo_keeps_90 F z h)
          have f120 : (h106 90 2) = (h41 90 2) ∧ (h106 90 3) = (h41 90 3) ∧ (h106 90 7) = (h41 90 7) ∧ (h106 90 8) = (h41 90 8) ∧ (h106 90 13) = (h41 90 13) ∧ (h106 90 20) = (h41 90 20) ∧ (h106 90 22) = (h41 90 22) ∧ (h106 90 25) = (h41 90 25) ∧ (h106 90 26) = (h41 90 26) ∧ (h106 90 27) = (h41 90 27) ∧ (h106 90 28) = (h41 90 28) ∧ (h106 90 29) = (h41 90 29) ∧ (h106 90 30) = (h41 90 30) ∧ (h106 90 34) = (h41 90 34) ∧ (h106 90 35) = (h41 90 35) ∧ (h106 90 37) = (h41 90 37) := f91
          clear f91
          have y104_ : ∀ j : Int, j < 120 * ((5 + x1) - 1) ∨ 120 * ((5 + x1) - 1) + (58 : Int) ≤ j → (h106 103) j = (h41 103) j := y104
          refine ov_blk (ls2 := [(0, ov_r 90), (1, ov_i (x1 + 1))]) (st2 := []) (pc2 := 34) b_254_31_1 rfl rfl ?_
          refine ov_goto (tgt := 11) d_254_34 (by decide) ?_
          have xl2 : ∀ j : Int, j < 600 → (h106 103) j = h 103 j := fun j hj => by rw [y104_ j (by omega)]; exact xl j hj
          exact ih37 (x1 + 1) _ _ I107 E108 E109 E110 E111 E112 E113 E114 E115 E116 E117 E118 E119 xl2 (by show 1 ≤ (x1 + 1) ∧ (x1 + 1) ≤ 16 ∧ (h106 90 20) = 16 ∧ (h106 90 2) = (h 90 2) ∧ (h106 90 3) = (h 90 3) ∧ (h106 90 7) = (h 90 7) ∧ (h106 90 8) = (h 90 8) ∧ (h106 90 13) = (h 90 13) ∧ (h106 90 20) = (h 90 20) ∧ (h106 90 22) = (h 90 22) ∧ (h106 90 25) = (h 90 25) ∧ (h106 90 26) = (h 90 26) ∧ (h106 90 27) = (h 90 27) ∧ (h106 90 28) = (h 90 28) ∧ (h106 90 29) = (h 90 29) ∧ (h106 90 30) = (h 90 30) ∧ (h106 90 34) = (h 90 34) ∧ (h106 90 35) = (h 90 35) ∧ (h106 90 37) = (h 90 37); omega) (by omega)
    exact L39 17 1 _ _ I rfl rfl rfl rfl rfl rfl rfl rfl rfl rfl rfl rfl (fun j _ => rfl) (by show 1 ≤ 1 ∧ 1 ≤ 16 ∧ (h 90 20) = 16 ∧ (h 90 2) = (h 90 2) ∧ (h 90 3) = (h 90 3) ∧ (h 90 7) = (h 90 7) ∧ (h 90 8) = (h 90 8) ∧ (h 90 13) = (h 90 13) ∧ (h 90 20) = (h 90 20) ∧ (h 90 22) = (h 90 22) ∧ (h 90 25) = (h 90 25) ∧ (h 90 26) = (h 90 26) ∧ (h 90 27) = (h 90 27) ∧ (h 90 28) = (h 90 28) ∧ (h 90 29) = (h 90 29) ∧ (h 90 30) = (h 90 30) ∧ (h 90 34) = (h 90 34) ∧ (h 90 35) = (h 90 35) ∧ (h 90 37) = (h 90 37); omega) (by omega)
abbrev P_Mo_go_90 (F : ov_H × ov_Z) (z : ov_Z) (h : ov_H) (way : Int) (run : Int) : Option ov_V → ov_Z → ov_H → Prop := fun r0 z' h' => ∃ r : Int, r0 = some (ov_i r) ∧ ov_N F z' h' ∧ (-2147483648 ≤ r ∧ r ≤ 2147483647 ∧ (h' 90 2) = (h 90 2) ∧ (h' 90 3) = (h 90 3) ∧ (h' 90 7) = (h 90 7) ∧ (h' 90 8) = (h 90 8) ∧ (h' 90 13) = (h 90 13) ∧ (h' 90 22) = (h 90 22) ∧ (h' 90 25) = (h 90 25) ∧ (h' 90 26) = (h 90 26) ∧ (h' 90 27) = (h 90 27) ∧ (h' 90 28) = (h 90 28) ∧ (h' 90 29) = (h 90 29) ∧ (h' 90 30) = (h 90 30) ∧ (h' 90 34) = (h 90 34) ∧ (h' 90 35) = (h 90 35) ∧ (h' 90 37) = (h 90 37)) ∧ h' 92 = h 92 ∧ h' 93 = h 93 ∧ h' 94 = h 94 ∧ h' 96 = h 96 ∧ h' 97 = h 97 ∧ h' 98 = h 98 ∧ h' 99 = h 99 ∧ h' 100 = h 100 ∧ h' 105 = h 105 ∧ h' 106 = h 106 ∧ h' 109 = h 109 ∧ h' 114 = h 114
set_option maxHeartbeats 4000000 in
theorem c_Mo_go_90 {u : ov_U} {F : ov_H × ov_Z} {z : ov_Z} {h : ov_H} (d : Nat) (hd : 3 ≤ d) (U : ov_cap u) (I : ov_N F z h) (way : Int) (run : Int) (g_way : ov_g way) (g_run : run = 0 ∨ run = 1) (p0 : (h 103 2) ≤ ov_bd F - 1000) (p1 : 0 ≤ ov_bd F ∧ ov_bd F ≤ 800000000) (W : ov_WT (h 96)) : ov_T u d ov_m253 [ov_r 90, ov_i way, ov_i run] z h (P_Mo_go_90 F z h way run) := by
  refine ov_en rfl (Nat.le_of_ble_eq_true rfl) ?_
  show ov_R u d ov_m253 0 [(0, ov_r 90), (1, ov_i way), (2, ov_i run)] [] z h (P_Mo_go_90 F z h way run)
  refine ov_blk (ls2 := [(0, ov_r 90), (1, ov_i way), (2, ov_i run)]) (st2 := [ov_i 0, ov_r 90]) (pc2 := 2) b_253_0_2 rfl rfl ?_
  refine ov_putf (x := 0) d_253_2 fl_Mo_1 (zb_90 I) (zs_90 I) rfl nk_0 rfl ?_
  have I1 := up_90_0 (x := 0) I (by omega)
  refine ov_blk (ls2 := [(0, ov_r 90), (1, ov_i way), (2, ov_i run)]) (st2 := [ov_r 90]) (pc2 := 6) b_253_5_1 rfl rfl ?_
  refine ov_getf (v := ov_r 103) d_253_6 fl_Mo_102 (zb_90 I1) (zs_90 I1) (congrArg ov_r (rg_90_19 I1)) ?_
  refine ov_blk (ls2 := [(0, ov_r 90), (1, ov_i way), (2, ov_i run)]) (st2 := [ov_i 0, ov_r 103]) (pc2 := 10) b_253_9_1 rfl rfl ?_
  refine ov_iald d_253_10 (zb_103 I1) (zs_103 I1) (by omega) ?_
  show ov_R u d ov_m253 11 [(0, ov_r 90), (1, ov_i way), (2, ov_i run)] [ov_i (h 103 0)] z (ov_up h 90 0 0) (P_Mo_go_90 F z h way run)
  have g2 := ra_103 I 0
  refine ov_blk (ls2 := [(0, ov_r 90), (1, ov_i way), (2, ov_i run), (3, ov_i (h 103 0))]) (st2 := [ov_r 90]) (pc2 := 13) b_253_11_2 rfl rfl ?_
  refine ov_getf (v := ov_r 103) d_253_13 fl_Mo_102 (zb_90 I1) (zs_90 I1) (congrArg ov_r (rg_90_19 I1)) ?_
  refine ov_blk (ls2 := [(0, ov_r 90), (1, ov_i way), (2, ov_i run), (3, ov_i (h 103 0))]) (st2 := [ov_i 1, ov_r 103]) (pc2 := 17) b_253_16_1 rfl rfl ?_
  refine ov_iald d_253_17 (zb_103 I1) (zs_103 I1) (by omega) ?_
  show ov_R u d ov_m253 18 [(0, ov_r 90), (1, ov_i way), (2, ov_i run), (3, ov_i (h 103 0))] [ov_i (h 103 1)] z (ov_up h 90 0 0) (P_Mo_go_90 F z h way run)
  have g3 := ra_103 I 1
  refine ov_blk (ls2 := [(0, ov_r 90), (1, ov_i way), (2, ov_i run), (3, ov_i (h 103 0)), (4, ov_i (h 103 1))]) (st2 := [ov_i 1, ov_i 0, ov_i way]) (pc2 := 23) b_253_18_4 rfl rfl ?_
  refine ov_cS (as := [ov_i way, ov_i 0, ov_i 1]) (st := []) (d2 := d - 1) d_253_23 lk_Mo_299 rfl (Nat.le_of_ble_eq_true rfl) (by omega) (c_Mo_within (d - 1) (by omega) U I1 way 0 1 (by omega) (by omega) (by omega)) ?_
  rintro _ _ _ ⟨v5, rfl, rfl, rfl, f4⟩
  show ov_R u d ov_m253 26 [(0, ov_r 90), (1, ov_i way), (2, ov_i run), (3, ov_i (h 103 0)), (4, ov_i (h 103 1))] [ov_i v5] z (ov_up h 90 0 0) (P_Mo_go_90 F z h way run)
  have f6 : (v5 = 0 ∨ v5 = 1) ∧ (v5 = 1 → (0 : Int) ≤ way ∧ way ≤ (1 : Int)) ∧ (v5 = 0 → way < (0 : Int) ∨ (1 : Int) < way) := f4
  clear f4
  refine ov_ifeq (tgt := 70) d_253_26 (by decide) (by omega) (fun c7 => ?_) (fun c7 => ?_)
  · skip
    refine ov_blk (ls2 := [(0, ov_r 90), (1, ov_i way), (2, ov_i run), (3, ov_i (h 103 0)), (4, ov_i (h 103 1))]) (st2 := [ov_i (-1)]) (pc2 := 71) b_253_70_1 rfl rfl ?_
    exact ov_reti (st := []) d_253_71 rfl ⟨_, rfl, I1, (by show -2147483648 ≤ (-1) ∧ (-1) ≤ 2147483647 ∧ (h 90 2) = (h 90 2) ∧ (h 90 3) = (h 90 3) ∧ (h 90 7) = (h 90 7) ∧ (h 90 8) = (h 90 8) ∧ (h 90 13) = (h 90 13) ∧ (h 90 22) = (h 90 22) ∧ (h 90 25) = (h 90 25) ∧ (h 90 26) = (h 90 26) ∧ (h 90 27) = (h 90 27) ∧ (h 90 28) = (h 90 28) ∧ (h 90 29) = (h 90 29) ∧ (h 90 30) = (h 90 30) ∧ (h 90 34) = (h 90 34) ∧ (h 90 35) = (h 90 35) ∧ (h 90 37) = (h 90 37); omega), rfl, rfl, rfl, rfl, rfl, rfl, rfl, rfl, rfl, rfl, rfl, rfl⟩
  · skip
    refine ov_blk (ls2 := [(0, ov_r 90), (1, ov_i way), (2, ov_i run), (3, ov_i (h 103 0)), (4, ov_i (h 103 1))]) (st2 := [ov_i way, ov_i (h 103 1), ov_i (h 103 0), ov_r 90]) (pc2 := 34) b_253_29_4 rfl rfl ?_
    refine ov_cV (as := [ov_i (h 103 0), ov_i (h 103 1), ov_i way]) (st := []) (d2 := d - 1) d_253_34 lk_Mo_309 rfl (Nat.le_of_ble_eq_true rfl) (c := 1) (zb_90 I1) (zs_90 I1) ⟨by decide, rfl⟩ (by omega) (c_Mo_canGo_90 (d - 1) (by omega) U I1 (h 103 0) (h 103 1) way (by omega) (by omega) (by omega) (by omega) (by omega)) ?_
    rintro _ _ _ ⟨v9, rfl, rfl, rfl, f8⟩
    show ov_R u d ov_m253 37 [(0, ov_r 90), (1, ov_i way), (2, ov_i run), (3, ov_i (h 103 0)), (4, ov_i (h 103 1))] [ov_i v9] z (ov_up h 90 0 0) (P_Mo_go_90 F z h way run)
    have f10 : (v9 = 0 ∨ v9 = 1) ∧ v9 = ov_cgi (h 96) (h 103 0) (h 103 1) way ∧ (v9 = 1 → ((way = 0 → (h 103 0) < (h 96 0) - 1) ∧ (¬ way = 0 → (h 103 1) < (h 96 1) - 1)) ∧ (((h 96 (10 + 4 * (6 * (h 103 1) + (h 103 0)))) = 1 ∨ (h 96 (10 + 4 * (6 * (h 103 1) + (h 103 0)))) = 2) → (way = 0 → 0 < (h 96 (10 + 4 * (6 * (h 103 1) + (h 103 0)) + 3))) ∧ (¬ way = 0 → (h 96 (10 + 4 * (6 * (h 103 1) + (h 103 0)) + 3)) < (h 96 (10 + 4 * (6 * (h 103 1) + (h 103 0)) + 1))))) := f8
    clear f8
    refine ov_ifeq (tgt := 70) d_253_37 (by decide) (by omega) (fun c11 => ?_) (fun c11 => ?_)
    · skip
      refine ov_blk (ls2 := [(0, ov_r 90), (1, ov_i way), (2, ov_i run), (3, ov_i (h 103 0)), (4, ov_i (h 103 1))]) (st2 := [ov_i (-1)]) (pc2 := 71) b_253_70_1 rfl rfl ?_
      exact ov_reti (st := []) d_253_71 rfl ⟨_, rfl, I1, (by show -2147483648 ≤ (-1) ∧ (-1) ≤ 2147483647 ∧ (h 90 2) = (h 90 2) ∧ (h 90 3) = (h 90 3) ∧ (h 90 7) = (h 90 7) ∧ (h 90 8) = (h 90 8) ∧ (h 90 13) = (h 90 13) ∧ (h 90 22) = (h 90 22) ∧ (h 90 25) = (h 90 25) ∧ (h 90 26) = (h 90 26) ∧ (h 90 27) = (h 90 27) ∧ (h 90 28) = (h 90 28) ∧ (h 90 29) = (h 90 29) ∧ (h 90 30) = (h 90 30) ∧ (h 90 34) = (h 90 34) ∧ (h 90 35) = (h 90 35) ∧ (h 90 37) = (h 90 37); omega), rfl, rfl, rfl, rfl, rfl, rfl, rfl, rfl, rfl, rfl, rfl, rfl⟩
    · skip
      refine ov_blk (ls2 := [(0, ov_r 90), (1, ov_i way), (2, ov_i run), (3, ov_i (h 103 0)), (4, ov_i (h 103 1))]) (st2 := [ov_i run]) (pc2 := 41) b_253_40_1 rfl rfl ?_
      refine ov_ifeq (tgt := 72) d_253_41 (by decide) (by omega) (fun c12 => ?_) (fun c12 => ?_)
      · skip
        refine ov_blk (ls2 := [(0, ov_r 90), (1, ov_i way), (2, ov_i run), (3, ov_i (h 103 0)), (4, ov_i (h 103 1))]) (st2 := [ov_r 90]) (pc2 := 73) b_253_72_1 rfl rfl ?_
        refine ov_cV (as := []) (st := []) (d2 := d - 1) d_253_73 lk_Mo_329 rfl (Nat.le_of_ble_eq_true rfl) (c := 1) (zb_90 I1) (zs_90 I1) ⟨by decide, rfl⟩ (by omega) (c_Mo_keeps_90 (d - 1) (by omega) U I1) ?_
        rintro _ z27 h28 ⟨rfl, I29, f13, e14, e15, e16, e17, e18, e19, e20, e21, e22, e23, e24, e25, y26⟩
        have E30 : h28 92 = h 92 := e14
        have E31 : h28 93 = h 93 := e15
        have E32 : h28 94 = h 94 := e16
        have E33 : h28 96 = h 96 := e17
        have E34 : h28 97 = h 97 := e18
        have E35 : h28 98 = h 98 := e19
        have E36 : h28 99 = h 99 := e20
        have E37 : h28 100 = h 100 := e21
        have E38 : h28 105 = h 105 := e22
        have E39 : h28 106 = h 106 := e23
        have E40 : h28 109 = h 109 := e24
        have E41 : h28 114 = h 114 := e25
        show ov_R u d ov_m253 76 [(0, ov_r 90), (1, ov_i way), (2, ov_i run), (3, ov_i (h 103 0)), (4, ov_i (h 103 1))] [] z27 h28 (P_Mo_go_90 F z h way run)
        have f42 : (h28 90 2) = (h 90 2) ∧ (h28 90 3) = (h 90 3) ∧ (h28 90 7) = (h 90 7) ∧ (h28 90 8) = (h 90 8) ∧ (h28 90 13) = (h 90 13) ∧ (h28 90 22) = (h 90 22) ∧ (h28 90 25) = (h 90 25) ∧ (h28 90 26) = (h 90 26) ∧ (h28 90 27) = (h 90 27) ∧ (h28 90 28) = (h 90 28) ∧ (h28 90 29) = (h 90 29) ∧ (h28 90 30) = (h 90 30) ∧ (h28 90 34) = (h 90 34) ∧ (h28 90 35) = (h 90 35) ∧ (h28 90 37) = (h 90 37) := f13
        clear f13
        have y26_ : ∀ j : Int, j < 600 → (h28 103) j = (h 103) j := y26
        have xg0 := y26_ 0 (by decide)
        have xg1 := y26_ 1 (by decide)
        have xg2 := y26_ 2 (by decide)
        have xg3 := y26_ 3 (by decide)
        refine ov_blk (ls2 := [(0, ov_r 90), (1, ov_i way), (2, ov_i run), (3, ov_i (h 103 0)), (4, ov_i (h 103 1))]) (st2 := [ov_r 90]) (pc2 := 77) b_253_76_1 rfl rfl ?_
        refine ov_getf (v := ov_r 103) d_253_77 fl_Mo_102 (zb_90 I29) (zs_90 I29) (congrArg ov_r (rg_90_19 I29)) ?_
        refine ov_blk (ls2 := [(0, ov_r 90), (1, ov_i way), (2, ov_i run), (3, ov_i (h 103 0)), (4, ov_i (h 103 1))]) (st2 := [ov_i 2, ov_r 103, ov_i 2, ov_r 103]) (pc2 := 82) b_253_80_2 rfl rfl ?_
        refine ov_iald d_253_82 (zb_103 I29) (zs_103 I29) (by omega) ?_
        have g43 := ra_103 I29 2
        refine ov_blk (ls2 := [(0, ov_r 90), (1, ov_i way), (2, ov_i run), (3, ov_i (h 103 0)), (4, ov_i (h 103 1))]) (st2 := [ov_r 90, ov_i way, ov_i (h 103 1), ov_i (h 103 0), ov_r 90, ov_i (h28 103 2), ov_i 2, ov_r 103]) (pc2 := 89) b_253_83_5 rfl rfl ?_
        refine ov_getf (v := ov_r 103) d_253_89 fl_Mo_102 (zb_90 I29) (zs_90 I29) (congrArg ov_r (rg_90_19 I29)) ?_
        refine ov_blk (ls2 := [(0, ov_r 90), (1, ov_i way), (2, ov_i run), (3, ov_i (h 103 0)), (4, ov_i (h 103 1))]) (st2 := [ov_i 2, ov_r 103, ov_i way, ov_i (h 103 1), ov_i (h 103 0), ov_r 90, ov_i (h28 103 2), ov_i 2, ov_r 103]) (pc2 := 93) b_253_92_1 rfl rfl ?_
        refine ov_iald d_253_93 (zb_103 I29) (zs_103 I29) (by omega) ?_
        refine ov_cV (as := [ov_i (h 103 0), ov_i (h 103 1), ov_i way, ov_i (h28 103 2)]) (st := [ov_i (h28 103 2), ov_i 2, ov_r 103]) (d2 := d - 1) d_253_94 lk_Mo_315 rfl (Nat.le_of_ble_eq_true rfl) (c := 1) (zb_90 I29) (zs_90 I29) ⟨by decide, rfl⟩ (by omega) (c_Mo_waitFor_90 (d - 1) (by omega) U I29 (h 103 0) (h 103 1) way (h28 103 2) (by omega) (by omega) (by omega) (by omega) (by omega) (by omega) (by omega) (by omega) (by rw [show h28 96 = h 96 from E33]; exact W)) ?_
        rintro _ _ _ ⟨v46, rfl, rfl, rfl, f45⟩
        show ov_R u d ov_m253 97 [(0, ov_r 90), (1, ov_i way), (2, ov_i run), (3, ov_i (h 103 0)), (4, ov_i (h 103 1))] [ov_i v46, ov_i (h28 103 2), ov_i 2, ov_r 103] z27 h28 (P_Mo_go_90 F z h way run)
        rw [show h28 96 = h 96 from E33] at f45
        have f47 : 0 ≤ v46 ∧ v46 ≤ 59 ∧ v46 = ov_wm (h 96) (6 * (h 103 1) + (h 103 0)) way (h28 103 2) := f45
        clear f45
        refine ov_blk (ls2 := [(0, ov_r 90), (1, ov_i way), (2, ov_i run), (3, ov_i (h 103 0)), (4, ov_i (h 103 1))]) (st2 := [ov_i run, ov_i v46, ov_i (h28 103 2), ov_i 2, ov_r 103]) (pc2 := 98) b_253_97_1 rfl rfl ?_
        refine ov_ifeq (tgt := 108) d_253_98 (by decide) (by omega) (fun c48 => ?_) (fun c48 => ?_)
        · skip
          refine ov_blk (ls2 := [(0, ov_r 90), (1, ov_i way), (2, ov_i run), (3, ov_i (h 103 0)), (4, ov_i (h 103 1))]) (st2 := [ov_r 90, ov_i v46, ov_i (h28 103 2), ov_i 2, ov_r 103]) (pc2 := 109) b_253_108_1 rfl rfl ?_
          refine ov_getf (v := ov_r 96) d_253_109 fl_Mo_81 (zb_90 I29) (zs_90 I29) (congrArg ov_r (rg_90_10 I29)) ?_
          refine ov_blk (ls2 := [(0, ov_r 90), (1, ov_i way), (2, ov_i run), (3, ov_i (h 103 0)), (4, ov_i (h 103 1))]) (st2 := [ov_i 2, ov_r 96, ov_i v46, ov_i (h28 103 2), ov_i 2, ov_r 103]) (pc2 := 113) b_253_112_1 rfl rfl ?_
          refine ov_iald d_253_113 (zb_96 I29) (zs_96 I29) (by omega) ?_
          rw [show h28 96 = h 96 from E33]
          have g49 := t96_2 I
          refine ov_blk (ls2 := [(0, ov_r 90), (1, ov_i way), (2, ov_i run), (3, ov_i (h 103 0)), (4, ov_i (h 103 1))]) (st2 := [ov_i (v46 + (h 96 2)), ov_i (h28 103 2), ov_i 2, ov_r 103]) (pc2 := 115) b_253_114_1 rfl rfl ?_
          refine ov_havw (fun w50 gw50 qw50 => ?_)
          refine ov_blk (ls2 := [(0, ov_r 90), (1, ov_i way), (2, ov_i run), (3, ov_i (h 103 0)), (4, ov_i (h 103 1))]) (st2 := [ov_i ((h28 103 2) + w50), ov_i 2, ov_r 103]) (pc2 := 116) b_253_115_1 rfl rfl ?_
          refine ov_havw (fun w51 gw51 qw51 => ?_)
          refine ov_iast d_253_116 (zb_103 I29) (zs_103 I29) (by omega) ?_
          have I52 := ua_103 (k := 2) (x := w51) I29 (by refine ⟨?_, ?_, ?_, ?_, ?_, ?_⟩ <;> omega)
          refine ov_blk (ls2 := [(0, ov_r 90), (1, ov_i way), (2, ov_i run), (3, ov_i (h 103 0)), (4, ov_i (h 103 1))]) (st2 := [ov_r 90]) (pc2 := 118) b_253_117_1 rfl rfl ?_
          refine ov_getf (v := ov_r 103) d_253_118 fl_Mo_102 (zb_90 I52) (zs_90 I52) (congrArg ov_r (rg_90_19 I52)) ?_
          refine ov_blk (ls2 := [(0, ov_r 90), (1, ov_i way), (2, ov_i run), (3, ov_i (h 103 0)), (4, ov_i (h 103 1))]) (st2 := [ov_i 0, ov_r 103, ov_i 0, ov_r 103]) (pc2 := 123) b_253_121_2 rfl rfl ?_
          refine ov_iald d_253_123 (zb_103 I52) (zs_103 I52) (by omega) ?_
          show ov_R u d ov_m253 124 [(0, ov_r 90), (1, ov_i way), (2, ov_i run), (3, ov_i (h 103 0)), (4, ov_i (h 103 1))] [ov_i (h28 103 0), ov_i 0, ov_r 103] z27 (ov_up h28 103 2 w51) (P_Mo_go_90 F z h way run)
          have g53 := ra_103 I29 0
          refine ov_blk (ls2 := [(0, ov_r 90), (1, ov_i way), (2, ov_i run), (3, ov_i (h 103 0)), (4, ov_i (h 103 1))]) (st2 := [ov_i ((h28 103 0) + (1 - way)), ov_i 0, ov_r 103]) (pc2 := 128) b_253_124_4 rfl rfl ?_
          refine ov_havw (fun w54 gw54 qw54 => ?_)
          refine ov_iast d_253_128 (zb_103 I52) (zs_103 I52) (by omega) ?_
          have I55 := ua_103 (k := 0) (x := w54) I52 (by refine ⟨?_, ?_, ?_, ?_, ?_, ?_⟩ <;> omega)
          refine ov_blk (ls2 := [(0, ov_r 90), (1, ov_i way), (2, ov_i run), (3, ov_i (h 103 0)), (4, ov_i (h 103 1))]) (st2 := [ov_r 90]) (pc2 := 130) b_253_129_1 rfl rfl ?_
          refine ov_getf (v := ov_r 103) d_253_130 fl_Mo_102 (zb_90 I55) (zs_90 I55) (congrArg ov_r (rg_90_19 I55)) ?_
          refine ov_blk (ls2 := [(0, ov_r 90), (1, ov_i way), (2, ov_i run), (3, ov_i (h 103 0)), (4, ov_i (h 103 1))]) (st2 := [ov_i 1, ov_r 103, ov_i 1, ov_r 103]) (pc2 := 135) b_253_133_2 rfl rfl ?_
          refine ov_iald d_253_135 (zb_103 I55) (zs_103 I55) (by omega) ?_
          show ov_R u d ov_m253 136 [(0, ov_r 90), (1, ov_i way), (2, ov_i run), (3, ov_i (h 103 0)), (4, ov_i (h 103 1))] [ov_i (h28 103 1), ov_i 1, ov_r 103] z27 (ov_up (ov_up h28 103 2 w51) 103 0 w54) (P_Mo_go_90 F z h way run)
          have g56 := ra_103 I29 1
          refine ov_blk (ls2 := [(0, ov_r 90), (1, ov_i way), (2, ov_i run), (3, ov_i (h 103 0)), (4, ov_i (h 103 1))]) (st2 := [ov_i ((h28 103 1) + way), ov_i 1, ov_r 103]) (pc2 := 138) b_253_136_2 rfl rfl ?_
          refine ov_havw (fun w57 gw57 qw57 => ?_)
          refine ov_iast d_253_138 (zb_103 I55) (zs_103 I55) (by omega) ?_
          have I58 := ua_103 (k := 1) (x := w57) I55 (by refine ⟨?_, ?_, ?_, ?_, ?_, ?_⟩ <;> omega)
          refine ov_blk (ls2 := [(0, ov_r 90), (1, ov_i way), (2, ov_i run), (3, ov_i (h 103 0)), (4, ov_i (h 103 1))]) (st2 := [ov_r 90]) (pc2 := 140) b_253_139_1 rfl rfl ?_
          refine ov_getf (v := ov_r 103) d_253_140 fl_Mo_102 (zb_90 I58) (zs_90 I58) (congrArg ov_r (rg_90_19 I58)) ?_
          refine ov_blk (ls2 := [(0, ov_r 90), (1, ov_i way), (2, ov_i run), (3, ov_i (h 103 0)), (4, ov_i (h 103 1))]) (st2 := [ov_i 3, ov_r 103, ov_i 3, ov_r 103]) (pc2 := 145) b_253_143_2 rfl rfl ?_
          refine ov_iald d_253_145 (zb_103 I58) (zs_103 I58) (by omega) ?_
          show ov_R u d ov_m253 146 [(0, ov_r 90), (1, ov_i way), (2, ov_i run), (3, ov_i (h 103 0)), (4, ov_i (h 103 1))] [ov_i (h28 103 3), ov_i 3, ov_r 103] z27 (ov_up (ov_up (ov_up h28 103 2 w51) 103 0 w54) 103 1 w57) (P_Mo_go_90 F z h way run)
          have g59 := ra_103 I29 3
          refine ov_blk (ls2 := [(0, ov_r 90), (1, ov_i way), (2, ov_i run), (3, ov_i (h 103 0)), (4, ov_i (h 103 1))]) (st2 := [ov_i run, ov_i (h28 103 3), ov_i 3, ov_r 103]) (pc2 := 147) b_253_146_1 rfl rfl ?_
          refine ov_ifeq (tgt := 154) d_253_147 (by decide) (by omega) (fun c60 => ?_) (fun c60 => ?_)
          · skip
            refine ov_blk (ls2 := [(0, ov_r 90), (1, ov_i way), (2, ov_i run), (3, ov_i (h 103 0)), (4, ov_i (h 103 1))]) (st2 := [ov_i ((h28 103 3) + 0), ov_i 3, ov_r 103]) (pc2 := 156) b_253_154_2 rfl rfl ?_
            refine ov_havw (fun w61 gw61 qw61 => ?_)
            refine ov_iast d_253_156 (zb_103 I58) (zs_103 I58) (by omega) ?_
            have I62 := ua_103 (k := 3) (x := w61) I58 (by refine ⟨?_, ?_, ?_, ?_, ?_, ?_⟩ <;> omega)
            refine ov_blk (ls2 := [(0, ov_r 90), (1, ov_i way), (2, ov_i run), (3, ov_i (h 103 0)), (4, ov_i (h 103 1))]) (st2 := [ov_r 90]) (pc2 := 158) b_253_157_1 rfl rfl ?_
            refine ov_getf (v := ov_r 103) d_253_158 fl_Mo_102 (zb_90 I62) (zs_90 I62) (congrArg ov_r (rg_90_19 I62)) ?_
            refine ov_blk (ls2 := [(0, ov_r 90), (1, ov_i way), (2, ov_i run), (3, ov_i (h 103 0)), (4, ov_i (h 103 1))]) (st2 := [ov_i 2, ov_r 103]) (pc2 := 162) b_253_161_1 rfl rfl ?_
            refine ov_iald d_253_162 (zb_103 I62) (zs_103 I62) (by omega) ?_
            show ov_R u d ov_m253 163 [(0, ov_r 90), (1, ov_i way), (2, ov_i run), (3, ov_i (h 103 0)), (4, ov_i (h 103 1))] [ov_i w51] z27 (ov_up (ov_up (ov_up (ov_up h28 103 2 w51) 103 0 w54) 103 1 w57) 103 3 w61) (P_Mo_go_90 F z h way run)
            exact ov_reti (st := []) d_253_163 rfl ⟨_, rfl, I62, (by show -2147483648 ≤ w51 ∧ w51 ≤ 2147483647 ∧ (h28 90 2) = (h 90 2) ∧ (h28 90 3) = (h 90 3) ∧ (h28 90 7) = (h 90 7) ∧ (h28 90 8) = (h 90 8) ∧ (h28 90 13) = (h 90 13) ∧ (h28 90 22) = (h 90 22) ∧ (h28 90 25) = (h 90 25) ∧ (h28 90 26) = (h 90 26) ∧ (h28 90 27) = (h 90 27) ∧ (h28 90 28) = (h 90 28) ∧ (h28 90 29) = (h 90 29) ∧ (h28 90 30) = (h 90 30) ∧ (h28 90 34) = (h 90 34) ∧ (h28 90 35) = (h 90 35) ∧ (h28 90 37) = (h 90 37); omega), E30, E31, E32, E33, E34, E35, E36, E37, E38, E39, E40, E41⟩
          · skip
            refine ov_blk (ls2 := [(0, ov_r 90), (1, ov_i way), (2, ov_i run), (3, ov_i (h 103 0)), (4, ov_i (h 103 1))]) (st2 := [ov_i 1, ov_i (h28 103 3), ov_i 3, ov_r 103]) (pc2 := 151) b_253_150_1 rfl rfl ?_
            refine ov_goto (tgt := 155) d_253_151 (by decide) ?_
            refine ov_blk (ls2 := [(0, ov_r 90), (1, ov_i way), (2, ov_i run), (3, ov_i (h 103 0)), (4, ov_i (h 103 1))]) (st2 := [ov_i ((h28 103 3) + 1), ov_i 3, ov_r 103]) (pc2 := 156) b_253_155_1 rfl rfl ?_
            refine ov_havw (fun w63 gw63 qw63 => ?_)
            refine ov_iast d_253_156 (zb_103 I58) (zs_103 I58) (by omega) ?_
            have I64 := ua_103 (k := 3) (x := w63) I58 (by refine ⟨?_, ?_, ?_, ?_, ?_, ?_⟩ <;> omega)
            refine ov_blk (ls2 := [(0, ov_r 90), (1, ov_i way), (2, ov_i run), (3, ov_i (h 103 0)), (4, ov_i (h 103 1))]) (st2 := [ov_r 90]) (pc2 := 158) b_253_157_1 rfl rfl ?_
            refine ov_getf (v := ov_r 103) d_253_158 fl_Mo_102 (zb_90 I64) (zs_90 I64) (congrArg ov_r (rg_90_19 I64)) ?_
            refine ov_blk (ls2 := [(0, ov_r 90), (1, ov_i way), (2, ov_i run), (3, ov_i (h 103 0)), (4, ov_i (h 103 1))]) (st2 := [ov_i 2, ov_r 103]) (pc2 := 162) b_253_161_1 rfl rfl ?_
            refine ov_iald d_253_162 (zb_103 I64) (zs_103 I64) (by omega) ?_
            show ov_R u d ov_m253 163 [(0, ov_r 90), (1, ov_i way), (2, ov_i run), (3, ov_i (h 103 0)), (4, ov_i (h 103 1))] [ov_i w51] z27 (ov_up (ov_up (ov_up (ov_up h28 103 2 w51) 103 0 w54) 103 1 w57) 103 3 w63) (P_Mo_go_90 F z h way run)
            exact ov_reti (st := []) d_253_163 rfl ⟨_, rfl, I64, (by show -2147483648 ≤ w51 ∧ w51 ≤ 2147483647 ∧ (h28 90 2) = (h 90 2) ∧ (h28 90 3) = (h 90 3) ∧ (h28 90 7) = (h 90 7) ∧ (h28 90 8) = (h 90 8) ∧ (h28 90 13) = (h 90 13) ∧ (h28 90 22) = (h 90 22) ∧ (h28 90 25) = (h 90 25) ∧ (h28 90 26) = (h 90 26) ∧ (h28 90 27) = (h 90 27) ∧ (h28 90 28) = (h 90 28) ∧ (h28 90 29) = (h 90 29) ∧ (h28 90 30) = (h 90 30) ∧ (h28 90 34) = (h 90 34) ∧ (h28 90 35) = (h 90 35) ∧ (h28 90 37) = (h 90 37); omega), E30, E31, E32, E33, E34, E35, E36, E37, E38, E39, E40, E41⟩
        · skip
          refine ov_blk (ls2 := [(0, ov_r 90), (1, ov_i way), (2, ov_i run), (3, ov_i (h 103 0)), (4, ov_i (h 103 1))]) (st2 := [ov_r 90, ov_i v46, ov_i (h28 103 2), ov_i 2, ov_r 103]) (pc2 := 102) b_253_101_1 rfl rfl ?_
          refine ov_cV (as := []) (st := [ov_i v46, ov_i (h28 103 2), ov_i 2, ov_r 103]) (d2 := d - 1) d_253_102 lk_Mo_332 rfl (Nat.le_of_ble_eq_true rfl) (c := 1) (zb_90 I29) (zs_90 I29) ⟨by decide, rfl⟩ (by omega) (c_Mo_runTime_90 (d - 1) (by omega) U I29) ?_
          rintro _ _ _ ⟨v66, rfl, rfl, rfl, f65⟩
          show ov_R u d ov_m253 105 [(0, ov_r 90), (1, ov_i way), (2, ov_i run), (3, ov_i (h 103 0)), (4, ov_i (h 103 1))] [ov_i v66, ov_i v46, ov_i (h28 103 2), ov_i 2, ov_r 103] z27 h28 (P_Mo_go_90 F z h way run)
          have f67 : 0 ≤ v66 ∧ v66 ≤ 30 := f65
          clear f65
          refine ov_goto (tgt := 114) d_253_105 (by decide) ?_
          refine ov_blk (ls2 := [(0, ov_r 90), (1, ov_i way), (2, ov_i run), (3, ov_i (h 103 0)), (4, ov_i (h 103 1))]) (st2 := [ov_i (v46 + v66), ov_i (h28 103 2), ov_i 2, ov_r 103]) (pc2 := 115) b_253_114_1 rfl rfl ?_
          refine ov_havw (fun w68 gw68 qw68 => ?_)
          refine ov_blk (ls2 := [(0, ov_r 90), (1, ov_i way), (2, ov_i run), (3, ov_i (h 103 0)), (4, ov_i (h 103 1))]) (st2 := [ov_i ((h28 103 2) + w68), ov_i 2, ov_r 103]) (pc2 := 116) b_253_115_1 rfl rfl ?_
          refine ov_havw (fun w69 gw69 qw69 => ?_)
          refine ov_iast d_253_116 (zb_103 I29) (zs_103 I29) (by omega) ?_
          have I70 := ua_103 (k := 2) (x := w69) I29 (by refine ⟨?_, ?_, ?_, ?_, ?_, ?_⟩ <;> omega)
          refine ov_blk (ls2 := [(0, ov_r 90), (1, ov_i way), (2, ov_i run), (3, ov_i (h 103 0)), (4, ov_i (h 103 1))]) (st2 := [ov_r 90]) (pc2 := 118) b_253_117_1 rfl rfl ?_
          refine ov_getf (v := ov_r 103) d_253_118 fl_Mo_102 (zb_90 I70) (zs_90 I70) (congrArg ov_r (rg_90_19 I70)) ?_
          refine ov_blk (ls2 := [(0, ov_r 90), (1, ov_i way), (2, ov_i run), (3, ov_i (h 103 0)), (4, ov_i (h 103 1))]) (st2 := [ov_i 0, ov_r 103, ov_i 0, ov_r 103]) (pc2 := 123) b_253_121_2 rfl rfl ?_
          refine ov_iald d_253_123 (zb_103 I70) (zs_103 I70) (by omega) ?_
          show ov_R u d ov_m253 124 [(0, ov_r 90), (1, ov_i way), (2, ov_i run), (3, ov_i (h 103 0)), (4, ov_i (h 103 1))] [ov_i (h28 103 0), ov_i 0, ov_r 103] z27 (ov_up h28 103 2 w69) (P_Mo_go_90 F z h way run)
          have g71 := ra_103 I29 0
          refine ov_blk (ls2 := [(0, ov_r 90), (1, ov_i way), (2, ov_i run), (3, ov_i (h 103 0)), (4, ov_i (h 103 1))]) (st2 := [ov_i ((h28 103 0) + (1 - way)), ov_i 0, ov_r 103]) (pc2 := 128) b_253_124_4 rfl rfl ?_
          refine ov_havw (fun w72 gw72 qw72 => ?_)
          refine ov_iast d_253_128 (zb_103 I70) (zs_103 I70) (by omega) ?_
          have I73 := ua_103 (k := 0) (x := w72) I70 (by refine ⟨?_, ?_, ?_, ?_, ?_, ?_⟩ <;> omega)
          refine ov_blk (ls2 := [(0, ov_r 90), (1, ov_i way), (2, ov_i run), (3, ov_i (h 103 0)), (4, ov_i (h 103 1))]) (st2 := [ov_r 90]) (pc2 := 130) b_253_129_1 rfl rfl ?_
          refine ov_getf (v := ov_r 103) d_253_130 fl_Mo_102 (zb_90 I73) (zs_90 I73) (congrArg ov_r (rg_90_19 I73)) ?_
          refine ov_blk (ls2 := [(0, ov_r 90), (1, ov_i way), (2, ov_i run), (3, ov_i (h 103 0)), (4, ov_i (h 103 1))]) (st2 := [ov_i 1, ov_r 103, ov_i 1, ov_r 103]) (pc2 := 135) b_253_133_2 rfl rfl ?_
          refine ov_iald d_253_135 (zb_103 I73) (zs_103 I73) (by omega) ?_
          show ov_R u d ov_m253 136 [(0, ov_r 90), (1, ov_i way), (2, ov_i run), (3, ov_i (h 103 0)), (4, ov_i (h 103 1))] [ov_i (h28 103 1), ov_i 1, ov_r 103] z27 (ov_up (ov_up h28 103 2 w69) 103 0 w72) (P_Mo_go_90 F z h way run)
          have g74 := ra_103 I29 1
          refine ov_blk (ls2 := [(0, ov_r 90), (1, ov_i way), (2, ov_i run), (3, ov_i (h 103 0)), (4, ov_i (h 103 1))]) (st2 := [ov_i ((h28 103 1) + way), ov_i 1, ov_r 103]) (pc2 := 138) b_253_136_2 rfl rfl ?_
          refine ov_havw (fun w75 gw75 qw75 => ?_)
          refine ov_iast d_253_138 (zb_103 I73) (zs_103 I73) (by omega) ?_
          have I76 := ua_103 (k := 1) (x := w75) I73 (by refine ⟨?_, ?_, ?_, ?_, ?_, ?_⟩ <;> omega)
          refine ov_blk (ls2 := [(0, ov_r 90), (1, ov_i way), (2, ov_i run), (3, ov_i (h 103 0)), (4, ov_i (h 103 1))]) (st2 := [ov_r 90]) (pc2 := 140) b_253_139_1 rfl rfl ?_
          refine ov_getf (v := ov_r 103) d_253_140 fl_Mo_102 (zb_90 I76) (zs_90 I76) (congrArg ov_r (rg_90_19 I76)) ?_
          refine ov_blk (ls2 := [(0, ov_r 90), (1, ov_i way), (2, ov_i run), (3, ov_i (h 103 0)), (4, ov_i (h 103 1))]) (st2 := [ov_i 3, ov_r 103, ov_i 3, ov_r 103]) (pc2 := 145) b_253_143_2 rfl rfl ?_
          refine ov_iald d_253_145 (zb_103 I76) (zs_103 I76) (by omega) ?_
          show ov_R u d ov_m253 146 [(0, ov_r 90), (1, ov_i way), (2, ov_i run), (3, ov_i (h 103 0)), (4, ov_i (h 103 1))] [ov_i (h28 103 3), ov_i 3, ov_r 103] z27 (ov_up (ov_up (ov_up h28 103 2 w69) 103 0 w72) 103 1 w75) (P_Mo_go_90 F z h way run)
          have g77 := ra_103 I29 3
          refine ov_blk (ls2 := [(0, ov_r 90), (1, ov_i way), (2, ov_i run), (3, ov_i (h 103 0)), (4, ov_i (h 103 1))]) (st2 := [ov_i run, ov_i (h28 103 3), ov_i 3, ov_r 103]) (pc2 := 147) b_253_146_1 rfl rfl ?_
          refine ov_ifeq (tgt := 154) d_253_147 (by decide) (by omega) (fun c78 => ?_) (fun c78 => ?_)
          · skip
            refine ov_blk (ls2 := [(0, ov_r 90), (1, ov_i way), (2, ov_i run), (3, ov_i (h 103 0)), (4, ov_i (h 103 1))]) (st2 := [ov_i ((h28 103 3) + 0), ov_i 3, ov_r 103]) (pc2 := 156) b_253_154_2 rfl rfl ?_
            refine ov_havw (fun w79 gw79 qw79 => ?_)
            refine ov_iast d_253_156 (zb_103 I76) (zs_103 I76) (by omega) ?_
            have I80 := ua_103 (k := 3) (x := w79) I76 (by refine ⟨?_, ?_, ?_, ?_, ?_, ?_⟩ <;> omega)
            refine ov_blk (ls2 := [(0, ov_r 90), (1, ov_i way), (2, ov_i run), (3, ov_i (h 103 0)), (4, ov_i (h 103 1))]) (st2 := [ov_r 90]) (pc2 := 158) b_253_157_1 rfl rfl ?_
            refine ov_getf (v := ov_r 103) d_253_158 fl_Mo_102 (zb_90 I80) (zs_90 I80) (congrArg ov_r (rg_90_19 I80)) ?_
            refine ov_blk (ls2 := [(0, ov_r 90), (1, ov_i way), (2, ov_i run), (3, ov_i (h 103 0)), (4, ov_i (h 103 1))]) (st2 := [ov_i 2, ov_r 103]) (pc2 := 162) b_253_161_1 rfl rfl ?_
            refine ov_iald d_253_162 (zb_103 I80) (zs_103 I80) (by omega) ?_
            show ov_R u d ov_m253 163 [(0, ov_r 90), (1, ov_i way), (2, ov_i run), (3, ov_i (h 103 0)), (4, ov_i (h 103 1))] [ov_i w69] z27 (ov_up (ov_up (ov_up (ov_up h28 103 2 w69) 103 0 w72) 103 1 w75) 103 3 w79) (P_Mo_go_90 F z h way run)
            exact ov_reti (st := []) d_253_163 rfl ⟨_, rfl, I80, (by show -2147483648 ≤ w69 ∧ w69 ≤ 2147483647 ∧ (h28 90 2) = (h 90 2) ∧ (h28 90 3) = (h 90 3) ∧ (h28 90 7) = (h 90 7) ∧ (h28 90 8) = (h 90 8) ∧ (h28 90 13) = (h 90 13) ∧ (h28 90 22) = (h 90 22) ∧ (h28 90 25) = (h 90 25) ∧ (h28 90 26) = (h 90 26) ∧ (h28 90 27) = (h 90 27) ∧ (h28 90 28) = (h 90 28) ∧ (h28 90 29) = (h 90 29) ∧ (h28 90 30) = (h 90 30) ∧ (h28 90 34) = (h 90 34) ∧ (h28 90 35) = (h 90 35) ∧ (h28 90 37) = (h 90 37); omega), E30, E31, E32, E33, E34, E35, E36, E37, E38, E39, E40, E41⟩
          · skip
            refine ov_blk (ls2 := [(0, ov_r 90), (1, ov_i way), (2, ov_i run), (3, ov_i (h 103 0)), (4, ov_i (h 103 1))]) (st2 := [ov_i 1, ov_i (h28 103 3), ov_i 3, ov_r 103]) (pc2 := 151) b_253_150_1 rfl rfl ?_
            refine ov_goto (tgt := 155) d_253_151 (by decide) ?_
            refine ov_blk (ls2 := [(0, ov_r 90), (1, ov_i way), (2, ov_i run), (3, ov_i (h 103 0)), (4, ov_i (h 103 1))]) (st2 := [ov_i ((h28 103 3) + 1), ov_i 3, ov_r 103]) (pc2 := 156) b_253_155_1 rfl rfl ?_
            refine ov_havw (fun w81 gw81 qw81 => ?_)
            refine ov_iast d_253_156 (zb_103 I76) (zs_103 I76) (by omega) ?_
            have I82 := ua_103 (k := 3) (x := w81) I76 (by refine ⟨?_, ?_, ?_, ?_, ?_, ?_⟩ <;> omega)
            refine ov_blk (ls2 := [(0, ov_r 90), (1, ov_i way), (2, ov_i run), (3, ov_i (h 103 0)), (4, ov_i (h 103 1))]) (st2 := [ov_r 90]) (pc2 := 158) b_253_157_1 rfl rfl ?_
            refine ov_getf (v := ov_r 103) d_253_158 fl_Mo_102 (zb_90 I82) (zs_90 I82) (congrArg ov_r (rg_90_19 I82)) ?_
            refine ov_blk (ls2 := [(0, ov_r 90), (1, ov_i way), (2, ov_i run), (3, ov_i (h 103 0)), (4, ov_i (h 103 1))]) (st2 := [ov_i 2, ov_r 103]) (pc2 := 162) b_253_161_1 rfl rfl ?_
            refine ov_iald d_253_162 (zb_103 I82) (zs_103 I82) (by omega) ?_
            show ov_R u d ov_m253 163 [(0, ov_r 90), (1, ov_i way), (2, ov_i run), (3, ov_i (h 103 0)), (4, ov_i (h 103 1))] [ov_i w69] z27 (ov_up (ov_up (ov_up (ov_up h28 103 2 w69) 103 0 w72) 103 1 w75) 103 3 w81) (P_Mo_go_90 F z h way run)
            exact ov_reti (st := []) d_253_163 rfl ⟨_, rfl, I82, (by show -2147483648 ≤ w69 ∧ w69 ≤ 2147483647 ∧ (h28 90 2) = (h 90 2) ∧ (h28 90 3) = (h 90 3) ∧ (h28 90 7) = (h 90 7) ∧ (h28 90 8) = (h 90 8) ∧ (h28 90 13) = (h 90 13) ∧ (h28 90 22) = (h 90 22) ∧ (h28 90 25) = (h 90 25) ∧ (h28 90 26) = (h 90 26) ∧ (h28 90 27) = (h 90 27) ∧ (h28 90 28) = (h 90 28) ∧ (h28 90 29) = (h 90 29) ∧ (h28 90 30) = (h 90 30) ∧ (h28 90 34) = (h 90 34) ∧ (h28 90 35) = (h 90 35) ∧ (h28 90 37) = (h 90 37); omega), E30, E31, E32, E33, E34, E35, E36, E37, E38, E39, E40, E41⟩
      · skip
        refine ov_blk (ls2 := [(0, ov_r 90), (1, ov_i way), (2, ov_i run), (3, ov_i (h 103 0)), (4, ov_i (h 103 1))]) (st2 := [ov_r 90]) (pc2 := 45) b_253_44_1 rfl rfl ?_
        refine ov_getf (v := ov_r 96) d_253_45 fl_Mo_81 (zb_90 I1) (zs_90 I1) (congrArg ov_r (rg_90_10 I1)) ?_
        refine ov_blk (ls2 := [(0, ov_r 90), (1, ov_i way), (2, ov_i run), (3, ov_i (h 103 0)), (4, ov_i (h 103 1))]) (st2 := [ov_i 6, ov_r 96]) (pc2 := 50) b_253_48_1 rfl rfl ?_
        refine ov_iald d_253_50 (zb_96 I1) (zs_96 I1) (by omega) ?_
        show ov_R u d ov_m253 51 [(0, ov_r 90), (1, ov_i way), (2, ov_i run), (3, ov_i (h 103 0)), (4, ov_i (h 103 1))] [ov_i (h 96 6)] z (ov_up h 90 0 0) (P_Mo_go_90 F z h way run)
        have g83 := t96_6 I
        refine ov_blk (ls2 := [(0, ov_r 90), (1, ov_i way), (2, ov_i run), (3, ov_i (h 103 0)), (4, ov_i (h 103 1))]) (st2 := [ov_i 1, ov_i (h 96 6)]) (pc2 := 52) b_253_51_1 rfl rfl ?_
        refine ov_iceq (tgt := 70) d_253_52 (by decide) (by omega) (by omega) (fun c84 => ?_) (fun c84 => ?_)
        · skip
          refine ov_blk (ls2 := [(0, ov_r 90), (1, ov_i way), (2, ov_i run), (3, ov_i (h 103 0)), (4, ov_i (h 103 1))]) (st2 := [ov_i (-1)]) (pc2 := 71) b_253_70_1 rfl rfl ?_
          exact ov_reti (st := []) d_253_71 rfl ⟨_, rfl, I1, (by show -2147483648 ≤ (-1) ∧ (-1) ≤ 2147483647 ∧ (h 90 2) = (h 90 2) ∧ (h 90 3) = (h 90 3) ∧ (h 90 7) = (h 90 7) ∧ (h 90 8) = (h 90 8) ∧ (h 90 13) = (h 90 13) ∧ (h 90 22) = (h 90 22) ∧ (h 90 25) = (h 90 25) ∧ (h 90 26) = (h 90 26) ∧ (h 90 27) = (h 90 27) ∧ (h 90 28) = (h 90 28) ∧ (h 90 29) = (h 90 29) ∧ (h 90 30) = (h 90 30) ∧ (h 90 34) = (h 90 34) ∧ (h 90 35) = (h 90 35) ∧ (h 90 37) = (h 90 37); omega), rfl, rfl, rfl, rfl, rfl, rfl, rfl, rfl, rfl, rfl, rfl, rfl⟩
        · skip
          refine ov_blk (ls2 := [(0, ov_r 90), (1, ov_i way), (2, ov_i run), (3, ov_i (h 103 0)), (4, ov_i (h 103 1))]) (st2 := [ov_r 90]) (pc2 := 56) b_253_55_1 rfl rfl ?_
          refine ov_getf (v := ov_r 103) d_253_56 fl_Mo_102 (zb_90 I1) (zs_90 I1) (congrArg ov_r (rg_90_19 I1)) ?_
          refine ov_blk (ls2 := [(0, ov_r 90), (1, ov_i way), (2, ov_i run), (3, ov_i (h 103 0)), (4, ov_i (h 103 1))]) (st2 := [ov_i 3, ov_r 103]) (pc2 := 60) b_253_59_1 rfl rfl ?_
          refine ov_iald d_253_60 (zb_103 I1) (zs_103 I1) (by omega) ?_
          show ov_R u d ov_m253 61 [(0, ov_r 90), (1, ov_i way), (2, ov_i run), (3, ov_i (h 103 0)), (4, ov_i (h 103 1))] [ov_i (h 103 3)] z (ov_up h 90 0 0) (P_Mo_go_90 F z h way run)
          have g85 := ra_103 I 3
          refine ov_blk (ls2 := [(0, ov_r 90), (1, ov_i way), (2, ov_i run), (3, ov_i (h 103 0)), (4, ov_i (h 103 1))]) (st2 := [ov_r 90, ov_i (h 103 3)]) (pc2 := 62) b_253_61_1 rfl rfl ?_
          refine ov_getf (v := ov_r 96) d_253_62 fl_Mo_81 (zb_90 I1) (zs_90 I1) (congrArg ov_r (rg_90_10 I1)) ?_
          refine ov_blk (ls2 := [(0, ov_r 90), (1, ov_i way), (2, ov_i run), (3, ov_i (h 103 0)), (4, ov_i (h 103 1))]) (st2 := [ov_i 5, ov_r 96, ov_i (h 103 3)]) (pc2 := 66) b_253_65_1 rfl rfl ?_
          refine ov_iald d_253_66 (zb_96 I1) (zs_96 I1) (by omega) ?_
          show ov_R u d ov_m253 67 [(0, ov_r 90), (1, ov_i way), (2, ov_i run), (3, ov_i (h 103 0)), (4, ov_i (h 103 1))] [ov_i (h 96 5), ov_i (h 103 3)] z (ov_up h 90 0 0) (P_Mo_go_90 F z h way run)
          have g86 := t96_5 I
          refine ov_icne (tgt := 72) d_253_67 (by decide) (by omega) (by omega) (fun c87 => ?_) (fun c87 => ?_)
          · skip
            refine ov_blk (ls2 := [(0, ov_r 90), (1, ov_i way), (2, ov_i run), (3, ov_i (h 103 0)), (4, ov_i (h 103 1))]) (st2 := [ov_r 90]) (pc2 := 73) b_253_72_1 rfl rfl ?_
            refine ov_cV (as := []) (st := []) (d2 := d - 1) d_253_73 lk_Mo_329 rfl (Nat.le_of_ble_eq_true rfl) (c := 1) (zb_90 I1) (zs_90 I1) ⟨by decide, rfl⟩ (by omega) (c_Mo_keeps_90 (d - 1) (by omega) U I1) ?_
            rintro _ z102 h103 ⟨rfl, I104, f88, e89, e90, e91, e92, e93, e94, e95, e96, e97, e98, e99, e100, y101⟩
            have E105 : h103 92 = h 92 := e89
            have E106 : h103 93 = h 93 := e90
            have E107 : h103 94 = h 94 := e91
            have E108 : h103 96 = h 96 := e92
            have E109 : h103 97 = h 97 := e93
            have E110 : h103 98 = h 98 := e94
            have E111 : h103 99 = h 99 := e95
            have E112 : h103 100 = h 100 := e96
            have E113 : h103 105 = h 105 := e97
            have E114 : h103 106 = h 106 := e98
            have E115 : h103 109 = h 109 := e99
            have E116 : h103 114 = h 114 := e100
            show ov_R u d ov_m253 76 [(0, ov_r 90), (1, ov_i way), (2, ov_i run), (3, ov_i (h 103 0)), (4, ov_i (h 103 1))] [] z102 h103 (P_Mo_go_90 F z h way run)
            have f117 : (h103 90 2) = (h 90 2) ∧ (h103 90 3) = (h 90 3) ∧ (h103 90 7) = (h 90 7) ∧ (h103 90 8) = (h 90 8) ∧ (h103 90 13) = (h 90 13) ∧ (h103 90 22) = (h 90 22) ∧ (h103 90 25) = (h 90 25) ∧ (h103 90 26) = (h 90 26) ∧ (h103 90 27) = (h 90 27) ∧ (h103 90 28) = (h 90 28) ∧ (h103 90 29) = (h 90 29) ∧ (h103 90 30) = (h 90 30) ∧ (h103 90 34) = (h 90 34) ∧ (h103 90 35) = (h 90 35) ∧ (h103 90 37) = (h 90 37) := f88
            clear f88
            have y101_ : ∀ j : Int, j < 600 → (h103 103) j = (h 103) j := y101
            have xg0 := y101_ 0 (by decide)
            have xg1 := y101_ 1 (by decide)
            have xg2 := y101_ 2 (by decide)
            have xg3 := y101_ 3 (by decide)
            refine ov_blk (ls2 := [(0, ov_r 90), (1, ov_i way), (2, ov_i run), (3, ov_i (h 103 0)), (4, ov_i (h 103 1))]) (st2 := [ov_r 90]) (pc2 := 77) b_253_76_1 rfl rfl ?_
            refine ov_getf (v := ov_r 103) d_253_77 fl_Mo_102 (zb_90 I104) (zs_90 I104) (congrArg ov_r (rg_90_19 I104)) ?_
            refine ov_blk (ls2 := [(0, ov_r 90), (1, ov_i way), (2, ov_i run), (3, ov_i (h 103 0)), (4, ov_i (h 103 1))]) (st2 := [ov_i 2, ov_r 103, ov_i 2, ov_r 103]) (pc2 := 82) b_253_80_2 rfl rfl ?_
            refine ov_iald d_253_82 (zb_103 I104) (zs_103 I104) (by omega) ?_
            have g118 := ra_103 I104 2
            refine ov_blk (ls2 := [(0, ov_r 90), (1, ov_i way), (2, ov_i run), (3, ov_i (h 103 0)), (4, ov_i (h 103 1))]) (st2 := [ov_r 90, ov_i way, ov_i (h 103 1), ov_i (h 103 0), ov_r 90, ov_i (h103 103 2), ov_i 2, ov_r 103]) (pc2 := 89) b_253_83_5 rfl rfl ?_
            refine ov_getf (v := ov_r 103) d_253_89 fl_Mo_102 (zb_90 I104) (zs_90 I104) (congrArg ov_r (rg_90_19 I104)) ?_
            refine ov_blk (ls2 := [(0, ov_r 90), (1, ov_i way), (2, ov_i run), (3, ov_i (h 103 0)), (4, ov_i (h 103 1))]) (st2 := [ov_i 2, ov_r 103, ov_i way, ov_i (h 103 1), ov_i (h 103 0), ov_r 90, ov_i (h103 103 2), ov_i 2, ov_r 103]) (pc2 := 93) b_253_92_1 rfl rfl ?_
            refine ov_iald d_253_93 (zb_103 I104) (zs_103 I104) (by omega) ?_
            refine ov_cV (as := [ov_i (h 103 0), ov_i (h 103 1), ov_i way, ov_i (h103 103 2)]) (st := [ov_i (h103 103 2), ov_i 2, ov_r 103]) (d2 := d - 1) d_253_94 lk_Mo_315 rfl (Nat.le_of_ble_eq_true rfl) (c := 1) (zb_90 I104) (zs_90 I104) ⟨by decide, rfl⟩ (by omega) (c_Mo_waitFor_90 (d - 1) (by omega) U I104 (h 103 0) (h 103 1) way (h103 103 2) (by omega) (by omega) (by omega) (by omega) (by omega) (by omega) (by omega) (by omega) (by rw [show h103 96 = h 96 from E108]; exact W)) ?_
            rintro _ _ _ ⟨v121, rfl, rfl, rfl, f120⟩
            show ov_R u d ov_m253 97 [(0, ov_r 90), (1, ov_i way), (2, ov_i run), (3, ov_i (h 103 0)), (4, ov_i (h 103 1))] [ov_i v121, ov_i (h103 103 2), ov_i 2, ov_r 103] z102 h103 (P_Mo_go_90 F z h way run)
            rw [show h103 96 = h 96 from E108] at f120
            have f122 : 0 ≤ v121 ∧ v121 ≤ 59 ∧ v121 = ov_wm (h 96) (6 * (h 103 1) + (h 103 0)) way (h103 103 2) := f120
            clear f120
            refine ov_blk (ls2 := [(0, ov_r 90), (1, ov_i way), (2, ov_i run), (3, ov_i (h 103 0)), (4, ov_i (h 103 1))]) (st2 := [ov_i run, ov_i v121, ov_i (h103 103 2), ov_i 2, ov_r 103]) (pc2 := 98) b_253_97_1 rfl rfl ?_
            refine ov_ifeq (tgt := 108) d_253_98 (by decide) (by omega) (fun c123 => ?_) (fun c123 => ?_)
            · skip
              refine ov_blk (ls2 := [(0, ov_r 90), (1, ov_i way), (2, ov_i run), (3, ov_i (h 103 0)), (4, ov_i (h 103 1))]) (st2 := [ov_r 90, ov_i v121, ov_i (h103 103 2), ov_i 2, ov_r 103]) (pc2 := 109) b_253_108_1 rfl rfl ?_
              refine ov_getf (v := ov_r 96) d_253_109 fl_Mo_81 (zb_90 I104) (zs_90 I104) (congrArg ov_r (rg_90_10 I104)) ?_
              refine ov_blk (ls2 := [(0, ov_r 90), (1, ov_i way), (2, ov_i run), (3, ov_i (h 103 0)), (4, ov_i (h 103 1))]) (st2 := [ov_i 2, ov_r 96, ov_i v121, ov_i (h103 103 2), ov_i 2, ov_r 103]) (pc2 := 113) b_253_112_1 rfl rfl ?_
              refine ov_iald d_253_113 (zb_96 I104) (zs_96 I104) (by omega) ?_
              rw [show h103 96 = h 96 from E108]
              have g124 := t96_2 I
              refine ov_blk (ls2 := [(0, ov_r 90), (1, ov_i way), (2, ov_i run), (3, ov_i (h 103 0)), (4, ov_i (h 103 1))]) (st2 := [ov_i (v121 + (h 96 2)), ov_i (h103 103 2), ov_i 2, ov_r 103]) (pc2 := 115) b_253_114_1 rfl rfl ?_
              refine ov_havw (fun w125 gw125 qw125 => ?_)
              refine ov_blk (ls2 := [(0, ov_r 90), (1, ov_i way), (2, ov_i run), (3, ov_i (h 103 0)), (4, ov_i (h 103 1))]) (st2 := [ov_i ((h103 103 2) + w125), ov_i 2, ov_r 103]) (pc2 := 116) b_253_115_1 rfl rfl ?_
              refine ov_havw (fun w126 gw126 qw126 => ?_)
              refine ov_iast d_253_116 (zb_103 I104) (zs_103 I104) (by omega) ?_
              have I127 := ua_103 (k := 2) (x := w126) I104 (by refine ⟨?_, ?_, ?_, ?_, ?_, ?_⟩ <;> omega)
              refine ov_blk (ls2 := [(0, ov_r 90), (1, ov_i way), (2, ov_i run), (3, ov_i (h 103 0)), (4, ov_i (h 103 1))]) (st2 := [ov_r 90]) (pc2 := 118) b_253_117_1 rfl rfl ?_
              refine ov_getf (v := ov_r 103) d_253_118 fl_Mo_102 (zb_90 I127) (zs_90 I127) (congrArg ov_r (rg_90_19 I127)) ?_
              refine ov_blk (ls2 := [(0, ov_r 90), (1, ov_i way), (2, ov_i run), (3, ov_i (h 103 0)), (4, ov_i (h 103 1))]) (st2 := [ov_i 0, ov_r 103, ov_i 0, ov_r 103]) (pc2 := 123) b_253_121_2 rfl rfl ?_
              refine ov_iald d_253_123 (zb_103 I127) (zs_103 I127) (by omega) ?_
              show ov_R u d ov_m253 124 [(0, ov_r 90), (1, ov_i way), (2, ov_i run), (3, ov_i (h 103 0)), (4, ov_i (h 103 1))] [ov_i (h103 103 0), ov_i 0, ov_r 103] z102 (ov_up h103 103 2 w126) (P_Mo_go_90 F z h way run)
              have g128 := ra_103 I104 0
              refine ov_blk (ls2 := [(0, ov_r 90), (1, ov_i way), (2, ov_i run), (3, ov_i (h 103 0)), (4, ov_i (h 103 1))]) (st2 := [ov_i ((h103 103 0) + (1 - way)), ov_i 0, ov_r 103]) (pc2 := 128) b_253_124_4 rfl rfl ?_
              refine ov_havw (fun w129 gw129 qw129 => ?_)
              refine ov_iast d_253_128 (zb_103 I127) (zs_103 I127) (by omega) ?_
              have I130 := ua_103 (k := 0) (x := w129) I127 (by refine ⟨?_, ?_, ?_, ?_, ?_, ?_⟩ <;> omega)
              refine ov_blk (ls2 := [(0, ov_r 90), (1, ov_i way), (2, ov_i run), (3, ov_i (h 103 0)), (4, ov_i (h 103 1))]) (st2 := [ov_r 90]) (pc2 := 130) b_253_129_1 rfl rfl ?_
              refine ov_getf (v := ov_r 103) d_253_130 fl_Mo_102 (zb_90 I130) (zs_90 I130) (congrArg ov_r (rg_90_19 I130)) ?_
              refine ov_blk (ls2 := [(0, ov_r 90), (1, ov_i way), (2, ov_i run), (3, ov_i (h 103 0)), (4, ov_i (h 103 1))]) (st2 := [ov_i 1, ov_r 103, ov_i 1, ov_r 103]) (pc2 := 135) b_253_133_2 rfl rfl ?_
              refine ov_iald d_253_135 (zb_103 I130) (zs_103 I130) (by omega) ?_
              show ov_R u d ov_m253 136 [(0, ov_r 90), (1, ov_i way), (2, ov_i run), (3, ov_i (h 103 0)), (4, ov_i (h 103 1))] [ov_i (h103 103 1), ov_i 1, ov_r 103] z102 (ov_up (ov_up h103 103 2 w126) 103 0 w129) (P_Mo_go_90 F z h way run)
              have g131 := ra_103 I104 1
              refine ov_blk (ls2 := [(0, ov_r 90), (1, ov_i way), (2, ov_i run), (3, ov_i (h 103 0)), (4, ov_i (h 103 1))]) (st2 := [ov_i ((h103 103 1) + way), ov_i 1, ov_r 103]) (pc2 := 138) b_253_136_2 rfl rfl ?_
              refine ov_havw (fun w132 gw132 qw132 => ?_)
              refine ov_iast d_253_138 (zb_103 I130) (zs_103 I130) (by omega) ?_
              have I133 := ua_103 (k := 1) (x := w132) I130 (by refine ⟨?_, ?_, ?_, ?_, ?_, ?_⟩ <;> omega)
              refine ov_blk (ls2 := [(0, ov_r 90), (1, ov_i way), (2, ov_i run), (3, ov_i (h 103 0)), (4, ov_i (h 103 1))]) (st2 := [ov_r 90]) (pc2 := 140) b_253_139_1 rfl rfl ?_
              refine ov_getf (v := ov_r 103) d_253_140 fl_Mo_102 (zb_90 I133) (zs_90 I133) (congrArg ov_r (rg_90_19 I133)) ?_
              refine ov_blk (ls2 := [(0, ov_r 90), (1, ov_i way), (2, ov_i run), (3, ov_i (h 103 0)), (4, ov_i (h 103 1))]) (st2 := [ov_i 3, ov_r 103, ov_i 3, ov_r 103]) (pc2 := 145) b_253_143_2 rfl rfl ?_
              refine ov_iald d_253_145 (zb_103 I133) (zs_103 I133) (by omega) ?_
              show ov_R u d ov_m253 146 [(0, ov_r 90), (1, ov_i way), (2, ov_i run), (3, ov_i (h 103 0)), (4, ov_i (h 103 1))] [ov_i (h103 103 3), ov_i 3, ov_r 103] z102 (ov_up (ov_up (ov_up h103 103 2 w126) 103 0 w129) 103 1 w132) (P_Mo_go_90 F z h way run)
              have g134 := ra_103 I104 3
              refine ov_blk (ls2 := [(0, ov_r 90), (1, ov_i way), (2, ov_i run), (3, ov_i (h 103 0)), (4, ov_i (h 103 1))]) (st2 := [ov_i run, ov_i (h103 103 3), ov_i 3, ov_r 103]) (pc2 := 147) b_253_146_1 rfl rfl ?_
              refine ov_ifeq (tgt := 154) d_253_147 (by decide) (by omega) (fun c135 => ?_) (fun c135 => ?_)
              · skip
                refine ov_blk (ls2 := [(0, ov_r 90), (1, ov_i way), (2, ov_i run), (3, ov_i (h 103 0)), (4, ov_i (h 103 1))]) (st2 := [ov_i ((h103 103 3) + 0), ov_i 3, ov_r 103]) (pc2 := 156) b_253_154_2 rfl rfl ?_
                refine ov_havw (fun w136 gw136 qw136 => ?_)
                refine ov_iast d_253_156 (zb_103 I133) (zs_103 I133) (by omega) ?_
                have I137 := ua_103 (k := 3) (x := w136) I133 (by refine ⟨?_, ?_, ?_, ?_, ?_, ?_⟩ <;> omega)
                refine ov_blk (ls2 := [(0, ov_r 90), (1, ov_i way), (2, ov_i run), (3, ov_i (h 103 0)), (4, ov_i (h 103 1))]) (st2 := [ov_r 90]) (pc2 := 158) b_253_157_1 rfl rfl ?_
                refine ov_getf (v := ov_r 103) d_253_158 fl_Mo_102 (zb_90 I137) (zs_90 I137) (congrArg ov_r (rg_90_19 I137)) ?_
                refine ov_blk (ls2 := [(0, ov_r 90), (1, ov_i way), (2, ov_i run), (3, ov_i (h 103 0)), (4, ov_i (h 103 1))]) (st2 := [ov_i 2, ov_r 103]) (pc2 := 162) b_253_161_1 rfl rfl ?_
                refine ov_iald d_253_162 (zb_103 I137) (zs_103 I137) (by omega) ?_
                show ov_R u d ov_m253 163 [(0, ov_r 90), (1, ov_i way), (2, ov_i run), (3, ov_i (h 103 0)), (4, ov_i (h 103 1))] [ov_i w126] z102 (ov_up (ov_up (ov_up (ov_up h103 103 2 w126) 103 0 w129) 103 1 w132) 103 3 w136) (P_Mo_go_90 F z h way run)
                exact ov_reti (st := []) d_253_163 rfl ⟨_, rfl, I137, (by show -2147483648 ≤ w126 ∧ w126 ≤ 2147483647 ∧ (h103 90 2) = (h 90 2) ∧ (h103 90 3) = (h 90 3) ∧ (h103 90 7) = (h 90 7) ∧ (h103 90 8) = (h 90 8) ∧ (h103 90 13) = (h 90 13) ∧ (h103 90 22) = (h 90 22) ∧ (h103 90 25) = (h 90 25) ∧ (h103 90 26) = (h 90 26) ∧ (h103 90 27) = (h 90 27) ∧ (h103 90 28) = (h 90 28) ∧ (h103 90 29) = (h 90 29) ∧ (h103 90 30) = (h 90 30) ∧ (h103 90 34) = (h 90 34) ∧ (h103 90 35) = (h 90 35) ∧ (h103 90 37) = (h 90 37); omega), E105, E106, E107, E108, E109, E110, E111, E112, E113, E114, E115, E116⟩
              · skip
                refine ov_blk (ls2 := [(0, ov_r 90), (1, ov_i way), (2, ov_i run), (3, ov_i (h 103 0)), (4, ov_i (h 103 1))]) (st2 := [ov_i 1, ov_i (h103 103 3), ov_i 3, ov_r 103]) (pc2 := 151) b_253_150_1 rfl rfl ?_
                refine ov_goto (tgt := 155) d_253_151 (by decide) ?_
                refine ov_blk (ls2 := [(0, ov_r 90), (1, ov_i way), (2, ov_i run), (3, ov_i (h 103 0)), (4, ov_i (h 103 1))]) (st2 := [ov_i ((h103 103 3) + 1), ov_i 3, ov_r 103]) (pc2 := 156) b_253_155_1 rfl rfl ?_
                refine ov_havw (fun w138 gw138 qw138 => ?_)
                refine ov_iast d_253_156 (zb_103 I133) (zs_103 I133) (by omega) ?_
                have I139 := ua_103 (k := 3) (x := w138) I133 (by refine ⟨?_, ?_, ?_, ?_, ?_, ?_⟩ <;> omega)
                refine ov_blk (ls2 := [(0, ov_r 90), (1, ov_i way), (2, ov_i run), (3, ov_i (h 103 0)), (4, ov_i (h 103 1))]) (st2 := [ov_r 90]) (pc2 := 158) b_253_157_1 rfl rfl ?_
                refine ov_getf (v := ov_r 103) d_253_158 fl_Mo_102 (zb_90 I139) (zs_90 I139) (congrArg ov_r (rg_90_19 I139)) ?_
                refine ov_blk (ls2 := [(0, ov_r 90), (1, ov_i way), (2, ov_i run), (3, ov_i (h 103 0)), (4, ov_i (h 103 1))]) (st2 := [ov_i 2, ov_r 103]) (pc2 := 162) b_253_161_1 rfl rfl ?_
                refine ov_iald d_253_162 (zb_103 I139) (zs_103 I139) (by omega) ?_
                show ov_R u d ov_m253 163 [(0, ov_r 90), (1, ov_i way), (2, ov_i run), (3, ov_i (h 103 0)), (4, ov_i (h 103 1))] [ov_i w126] z102 (ov_up (ov_up (ov_up (ov_up h103 103 2 w126) 103 0 w129) 103 1 w132) 103 3 w138) (P_Mo_go_90 F z h way run)
                exact ov_reti (st := []) d_253_163 rfl ⟨_, rfl, I139, (by show -2147483648 ≤ w126 ∧ w126 ≤ 2147483647 ∧ (h103 90 2) = (h 90 2) ∧ (h103 90 3) = (h 90 3) ∧ (h103 90 7) = (h 90 7) ∧ (h103 90 8) = (h 90 8) ∧ (h103 90 13) = (h 90 13) ∧ (h103 90 22) = (h 90 22) ∧ (h103 90 25) = (h 90 25) ∧ (h103 90 26) = (h 90 26) ∧ (h103 90 27) = (h 90 27) ∧ (h103 90 28) = (h 90 28) ∧ (h103 90 29) = (h 90 29) ∧ (h103 90 30) = (h 90 30) ∧ (h103 90 34) = (h 90 34) ∧ (h103 90 35) = (h 90 35) ∧ (h103 90 37) = (h 90 37); omega), E105, E106, E107, E108, E109, E110, E111, E112, E113, E114, E115, E116⟩
            · skip
              refine ov_blk (ls2 := [(0, ov_r 90), (1, ov_i way), (2, ov_i run), (3, ov_i (h 103 0)), (4, ov_i (h 103 1))]) (st2 := [ov_r 90, ov_i v121, ov_i (h103 103 2), ov_i 2, ov_r 103]) (pc2 := 102) b_253_101_1 rfl rfl ?_
              refine ov_cV (as := []) (st := [ov_i v121, ov_i (h103 103 2), ov_i 2, ov_r 103]) (d2 := d - 1) d_253_102 lk_Mo_332 rfl (Nat.le_of_ble_eq_true rfl) (c := 1) (zb_90 I104) (zs_90 I104) ⟨by decide, rfl⟩ (by omega) (c_Mo_runTime_90 (d - 1) (by omega) U I104) ?_
              rintro _ _ _ ⟨v141, rfl, rfl, rfl, f140⟩
              show ov_R u d ov_m253 105 [(0, ov_r 90), (1, ov_i way), (2, ov_i run), (3, ov_i (h 103 0)), (4, ov_i (h 103 1))] [ov_i v141, ov_i v121, ov_i (h103 103 2), ov_i 2, ov_r 103] z102 h103 (P_Mo_go_90 F z h way run)
              have f142 : 0 ≤ v141 ∧ v141 ≤ 30 := f140
              clear f140
              refine ov_goto (tgt := 114) d_253_105 (by decide) ?_
              refine ov_blk (ls2 := [(0, ov_r 90), (1, ov_i way), (2, ov_i run), (3, ov_i (h 103 0)), (4, ov_i (h 103 1))]) (st2 := [ov_i (v121 + v141), ov_i (h103 103 2), ov_i 2, ov_r 103]) (pc2 := 115) b_253_114_1 rfl rfl ?_
              refine ov_havw (fun w143 gw143 qw143 => ?_)
              refine ov_blk (ls2 := [(0, ov_r 90), (1, ov_i way), (2, ov_i run), (3, ov_i (h 103 0)), (4, ov_i (h 103 1))]) (st2 := [ov_i ((h103 103 2) + w143), ov_i 2, ov_r 103]) (pc2 := 116) b_253_115_1 rfl rfl ?_
              refine ov_havw (fun w144 gw144 qw144 => ?_)
              refine ov_iast d_253_116 (zb_103 I104) (zs_103 I104) (by omega) ?_
              have I145 := ua_103 (k := 2) (x := w144) I104 (by refine ⟨?_, ?_, ?_, ?_, ?_, ?_⟩ <;> omega)
              refine ov_blk (ls2 := [(0, ov_r 90), (1, ov_i way), (2, ov_i run), (3, ov_i (h 103 0)), (4, ov_i (h 103 1))]) (st2 := [ov_r 90]) (pc2 := 118) b_253_117_1 rfl rfl ?_
              refine ov_getf (v := ov_r 103) d_253_118 fl_Mo_102 (zb_90 I145) (zs_90 I145) (congrArg ov_r (rg_90_19 I145)) ?_
              refine ov_blk (ls2 := [(0, ov_r 90), (1, ov_i way), (2, ov_i run), (3, ov_i (h 103 0)), (4, ov_i (h 103 1))]) (st2 := [ov_i 0, ov_r 103, ov_i 0, ov_r 103]) (pc2 := 123) b_253_121_2 rfl rfl ?_
              refine ov_iald d_253_123 (zb_103 I145) (zs_103 I145) (by omega) ?_
              show ov_R u d ov_m253 124 [(0, ov_r 90), (1, ov_i way), (2, ov_i run), (3, ov_i (h 103 0)), (4, ov_i (h 103 1))] [ov_i (h103 103 0), ov_i 0, ov_r 103] z102 (ov_up h103 103 2 w144) (P_Mo_go_90 F z h way run)
              have g146 := ra_103 I104 0
              refine ov_blk (ls2 := [(0, ov_r 90), (1, ov_i way), (2, ov_i run), (3, ov_i (h 103 0)), (4, ov_i (h 103 1))]) (st2 := [ov_i ((h103 103 0) + (1 - way)), ov_i 0, ov_r 103]) (pc2 := 128) b_253_124_4 rfl rfl ?_
              refine ov_havw (fun w147 gw147 qw147 => ?_)
              refine ov_iast d_253_128 (zb_103 I145) (zs_103 I145) (by omega) ?_
              have I148 := ua_103 (k := 0) (x := w147) I145 (by refine ⟨?_, ?_, ?_, ?_, ?_, ?_⟩ <;> omega)
              refine ov_blk (ls2 := [(0, ov_r 90), (1, ov_i way), (2, ov_i run), (3, ov_i (h 103 0)), (4, ov_i (h 103 1))]) (st2 := [ov_r 90]) (pc2 := 130) b_253_129_1 rfl rfl ?_
              refine ov_getf (v := ov_r 103) d_253_130 fl_Mo_102 (zb_90 I148) (zs_90 I148) (congrArg ov_r (rg_90_19 I148)) ?_
              refine ov_blk (ls2 := [(0, ov_r 90), (1, ov_i way), (2, ov_i run), (3, ov_i (h 103 0)), (4, ov_i (h 103 1))]) (st2 := [ov_i 1, ov_r 103, ov_i 1, ov_r 103]) (pc2 := 135) b_253_133_2 rfl rfl ?_
              refine ov_iald d_253_135 (zb_103 I148) (zs_103 I148) (by omega) ?_
              show ov_R u d ov_m253 136 [(0, ov_r 90), (1, ov_i way), (2, ov_i run), (3, ov_i (h 103 0)), (4, ov_i (h 103 1))] [ov_i (h103 103 1), ov_i 1, ov_r 103] z102 (ov_up (ov_up h103 103 2 w144) 103 0 w147) (P_Mo_go_90 F z h way run)
              have g149 := ra_103 I104 1
              refine ov_blk (ls2 := [(0, ov_r 90), (1, ov_i way), (2, ov_i run), (3, ov_i (h 103 0)), (4, ov_i (h 103 1))]) (st2 := [ov_i ((h103 103 1) + way), ov_i 1, ov_r 103]) (pc2 := 138) b_253_136_2 rfl rfl ?_
              refine ov_havw (fun w150 gw150 qw150 => ?_)
              refine ov_iast d_253_138 (zb_103 I148) (zs_103 I148) (by omega) ?_
              have I151 := ua_103 (k := 1) (x := w150) I148 (by refine ⟨?_, ?_, ?_, ?_, ?_, ?_⟩ <;> omega)
              refine ov_blk (ls2 := [(0, ov_r 90), (1, ov_i way), (2, ov_i run), (3, ov_i (h 103 0)), (4, ov_i (h 103 1))]) (st2 := [ov_r 90]) (pc2 := 140) b_253_139_1 rfl rfl ?_
              refine ov_getf (v := ov_r 103) d_253_140 fl_Mo_102 (zb_90 I151) (zs_90 I151) (congrArg ov_r (rg_90_19 I151)) ?_
              refine ov_blk (ls2 := [(0, ov_r 90), (1, ov_i way), (2, ov_i run), (3, ov_i (h 103 0)), (4, ov_i (h 103 1))]) (st2 := [ov_i 3, ov_r 103, ov_i 3, ov_r 103]) (pc2 := 145) b_253_143_2 rfl rfl ?_
              refine ov_iald d_253_145 (zb_103 I151) (zs_103 I151) (by omega) ?_
              show ov_R u d ov_m253 146 [(0, ov_r 90), (1, ov_i way), (2, ov_i run), (3, ov_i (h 103 0)), (4, ov_i (h 103 1))] [ov_i (h103 103 3), ov_i 3, ov_r 103] z102 (ov_up (ov_up (ov_up h103 103 2 w144) 103 0 w147) 103 1 w150) (P_Mo_go_90 F z h way run)
              have g152 := ra_103 I104 3
              refine ov_blk (ls2 := [(0, ov_r 90), (1, ov_i way), (2, ov_i run), (3, ov_i (h 103 0)), (4, ov_i (h 103 1))]) (st2 := [ov_i run, ov_i (h103 103 3), ov_i 3, ov_r 103]) (pc2 := 147) b_253_146_1 rfl rfl ?_
              refine ov_ifeq (tgt := 154) d_253_147 (by decide) (by omega) (fun c153 => ?_) (fun c153 => ?_)
              · skip
                refine ov_blk (ls2 := [(0, ov_r 90), (1, ov_i way), (2, ov_i run), (3, ov_i (h 103 0)), (4, ov_i (h 103 1))]) (st2 := [ov_i ((h103 103 3) + 0), ov_i 3, ov_r 103]) (pc2 := 156) b_253_154_2 rfl rfl ?_
                refine ov_havw (fun w154 gw154 qw154 => ?_)
                refine ov_iast d_253_156 (zb_103 I151) (zs_103 I151) (by omega) ?_
                have I155 := ua_103 (k := 3) (x := w154) I151 (by refine ⟨?_, ?_, ?_, ?_, ?_, ?_⟩ <;> omega)
                refine ov_blk (ls2 := [(0, ov_r 90), (1, ov_i way), (2, ov_i run), (3, ov_i (h 103 0)), (4, ov_i (h 103 1))]) (st2 := [ov_r 90]) (pc2 := 158) b_253_157_1 rfl rfl ?_
                refine ov_getf (v := ov_r 103) d_253_158 fl_Mo_102 (zb_90 I155) (zs_90 I155) (congrArg ov_r (rg_90_19 I155)) ?_
                refine ov_blk (ls2 := [(0, ov_r 90), (1, ov_i way), (2, ov_i run), (3, ov_i (h 103 0)), (4, ov_i (h 103 1))]) (st2 := [ov_i 2, ov_r 103]) (pc2 := 162) b_253_161_1 rfl rfl ?_
                refine ov_iald d_253_162 (zb_103 I155) (zs_103 I155) (by omega) ?_
                show ov_R u d ov_m253 163 [(0, ov_r 90), (1, ov_i way), (2, ov_i run), (3, ov_i (h 103 0)), (4, ov_i (h 103 1))] [ov_i w144] z102 (ov_up (ov_up (ov_up (ov_up h103 103 2 w144) 103 0 w147) 103 1 w150) 103 3 w154) (P_Mo_go_90 F z h way run)
                exact ov_reti (st := []) d_253_163 rfl ⟨_, rfl, I155, (by show -2147483648 ≤ w144 ∧ w144 ≤ 2147483647 ∧ (h103 90 2) = (h 90 2) ∧ (h103 90 3) = (h 90 3) ∧ (h103 90 7) = (h 90 7) ∧ (h103 90 8) = (h 90 8) ∧ (h103 90 13) = (h 90 13) ∧ (h103 90 22) = (h 90 22) ∧ (h103 90 25) = (h 90 25) ∧ (h103 90 26) = (h 90 26) ∧ (h103 90 27) = (h 90 27) ∧ (h103 90 28) = (h 90 28) ∧ (h103 90 29) = (h 90 29) ∧ (h103 90 30) = (h 90 30) ∧ (h103 90 34) = (h 90 34) ∧ (h103 90 35) = (h 90 35) ∧ (h103 90 37) = (h 90 37); omega), E105, E106, E107, E108, E109, E110, E111, E112, E113, E114, E115, E116⟩
              · skip
                refine ov_blk (ls2 := [(0, ov_r 90), (1, ov_i way), (2, ov_i run), (3, ov_i (h 103 0)), (4, ov_i (h 103 1))]) (st2 := [ov_i 1, ov_i (h103 103 3), ov_i 3, ov_r 103]) (pc2 := 151) b_253_150_1 rfl rfl ?_
                refine ov_goto (tgt := 155) d_253_151 (by decide) ?_
                refine ov_blk (ls2 := [(0, ov_r 90), (1, ov_i way), (2, ov_i run), (3, ov_i (h 103 0)), (4, ov_i (h 103 1))]) (st2 := [ov_i ((h103 103 3) + 1), ov_i 3, ov_r 103]) (pc2 := 156) b_253_155_1 rfl rfl ?_
                refine ov_havw (fun w156 gw156 qw156 => ?_)
                refine ov_iast d_253_156 (zb_103 I151) (zs_103 I151) (by omega) ?_
                have I157 := ua_103 (k := 3) (x := w156) I151 (by refine ⟨?_, ?_, ?_, ?_, ?_, ?_⟩ <;> omega)
                refine ov_blk (ls2 := [(0, ov_r 90), (1, ov_i way), (2, ov_i run), (3, ov_i (h 103 0)), (4, ov_i (h 103 1))]) (st2 := [ov_r 90]) (pc2 := 158) b_253_157_1 rfl rfl ?_
                refine ov_getf (v := ov_r 103) d_253_158 fl_Mo_102 (zb_90 I157) (zs_90 I157) (congrArg ov_r (rg_90_19 I157)) ?_
                refine ov_blk (ls2 := [(0, ov_r 90), (1, ov_i way), (2, ov_i run), (3, ov_i (h 103 0)), (4, ov_i (h 103 1))]) (st2 := [ov_i 2, ov_r 103]) (pc2 := 162) b_253_161_1 rfl rfl ?_
                refine ov_iald d_253_162 (zb_103 I157) (zs_103 I157) (by omega) ?_
                show ov_R u d ov_m253 163 [(0, ov_r 90), (1, ov_i way), (2, ov_i run), (3, ov_i (h 103 0)), (4, ov_i (h 103 1))] [ov_i w144] z102 (ov_up (ov_up (ov_up (ov_up h103 103 2 w144) 103 0 w147) 103 1 w150) 103 3 w156) (P_Mo_go_90 F z h way run)
                exact ov_reti (st := []) d_253_163 rfl ⟨_, rfl, I157, (by show -2147483648 ≤ w144 ∧ w144 ≤ 2147483647 ∧ (h103 90 2) = (h 90 2) ∧ (h103 90 3) = (h 90 3) ∧ (h103 90 7) = (h 90 7) ∧ (h103 90 8) = (h 90 8) ∧ (h103 90 13) = (h 90 13) ∧ (h103 90 22) = (h 90 22) ∧ (h103 90 25) = (h 90 25) ∧ (h103 90 26) = (h 90 26) ∧ (h103 90 27) = (h 90 27) ∧ (h103 90 28) = (h 90 28) ∧ (h103 90 29) = (h 90 29) ∧ (h103 90 30) = (h 90 30) ∧ (h103 90 34) = (h 90 34) ∧ (h103 90 35) = (h 90 35) ∧ (h103 90 37) = (h 90 37); omega), E105, E106, E107, E108, E109, E110, E111, E112, E113, E114, E115, E116⟩
          · skip
            refine ov_blk (ls2 := [(0, ov_r 90), (1, ov_i way), (2, ov_i run), (3, ov_i (h 103 0)), (4, ov_i (h 103 1))]) (st2 := [ov_i (-1)]) (pc2 := 71) b_253_70_1 rfl rfl ?_
            exact ov_reti (st := []) d_253_71 rfl ⟨_, rfl, I1, (by show -2147483648 ≤ (-1) ∧ (-1) ≤ 2147483647 ∧ (h 90 2) = (h 90 2) ∧ (h 90 3) = (h 90 3) ∧ (h 90 7) = (h 90 7) ∧ (h 90 8) = (h 90 8) ∧ (h 90 13) = (h 90 13) ∧ (h 90 22) = (h 90 22) ∧ (h 90 25) = (h 90 25) ∧ (h 90 26) = (h 90 26) ∧ (h 90 27) = (h 90 27) ∧ (h 90 28) = (h 90 28) ∧ (h 90 29) = (h 90 29) ∧ (h 90 30) = (h 90 30) ∧ (h 90 34) = (h 90 34) ∧ (h 90 35) = (h 90 35) ∧ (h 90 37) = (h 90 37); omega), rfl, rfl, rfl, rfl, rfl, rfl, rfl, rfl, rfl, rfl, rfl, rfl⟩
abbrev P_Mo_stay_90 (F : ov_H × ov_Z) (z : ov_Z) (h : ov_H) (m : Int) : Option ov_V → ov_Z → ov_H → Prop := fun r0 z' h' => ∃ r : Int, r0 = some (ov_i r) ∧ ov_N F z' h' ∧ (-2147483648 ≤ r ∧ r ≤ 2147483647 ∧ (h' 90 2) = (h 90 2) ∧ (h' 90 3) = (h 90 3) ∧ (h' 90 7) = (h 90 7) ∧ (h' 90 8) = (h 90 8) ∧ (h' 90 13) = (h 90 13) ∧ (h' 90 22) = (h 90 22) ∧ (h' 90 25) = (h 90 25) ∧ (h' 90 26) = (h 90 26) ∧ (h' 90 27) = (h 90 27) ∧ (h' 90 28) = (h 90 28) ∧ (h' 90 29) = (h 90 29) ∧ (h' 90 30) = (h 90 30) ∧ (h' 90 34) = (h 90 34) ∧ (h' 90 35) = (h 90 35) ∧ (h' 90 37) = (h 90 37)) ∧ h' 92 = h 92 ∧ h' 93 = h 93 ∧ h' 94 = h 94 ∧ h' 96 = h 96 ∧ h' 97 = h 97 ∧ h' 98 = h 98 ∧ h' 99 = h 99 ∧ h' 100 = h 100 ∧ h' 105 = h 105 ∧ h' 106 = h 106 ∧ h' 109 = h 109 ∧ h' 114 = h 114
set_option maxHeartbeats 4000000 in
theorem c_Mo_stay_90 {u : ov_U} {F : ov_H × ov_Z} {z : ov_Z} {h : ov_H} (d : Nat) (hd : 2 ≤ d) (U : ov_cap u) (I : ov_N F z h) (m : Int) (g_m : ov_g m) (p0 : (h 103 2) ≤ ov_bd F - 1000) (p1 : 0 ≤ ov_bd F ∧ ov_bd F ≤ 800000000) : ov_T u d ov_m257 [ov_r 90, ov_i m] z h (P_Mo_stay_90 F z h m) := by
  refine ov_en rfl (Nat.le_of_ble_eq_true rfl) ?_
  show ov_R u d ov_m257 0 [(0, ov_r 90), (1, ov_i m)] [] z h (P_Mo_stay_90 F z h m)
  refine ov_blk (ls2 := [(0, ov_r 90), (1, ov_i m)]) (st2 := [ov_i 0, ov_r 90]) (pc2 := 2) b_257_0_2 rfl rfl ?_
  refine ov_putf (x := 0) d_257_2 fl_Mo_1 (zb_90 I) (zs_90 I) rfl nk_0 rfl ?_
  have I1 := up_90_0 (x := 0) I (by omega)
  refine ov_blk (ls2 := [(0, ov_r 90), (1, ov_i m)]) (st2 := [ov_i 1000, ov_i 1, ov_i m]) (pc2 := 10) b_257_5_3 rfl rfl ?_
  refine ov_cS (as := [ov_i m, ov_i 1, ov_i 1000]) (st := []) (d2 := d - 1) d_257_10 lk_Mo_299 rfl (Nat.le_of_ble_eq_true rfl) (by omega) (c_Mo_within (d - 1) (by omega) U I1 m 1 1000 (by omega) (by omega) (by omega)) ?_
  rintro _ _ _ ⟨v3, rfl, rfl, rfl, f2⟩
  show ov_R u d ov_m257 13 [(0, ov_r 90), (1, ov_i m)] [ov_i v3] z (ov_up h 90 0 0) (P_Mo_stay_90 F z h m)
  have f4 : (v3 = 0 ∨ v3 = 1) ∧ (v3 = 1 → (1 : Int) ≤ m ∧ m ≤ (1000 : Int)) ∧ (v3 = 0 → m < (1 : Int) ∨ (1000 : Int) < m) := f2
  clear f2
  refine ov_ifne (tgt := 18) d_257_13 (by decide) (by omega) (fun c5 => ?_) (fun c5 => ?_)
  · skip
    refine ov_blk (ls2 := [(0, ov_r 90), (1, ov_i m)]) (st2 := [ov_r 90]) (pc2 := 19) b_257_18_1 rfl rfl ?_
    refine ov_cV (as := []) (st := []) (d2 := d - 1) d_257_19 lk_Mo_329 rfl (Nat.le_of_ble_eq_true rfl) (c := 1) (zb_90 I1) (zs_90 I1) ⟨by decide, rfl⟩ (by omega) (c_Mo_keeps_90 (d - 1) (by omega) U I1) ?_
    rintro _ z20 h21 ⟨rfl, I22, f6, e7, e8, e9, e10, e11, e12, e13, e14, e15, e16, e17, e18, y19⟩
    have E23 : h21 92 = h 92 := e7
    have E24 : h21 93 = h 93 := e8
    have E25 : h21 94 = h 94 := e9
    have E26 : h21 96 = h 96 := e10
    have E27 : h21 97 = h 97 := e11
    have E28 : h21 98 = h 98 := e12
    have E29 : h21 99 = h 99 := e13
    have E30 : h21 100 = h 100 := e14
    have E31 : h21 105 = h 105 := e15
    have E32 : h21 106 = h 106 := e16
    have E33 : h21 109 = h 109 := e17
    have E34 : h21 114 = h 114 := e18
    show ov_R u d ov_m257 22 [(0, ov_r 90), (1, ov_i m)] [] z20 h21 (P_Mo_stay_90 F z h m)
    have f35 : (h21 90 2) = (h 90 2) ∧ (h21 90 3) = (h 90 3) ∧ (h21 90 7) = (h 90 7) ∧ (h21 90 8) = (h 90 8) ∧ (h21 90 13) = (h 90 13) ∧ (h21 90 22) = (h 90 22) ∧ (h21 90 25) = (h 90 25) ∧ (h21 90 26) = (h 90 26) ∧ (h21 90 27) = (h 90 27) ∧ (h21 90 28) = (h 90 28) ∧ (h21 90 29) = (h 90 29) ∧ (h21 90 30) = (h 90 30) ∧ (h21 90 34) = (h 90 34) ∧ (h21 90 35) = (h 90 35) ∧ (h21 90 37) = (h 90 37) := f6
    clear f6
    have y19_ : ∀ j : Int, j < 600 → (h21 103) j = (h 103) j := y19
    have xg0 := y19_ 0 (by decide)
    have xg1 := y19_ 1 (by decide)
    have xg2 := y19_ 2 (by decide)
    have xg3 := y19_ 3 (by decide)
    refine ov_blk (ls2 := [(0, ov_r 90), (1, ov_i m)]) (st2 := [ov_r 90]) (pc2 := 23) b_257_22_1 rfl rfl ?_
    refine ov_getf (v := ov_r 103) d_257_23 fl_Mo_102 (zb_90 I22) (zs_90 I22) (congrArg ov_r (rg_90_19 I22)) ?_
    refine ov_blk (ls2 := [(0, ov_r 90), (1, ov_i m)]) (st2 := [ov_i 2, ov_r 103, ov_i 2, ov_r 103]) (pc2 := 28) b_257_26_2 rfl rfl ?_
    refine ov_iald d_257_28 (zb_103 I22) (zs_103 I22) (by omega) ?_
    have g36 := ra_103 I22 2
    refine ov_blk (ls2 := [(0, ov_r 90), (1, ov_i m)]) (st2 := [ov_i ((h21 103 2) + m), ov_i 2, ov_r 103]) (pc2 := 31) b_257_29_2 rfl rfl ?_
    refine ov_iast d_257_31 (zb_103 I22) (zs_103 I22) (by omega) ?_
    have I37 := ua_103 (k := 2) (x := ((h21 103 2) + m)) I22 (by refine ⟨?_, ?_, ?_, ?_, ?_, ?_⟩ <;> omega)
    refine ov_blk (ls2 := [(0, ov_r 90), (1, ov_i m)]) (st2 := [ov_r 90]) (pc2 := 33) b_257_32_1 rfl rfl ?_
    refine ov_getf (v := ov_r 103) d_257_33 fl_Mo_102 (zb_90 I37) (zs_90 I37) (congrArg ov_r (rg_90_19 I37)) ?_
    refine ov_blk (ls2 := [(0, ov_r 90), (1, ov_i m)]) (st2 := [ov_i 2, ov_r 103]) (pc2 := 37) b_257_36_1 rfl rfl ?_
    refine ov_iald d_257_37 (zb_103 I37) (zs_103 I37) (by omega) ?_
    show ov_R u d ov_m257 38 [(0, ov_r 90), (1, ov_i m)] [ov_i ((h21 103 2) + m)] z20 (ov_up h21 103 2 ((h21 103 2) + m)) (P_Mo_stay_90 F z h m)
    exact ov_reti (st := []) d_257_38 rfl ⟨_, rfl, I37, (by show -2147483648 ≤ ((h21 103 2) + m) ∧ ((h21 103 2) + m) ≤ 2147483647 ∧ (h21 90 2) = (h 90 2) ∧ (h21 90 3) = (h 90 3) ∧ (h21 90 7) = (h 90 7) ∧ (h21 90 8) = (h 90 8) ∧ (h21 90 13) = (h 90 13) ∧ (h21 90 22) = (h 90 22) ∧ (h21 90 25) = (h 90 25) ∧ (h21 90 26) = (h 90 26) ∧ (h21 90 27) = (h 90 27) ∧ (h21 90 28) = (h 90 28) ∧ (h21 90 29) = (h 90 29) ∧ (h21 90 30) = (h 90 30) ∧ (h21 90 34) = (h 90 34) ∧ (h21 90 35) = (h 90 35) ∧ (h21 90 37) = (h 90 37); omega), E23, E24, E25, E26, E27, E28, E29, E30, E31, E32, E33, E34⟩
  · skip
    refine ov_blk (ls2 := [(0, ov_r 90), (1, ov_i m)]) (st2 := [ov_i (-1)]) (pc2 := 17) b_257_16_1 rfl rfl ?_
    exact ov_reti (st := []) d_257_17 rfl ⟨_, rfl, I1, (by show -2147483648 ≤ (-1) ∧ (-1) ≤ 2147483647 ∧ (h 90 2) = (h 90 2) ∧ (h 90 3) = (h 90 3) ∧ (h 90 7) = (h 90 7) ∧ (h 90 8) = (h 90 8) ∧ (h 90 13) = (h 90 13) ∧ (h 90 22) = (h 90 22) ∧ (h 90 25) = (h 90 25) ∧ (h 90 26) = (h 90 26) ∧ (h 90 27) = (h 90 27) ∧ (h 90 28) = (h 90 28) ∧ (h 90 29) = (h 90 29) ∧ (h 90 30) = (h 90 30) ∧ (h 90 34) = (h 90 34) ∧ (h 90 35) = (h 90 35) ∧ (h 90 37) = (h 90 37); omega), rfl, rfl, rfl, rfl, rfl, rfl, rfl, rfl, rfl, rfl, rfl, rfl⟩
abbrev P_Mo_look_90 (F : ov_H × ov_Z) (z : ov_Z) (h : ov_H) : Option ov_V → ov_Z → ov_H → Prop := fun r0 z' h' => ∃ r : Int, r0 = some (ov_i r) ∧ ov_N F z' h' ∧ ((r = 0 ∨ r = 1) ∧ (h 90 22) ≤ (h' 90 22) ∧ (h' 90 22) ≤ (h 90 22) + 1 ∧ (h' 90 2) = (h 90 2) ∧ (h' 90 3) = (h 90 3) ∧ (h' 90 7) = (h 90 7) ∧ (h' 90 8) = (h 90 8) ∧ (h' 90 13) = (h 90 13) ∧ (h' 90 25) = (h 90 25) ∧ (h' 90 26) = (h 90 26) ∧ (h' 90 27) = (h 90 27) ∧ (h' 90 28) = (h 90 28) ∧ (h' 90 29) = (h 90 29) ∧ (h' 90 30) = (h 90 30) ∧ (h' 90 34) = (h 90 34) ∧ (h' 90 35) = (h 90 35) ∧ (h' 90 37) = (h 90 37)) ∧ h' 92 = h 92 ∧ h' 93 = h 93 ∧ h' 94 = h 94 ∧ h' 96 = h 96 ∧ h' 97 = h 97 ∧ h' 98 = h 98 ∧ h' 99 = h 99 ∧ h' 100 = h 100 ∧ h' 105 = h 105 ∧ h' 106 = h 106 ∧ h' 109 = h 109 ∧ h' 114 = h 114
set_option maxHeartbeats 4000000 in
theorem c_Mo_look_90 {u : ov_U} {F : ov_H × ov_Z} {z : ov_Z} {h : ov_H} (d : Nat) (hd : 2 ≤ d) (U : ov_cap u) (I : ov_N F z h) (p0 : 0 ≤ (h 90 22) ∧ (h 90 22) ≤ 2000000000) : ov_T u d ov_m258 [ov_r 90] z h (P_Mo_look_90 F z h) := by
  refine ov_en rfl (Nat.le_of_ble_eq_true rfl) ?_
  show ov_R u d ov_m258 0 [(0, ov_r 90)] [] z h (P_Mo_look_90 F z h)
  refine ov_blk (ls2 := [(0, ov_r 90)]) (st2 := [ov_i 0, ov_r 90]) (pc2 := 2) b_258_0_2 rfl rfl ?_
  refine ov_putf (x := 0) d_258_2 fl_Mo_1 (zb_90 I) (zs_90 I) rfl nk_0 rfl ?_
  have I1 := up_90_0 (x := 0) I (by omega)
  refine ov_blk (ls2 := [(0, ov_r 90)]) (st2 := [ov_r 90]) (pc2 := 6) b_258_5_1 rfl rfl ?_
  refine ov_getf (v := ov_r 103) d_258_6 fl_Mo_102 (zb_90 I1) (zs_90 I1) (congrArg ov_r (rg_90_19 I1)) ?_
  refine ov_blk (ls2 := [(0, ov_r 90)]) (st2 := [ov_i 0, ov_r 103]) (pc2 := 10) b_258_9_1 rfl rfl ?_
  refine ov_iald d_258_10 (zb_103 I1) (zs_103 I1) (by omega) ?_
  show ov_R u d ov_m258 11 [(0, ov_r 90)] [ov_i (h 103 0)] z (ov_up h 90 0 0) (P_Mo_look_90 F z h)
  have g2 := ra_103 I 0
  refine ov_blk (ls2 := [(0, ov_r 90), (1, ov_i (h 103 0))]) (st2 := [ov_r 90]) (pc2 := 13) b_258_11_2 rfl rfl ?_
  refine ov_getf (v := ov_r 103) d_258_13 fl_Mo_102 (zb_90 I1) (zs_90 I1) (congrArg ov_r (rg_90_19 I1)) ?_
  refine ov_blk (ls2 := [(0, ov_r 90), (1, ov_i (h 103 0))]) (st2 := [ov_i 1, ov_r 103]) (pc2 := 17) b_258_16_1 rfl rfl ?_
  refine ov_iald d_258_17 (zb_103 I1) (zs_103 I1) (by omega) ?_
  show ov_R u d ov_m258 18 [(0, ov_r 90), (1, ov_i (h 103 0))] [ov_i (h 103 1)] z (ov_up h 90 0 0) (P_Mo_look_90 F z h)
  have g3 := ra_103 I 1
  refine ov_blk (ls2 := [(0, ov_r 90), (1, ov_i (h 103 0)), (2, ov_i (h 103 1))]) (st2 := [ov_i (h 103 1), ov_i (h 103 0), ov_r 90]) (pc2 := 22) b_258_18_4 rfl rfl ?_
  refine ov_cV (as := [ov_i (h 103 0), ov_i (h 103 1)]) (st := []) (d2 := d - 1) d_258_22 lk_Mo_282 rfl (Nat.le_of_ble_eq_true rfl) (c := 1) (zb_90 I1) (zs_90 I1) ⟨by decide, rfl⟩ (by omega) (c_Mo_kindAt_90 (d - 1) (by omega) U I1 (h 103 0) (h 103 1) (by omega) (by omega) (by omega)) ?_
  rintro _ _ _ ⟨v5, rfl, rfl, rfl, f4⟩
  show ov_R u d ov_m258 25 [(0, ov_r 90), (1, ov_i (h 103 0)), (2, ov_i (h 103 1))] [ov_i v5] z (ov_up h 90 0 0) (P_Mo_look_90 F z h)
  have f6 : v5 = (h 96 (10 + 4 * (6 * (h 103 1) + (h 103 0)))) - 1 ∧ -1 ≤ v5 ∧ v5 ≤ 3 := f4
  clear f4
  refine ov_blk (ls2 := [(0, ov_r 90), (1, ov_i (h 103 0)), (2, ov_i (h 103 1))]) (st2 := [ov_i 1, ov_i v5]) (pc2 := 26) b_258_25_1 rfl rfl ?_
  refine ov_icne (tgt := 38) d_258_26 (by decide) (by omega) (by omega) (fun c7 => ?_) (fun c7 => ?_)
  · skip
    refine ov_blk (ls2 := [(0, ov_r 90), (1, ov_i (h 103 0)), (2, ov_i (h 103 1))]) (st2 := [ov_i 0]) (pc2 := 39) b_258_38_1 rfl rfl ?_
    exact ov_retz (st := []) d_258_39 rfl (by omega) ⟨_, rfl, I1, (by show (0 = 0 ∨ 0 = 1) ∧ (h 90 22) ≤ (h 90 22) ∧ (h 90 22) ≤ (h 90 22) + 1 ∧ (h 90 2) = (h 90 2) ∧ (h 90 3) = (h 90 3) ∧ (h 90 7) = (h 90 7) ∧ (h 90 8) = (h 90 8) ∧ (h 90 13) = (h 90 13) ∧ (h 90 25) = (h 90 25) ∧ (h 90 26) = (h 90 26) ∧ (h 90 27) = (h 90 27) ∧ (h 90 28) = (h 90 28) ∧ (h 90 29) = (h 90 29) ∧ (h 90 30) = (h 90 30) ∧ (h 90 34) = (h 90 34) ∧ (h 90 35) = (h 90 35) ∧ (h 90 37) = (h 90 37); omega), rfl, rfl, rfl, rfl, rfl, rfl, rfl, rfl, rfl, rfl, rfl, rfl⟩
  · skip
    refine ov_blk (ls2 := [(0, ov_r 90), (1, ov_i (h 103 0)), (2, ov_i (h 103 1))]) (st2 := [ov_i (h 103 1), ov_i (h 103 0), ov_r 90]) (pc2 := 32) b_258_29_3 rfl rfl ?_
    refine ov_cV (as := [ov_i (h 103 0), ov_i (h 103 1)]) (st := []) (d2 := d - 1) d_258_32 lk_Mo_302 rfl (Nat.le_of_ble_eq_true rfl) (c := 1) (zb_90 I1) (zs_90 I1) ⟨by decide, rfl⟩ (by omega) (c_Mo_isKnown_90 (d - 1) (by omega) U I1 (h 103 0) (h 103 1) (by omega) (by omega) (by omega)) ?_
    rintro _ _ _ ⟨v9, rfl, rfl, rfl, f8⟩
    show ov_R u d ov_m258 35 [(0, ov_r 90), (1, ov_i (h 103 0)), (2, ov_i (h 103 1))] [ov_i v9] z (ov_up h 90 0 0) (P_Mo_look_90 F z h)
    have f10 : (v9 = 0 ∨ v9 = 1) ∧ (v9 = 1 → (h 96 (10 + 4 * (6 * (h 103 1) + (h 103 0)))) = 2) := f8
    clear f8
    refine ov_ifeq (tgt := 40) d_258_35 (by decide) (by omega) (fun c11 => ?_) (fun c11 => ?_)
    · skip
      refine ov_blk (ls2 := [(0, ov_r 90), (1, ov_i (h 103 0)), (2, ov_i (h 103 1))]) (st2 := [ov_r 90]) (pc2 := 41) b_258_40_1 rfl rfl ?_
      refine ov_cV (as := []) (st := []) (d2 := d - 1) d_258_41 lk_Mo_329 rfl (Nat.le_of_ble_eq_true rfl) (c := 1) (zb_90 I1) (zs_90 I1) ⟨by decide, rfl⟩ (by omega) (c_Mo_keeps_90 (d - 1) (by omega) U I1) ?_
      rintro _ z26 h27 ⟨rfl, I28, f12, e13, e14, e15, e16, e17, e18, e19, e20, e21, e22, e23, e24, y25⟩
      have E29 : h27 92 = h 92 := e13
      have E30 : h27 93 = h 93 := e14
      have E31 : h27 94 = h 94 := e15
      have E32 : h27 96 = h 96 := e16
      have E33 : h27 97 = h 97 := e17
      have E34 : h27 98 = h 98 := e18
      have E35 : h27 99 = h 99 := e19
      have E36 : h27 100 = h 100 := e20
      have E37 : h27 105 = h 105 := e21
      have E38 : h27 106 = h 106 := e22
      have E39 : h27 109 = h 109 := e23
      have E40 : h27 114 = h 114 := e24
      show ov_R u d ov_m258 44 [(0, ov_r 90), (1, ov_i (h 103 0)), (2, ov_i (h 103 1))] [] z26 h27 (P_Mo_look_90 F z h)
      have f41 : (h27 90 2) = (h 90 2) ∧ (h27 90 3) = (h 90 3) ∧ (h27 90 7) = (h 90 7) ∧ (h27 90 8) = (h 90 8) ∧ (h27 90 13) = (h 90 13) ∧ (h27 90 22) = (h 90 22) ∧ (h27 90 25) = (h 90 25) ∧ (h27 90 26) = (h 90 26) ∧ (h27 90 27) = (h 90 27) ∧ (h27 90 28) = (h 90 28) ∧ (h27 90 29) = (h 90 29) ∧ (h27 90 30) = (h 90 30) ∧ (h27 90 34) = (h 90 34) ∧ (h27 90 35) = (h 90 35) ∧ (h27 90 37) = (h 90 37) := f12
      clear f12
      have y25_ : ∀ j : Int, j < 600 → (h27 103) j = (h 103) j := y25
      refine ov_blk (ls2 := [(0, ov_r 90), (1, ov_i (h 103 0)), (2, ov_i (h 103 1))]) (st2 := [ov_r 90]) (pc2 := 45) b_258_44_1 rfl rfl ?_
      refine ov_getf (v := ov_r 103) d_258_45 fl_Mo_102 (zb_90 I28) (zs_90 I28) (congrArg ov_r (rg_90_19 I28)) ?_
      refine ov_blk (ls2 := [(0, ov_r 90), (1, ov_i (h 103 0)), (2, ov_i (h 103 1))]) (st2 := [ov_i 1, ov_i ((4 + (6 * (h 103 1))) + (h 103 0)), ov_r 103]) (pc2 := 57) b_258_48_8 rfl rfl ?_
      refine ov_iast d_258_57 (zb_103 I28) (zs_103 I28) (by omega) ?_
      have I42 := ua_103 (k := ((4 + (6 * (h 103 1))) + (h 103 0))) (x := 1) I28 (by refine ⟨?_, ?_, ?_, ?_, ?_, ?_⟩ <;> omega)
      refine ov_blk (ls2 := [(0, ov_r 90), (1, ov_i (h 103 0)), (2, ov_i (h 103 1))]) (st2 := [ov_r 90, ov_r 90]) (pc2 := 60) b_258_58_2 rfl rfl ?_
      refine ov_getf (v := ov_i (h27 90 22)) d_258_60 fl_Mo_322 (zb_90 I42) (zs_90 I42) rfl ?_
      have g43 := rg_90_22 I28
      refine ov_blk (ls2 := [(0, ov_r 90), (1, ov_i (h 103 0)), (2, ov_i (h 103 1))]) (st2 := [ov_i ((h27 90 22) + 1), ov_r 90]) (pc2 := 65) b_258_63_2 rfl rfl ?_
      refine ov_putf (x := ((h27 90 22) + 1)) d_258_65 fl_Mo_322 (zb_90 I42) (zs_90 I42) rfl nk_0 rfl ?_
      have I44 := up_90_22 (x := ((h27 90 22) + 1)) I42 (by omega)
      refine ov_blk (ls2 := [(0, ov_r 90), (1, ov_i (h 103 0)), (2, ov_i (h 103 1))]) (st2 := [ov_i 1]) (pc2 := 69) b_258_68_1 rfl rfl ?_
      exact ov_retz (st := []) d_258_69 rfl (by omega) ⟨_, rfl, I44, (by show (1 = 0 ∨ 1 = 1) ∧ (h 90 22) ≤ ((h27 90 22) + 1) ∧ ((h27 90 22) + 1) ≤ (h 90 22) + 1 ∧ (h27 90 2) = (h 90 2) ∧ (h27 90 3) = (h 90 3) ∧ (h27 90 7) = (h 90 7) ∧ (h27 90 8) = (h 90 8) ∧ (h27 90 13) = (h 90 13) ∧ (h27 90 25) = (h 90 25) ∧ (h27 90 26) = (h 90 26) ∧ (h27 90 27) = (h 90 27) ∧ (h27 90 28) = (h 90 28) ∧ (h27 90 29) = (h 90 29) ∧ (h27 90 30) = (h 90 30) ∧ (h27 90 34) = (h 90 34) ∧ (h27 90 35) = (h 90 35) ∧ (h27 90 37) = (h 90 37); omega), E29, E30, E31, E32, E33, E34, E35, E36, E37, E38, E39, E40⟩
    · skip
      refine ov_blk (ls2 := [(0, ov_r 90), (1, ov_i (h 103 0)), (2, ov_i (h 103 1))]) (st2 := [ov_i 0]) (pc2 := 39) b_258_38_1 rfl rfl ?_
      exact ov_retz (st := []) d_258_39 rfl (by omega) ⟨_, rfl, I1, (by show (0 = 0 ∨ 0 = 1) ∧ (h 90 22) ≤ (h 90 22) ∧ (h 90 22) ≤ (h 90 22) + 1 ∧ (h 90 2) = (h 90 2) ∧ (h 90 3) = (h 90 3) ∧ (h 90 7) = (h 90 7) ∧ (h 90 8) = (h 90 8) ∧ (h 90 13) = (h 90 13) ∧ (h 90 25) = (h 90 25) ∧ (h 90 26) = (h 90 26) ∧ (h 90 27) = (h 90 27) ∧ (h 90 28) = (h 90 28) ∧ (h 90 29) = (h 90 29) ∧ (h 90 30) = (h 90 30) ∧ (h 90 34) = (h 90 34) ∧ (h 90 35) = (h 90 35) ∧ (h 90 37) = (h 90 37); omega), rfl, rfl, rfl, rfl, rfl, rfl, rfl, rfl, rfl, rfl, rfl, rfl⟩
abbrev P_Mo_undo_90 (F : ov_H × ov_Z) (z : ov_Z) (h : ov_H) : Option ov_V → ov_Z → ov_H → Prop := fun r0 z' h' => ∃ r : Int, r0 = some (ov_i r) ∧ ov_N F z' h' ∧ ((r = 0 ∨ r = 1) ∧ (h 90 22) ≤ (h' 90 22) ∧ (h' 90 22) ≤ (h 90 22) + 1 ∧ (h' 90 2) = (h 90 2) ∧ (h' 90 3) = (h 90 3) ∧ (h' 90 7) = (h 90 7) ∧ (h' 90 8) = (h 90 8) ∧ (h' 90 13) = (h 90 13) ∧ (h' 90 25) = (h 90 25) ∧ (h' 90 26) = (h 90 26) ∧ (h' 90 27) = (h 90 27) ∧ (h' 90 28) = (h 90 28) ∧ (h' 90 29) = (h 90 29) ∧ (h' 90 30) = (h 90 30) ∧ (h' 90 34) = (h 90 34) ∧ (h' 90 35) = (h 90 35) ∧ (h' 90 37) = (h 90 37)) ∧ h' 92 = h 92 ∧ h' 93 = h 93 ∧ h' 94 = h 94 ∧ h' 96 = h 96 ∧ h' 97 = h 97 ∧ h' 98 = h 98 ∧ h' 99 = h 99 ∧ h' 100 = h 100 ∧ h' 105 = h 105 ∧ h' 106 = h 106 ∧ h' 109 = h 109 ∧ h' 114 = h 114
set_option maxHeartbeats 4000000 in
theorem c_Mo_undo_90 {u : ov_U} {F : ov_H × ov_Z} {z : ov_Z} {h : ov_H} (d : Nat) (hd : 1 ≤ d) (U : ov_cap u) (I : ov_N F z h) (p0 : 0 ≤ (h 90 22) ∧ (h 90 22) ≤ 2000000000) : ov_T u d ov_m259 [ov_r 90] z h (P_Mo_undo_90 F z h) := by
  refine ov_en rfl (Nat.le_of_ble_eq_true rfl) ?_
  show ov_R u d ov_m259 0 [(0, ov_r 90)] [] z h (P_Mo_undo_90 F z h)
  refine ov_blk (ls2 := [(0, ov_r 90)]) (st2 := [ov_i 0, ov_r 90]) (pc2 := 2) b_259_0_2 rfl rfl ?_
  refine ov_putf (x := 0) d_259_2 fl_Mo_1 (zb_90 I) (zs_90 I) rfl nk_0 rfl ?_
  have I1 := up_90_0 (x := 0) I (by omega)
  refine ov_blk (ls2 := [(0, ov_r 90)]) (st2 := [ov_r 90]) (pc2 := 6) b_259_5_1 rfl rfl ?_
  refine ov_getf (v := ov_i (h 90 20)) d_259_6 fl_Mo_319 (zb_90 I1) (zs_90 I1) rfl ?_
  have g2 := rg_90_20 I
  refine ov_ifne (tgt := 14) d_259_9 (by decide) (by omega) (fun c3 => ?_) (fun c3 => ?_)
  · skip
    refine ov_blk (ls2 := [(0, ov_r 90)]) (st2 := [ov_r 90, ov_r 90]) (pc2 := 16) b_259_14_2 rfl rfl ?_
    refine ov_getf (v := ov_i (h 90 20)) d_259_16 fl_Mo_319 (zb_90 I1) (zs_90 I1) rfl ?_
    refine ov_blk (ls2 := [(0, ov_r 90)]) (st2 := [ov_i ((h 90 20) - 1), ov_r 90]) (pc2 := 21) b_259_19_2 rfl rfl ?_
    refine ov_putf (x := ((h 90 20) - 1)) d_259_21 fl_Mo_319 (zb_90 I1) (zs_90 I1) rfl nk_0 rfl ?_
    have I5 := up_90_20 (x := ((h 90 20) - 1)) I1 (by omega)
    refine ov_blk (ls2 := [(0, ov_r 90)]) (st2 := [ov_r 90, ov_i 5, ov_r 90]) (pc2 := 27) b_259_24_3 rfl rfl ?_
    refine ov_getf (v := ov_i ((h 90 20) - 1)) d_259_27 fl_Mo_319 (zb_90 I5) (zs_90 I5) rfl ?_
    refine ov_blk (ls2 := [(0, ov_r 90)]) (st2 := [ov_i 58, ov_i 0, ov_i (5 + ((h 90 20) - 1)), ov_r 90]) (pc2 := 34) b_259_30_3 rfl rfl ?_
    refine ov_cV (as := [ov_i (5 + ((h 90 20) - 1)), ov_i 0, ov_i 58]) (st := []) (d2 := d - 1) d_259_34 lk_Mo_325 rfl (Nat.le_of_ble_eq_true rfl) (c := 1) (zb_90 I5) (zs_90 I5) ⟨by decide, rfl⟩ (by omega) (c_Mo_copies_90 (d - 1) (by omega) U I5 (5 + ((h 90 20) - 1)) 0 58 (by omega) (by omega) (by omega) (by omega) (by omega) (by omega)) ?_
    rintro _ z20 h21 ⟨rfl, I22, f6, e7, e8, e9, e10, e11, e12, e13, e14, e15, e16, e17, e18, y19⟩
    have E23 : h21 92 = h 92 := e7
    have E24 : h21 93 = h 93 := e8
    have E25 : h21 94 = h 94 := e9
    have E26 : h21 96 = h 96 := e10
    have E27 : h21 97 = h 97 := e11
    have E28 : h21 98 = h 98 := e12
    have E29 : h21 99 = h 99 := e13
    have E30 : h21 100 = h 100 := e14
    have E31 : h21 105 = h 105 := e15
    have E32 : h21 106 = h 106 := e16
    have E33 : h21 109 = h 109 := e17
    have E34 : h21 114 = h 114 := e18
    show ov_R u d ov_m259 37 [(0, ov_r 90)] [] z20 h21 (P_Mo_undo_90 F z h)
    have f35 : (h21 90 2) = (h 90 2) ∧ (h21 90 3) = (h 90 3) ∧ (h21 90 7) = (h 90 7) ∧ (h21 90 8) = (h 90 8) ∧ (h21 90 13) = (h 90 13) ∧ (h21 90 20) = ((h 90 20) - 1) ∧ (h21 90 22) = (h 90 22) ∧ (h21 90 25) = (h 90 25) ∧ (h21 90 26) = (h 90 26) ∧ (h21 90 27) = (h 90 27) ∧ (h21 90 28) = (h 90 28) ∧ (h21 90 29) = (h 90 29) ∧ (h21 90 30) = (h 90 30) ∧ (h21 90 34) = (h 90 34) ∧ (h21 90 35) = (h 90 35) ∧ (h21 90 37) = (h 90 37) := f6
    clear f6
    have y19_ : ∀ j : Int, j < 120 * (0 : Int) ∨ 120 * (0 : Int) + (58 : Int) ≤ j → (h21 103) j = (h 103) j := y19
    refine ov_blk (ls2 := [(0, ov_r 90)]) (st2 := [ov_r 90, ov_r 90]) (pc2 := 39) b_259_37_2 rfl rfl ?_
    refine ov_getf (v := ov_i (h21 90 22)) d_259_39 fl_Mo_322 (zb_90 I22) (zs_90 I22) rfl ?_
    have g36 := rg_90_22 I22
    refine ov_blk (ls2 := [(0, ov_r 90)]) (st2 := [ov_i ((h21 90 22) + 1), ov_r 90]) (pc2 := 44) b_259_42_2 rfl rfl ?_
    refine ov_putf (x := ((h21 90 22) + 1)) d_259_44 fl_Mo_322 (zb_90 I22) (zs_90 I22) rfl nk_0 rfl ?_
    have I37 := up_90_22 (x := ((h21 90 22) + 1)) I22 (by omega)
    refine ov_blk (ls2 := [(0, ov_r 90)]) (st2 := [ov_i 1]) (pc2 := 48) b_259_47_1 rfl rfl ?_
    exact ov_retz (st := []) d_259_48 rfl (by omega) ⟨_, rfl, I37, (by show (1 = 0 ∨ 1 = 1) ∧ (h 90 22) ≤ ((h21 90 22) + 1) ∧ ((h21 90 22) + 1) ≤ (h 90 22) + 1 ∧ (h21 90 2) = (h 90 2) ∧ (h21 90 3) = (h 90 3) ∧ (h21 90 7) = (h 90 7) ∧ (h21 90 8) = (h 90 8) ∧ (h21 90 13) = (h 90 13) ∧ (h21 90 25) = (h 90 25) ∧ (h21 90 26) = (h 90 26) ∧ (h21 90 27) = (h 90 27) ∧ (h21 90 28) = (h 90 28) ∧ (h21 90 29) = (h 90 29) ∧ (h21 90 30) = (h 90 30) ∧ (h21 90 34) = (h 90 34) ∧ (h21 90 35) = (h 90 35) ∧ (h21 90 37) = (h 90 37); omega), E23, E24, E25, E26, E27, E28, E29, E30, E31, E32, E33, E34⟩
  · skip
    refine ov_blk (ls2 := [(0, ov_r 90)]) (st2 := [ov_i 0]) (pc2 := 13) b_259_12_1 rfl rfl ?_
    exact ov_retz (st := []) d_259_13 rfl (by omega) ⟨_, rfl, I1, (by show (0 = 0 ∨ 0 = 1) ∧ (h 90 22) ≤ (h 90 22) ∧ (h 90 22) ≤ (h 90 22) + 1 ∧ (h 90 2) = (h 90 2) ∧ (h 90 3) = (h 90 3) ∧ (h 90 7) = (h 90 7) ∧ (h 90 8) = (h 90 8) ∧ (h 90 13) = (h 90 13) ∧ (h 90 25) = (h 90 25) ∧ (h 90 26) = (h 90 26) ∧ (h 90 27) = (h 90 27) ∧ (h 90 28) = (h 90 28) ∧ (h 90 29) = (h 90 29) ∧ (h 90 30) = (h 90 30) ∧ (h 90 34) = (h 90 34) ∧ (h 90 35) = (h 90 35) ∧ (h 90 37) = (h 90 37); omega), rfl, rfl, rfl, rfl, rfl, rfl, rfl, rfl, rfl, rfl, rfl, rfl⟩

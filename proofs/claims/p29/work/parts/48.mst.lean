theorem b_244_0_3 : ov_ds ov_m244.2.1 0 [.aload_n 0, .iload_n 1, .iload_n 2] = true := by decide +kernel
theorem d_244_3 : decode ov_m244.2.1 3 = .ok (.invokevirtual 282, 3) := by decide +kernel
theorem b_244_6_1 : ov_ds ov_m244.2.1 6 [.iconst 1] = true := by decide +kernel
theorem d_244_7 : decode ov_m244.2.1 7 = .ok (.if_icmp .ne 24, 3) := by decide +kernel
theorem b_244_31_1 : ov_ds ov_m244.2.1 31 [.iconst 0] = true := by decide +kernel
theorem d_244_32 : decode ov_m244.2.1 32 = .ok (.ireturn, 1) := by decide +kernel
theorem b_244_10_1 : ov_ds ov_m244.2.1 10 [.aload_n 0] = true := by decide +kernel
theorem d_244_11 : decode ov_m244.2.1 11 = .ok (.getfield 102, 3) := by decide +kernel
theorem b_244_14_7 : ov_ds ov_m244.2.1 14 [.iconst 4, .bipush 6, .iload_n 2, .imul, .iadd, .iload_n 1, .iadd] = true := by decide +kernel
theorem d_244_22 : decode ov_m244.2.1 22 = .ok (.iaload, 1) := by decide +kernel
theorem b_244_23_1 : ov_ds ov_m244.2.1 23 [.iconst 1] = true := by decide +kernel
theorem d_244_24 : decode ov_m244.2.1 24 = .ok (.if_icmp .ne 7, 3) := by decide +kernel
theorem b_244_27_1 : ov_ds ov_m244.2.1 27 [.iconst 1] = true := by decide +kernel
theorem d_244_28 : decode ov_m244.2.1 28 = .ok (.goto 4, 3) := by decide +kernel
theorem b_256_0_1 : ov_ds ov_m256.2.1 0 [.aload_n 0] = true := by decide +kernel
theorem d_256_1 : decode ov_m256.2.1 1 = .ok (.getfield 81, 3) := by decide +kernel
theorem b_256_4_1 : ov_ds ov_m256.2.1 4 [.iconst 3] = true := by decide +kernel
theorem d_256_5 : decode ov_m256.2.1 5 = .ok (.iaload, 1) := by decide +kernel
theorem d_256_6 : decode ov_m256.2.1 6 = .ok (.ifCond .ge 12, 3) := by decide +kernel
theorem b_256_18_1 : ov_ds ov_m256.2.1 18 [.aload_n 0] = true := by decide +kernel
theorem d_256_19 : decode ov_m256.2.1 19 = .ok (.getfield 81, 3) := by decide +kernel
theorem b_256_22_1 : ov_ds ov_m256.2.1 22 [.iconst 3] = true := by decide +kernel
theorem d_256_23 : decode ov_m256.2.1 23 = .ok (.iaload, 1) := by decide +kernel
theorem d_256_24 : decode ov_m256.2.1 24 = .ok (.ireturn, 1) := by decide +kernel
theorem b_256_9_1 : ov_ds ov_m256.2.1 9 [.aload_n 0] = true := by decide +kernel
theorem d_256_10 : decode ov_m256.2.1 10 = .ok (.getfield 81, 3) := by decide +kernel
theorem b_256_13_1 : ov_ds ov_m256.2.1 13 [.iconst 2] = true := by decide +kernel
theorem d_256_14 : decode ov_m256.2.1 14 = .ok (.iaload, 1) := by decide +kernel
theorem d_256_15 : decode ov_m256.2.1 15 = .ok (.goto 9, 3) := by decide +kernel
theorem b_291_0_1 : ov_ds ov_m291.2.1 0 [.aload_n 0] = true := by decide +kernel
theorem d_291_1 : decode ov_m291.2.1 1 = .ok (.getfield 81, 3) := by decide +kernel
theorem b_291_4_1 : ov_ds ov_m291.2.1 4 [.iconst 4] = true := by decide +kernel
theorem d_291_5 : decode ov_m291.2.1 5 = .ok (.iaload, 1) := by decide +kernel
theorem d_291_6 : decode ov_m291.2.1 6 = .ok (.ifCond .ge 12, 3) := by decide +kernel
theorem b_291_18_1 : ov_ds ov_m291.2.1 18 [.aload_n 0] = true := by decide +kernel
theorem d_291_19 : decode ov_m291.2.1 19 = .ok (.getfield 81, 3) := by decide +kernel
theorem b_291_22_1 : ov_ds ov_m291.2.1 22 [.iconst 4] = true := by decide +kernel
theorem d_291_23 : decode ov_m291.2.1 23 = .ok (.iaload, 1) := by decide +kernel
theorem d_291_24 : decode ov_m291.2.1 24 = .ok (.ireturn, 1) := by decide +kernel
theorem b_291_9_1 : ov_ds ov_m291.2.1 9 [.aload_n 0] = true := by decide +kernel
theorem d_291_10 : decode ov_m291.2.1 10 = .ok (.getfield 81, 3) := by decide +kernel
theorem b_291_13_1 : ov_ds ov_m291.2.1 13 [.iconst 2] = true := by decide +kernel
theorem d_291_14 : decode ov_m291.2.1 14 = .ok (.iaload, 1) := by decide +kernel
theorem d_291_15 : decode ov_m291.2.1 15 = .ok (.goto 9, 3) := by decide +kernel
theorem b_239_0_2 : ov_ds ov_m239.2.1 0 [.aload_n 0, .iconst 0] = true := by decide +kernel
theorem d_239_2 : decode ov_m239.2.1 2 = .ok (.putfield 1, 3) := by decide +kernel
theorem b_239_5_3 : ov_ds ov_m239.2.1 5 [.aload_n 0, .iload_n 1, .iload_n 2] = true := by decide +kernel
theorem d_239_8 : decode ov_m239.2.1 8 = .ok (.invokevirtual 296, 3) := by decide +kernel
theorem d_239_11 : decode ov_m239.2.1 11 = .ok (.ifCond .eq 26, 3) := by decide +kernel
theorem b_239_37_1 : ov_ds ov_m239.2.1 37 [.iconst (-1)] = true := by decide +kernel
theorem d_239_38 : decode ov_m239.2.1 38 = .ok (.ireturn, 1) := by decide +kernel
theorem b_239_14_3 : ov_ds ov_m239.2.1 14 [.iload_n 3, .iconst 0, .iconst 5] = true := by decide +kernel
theorem d_239_17 : decode ov_m239.2.1 17 = .ok (.invokestatic 299, 3) := by decide +kernel
theorem d_239_20 : decode ov_m239.2.1 20 = .ok (.ifCond .eq 17, 3) := by decide +kernel
theorem b_239_23_2 : ov_ds ov_m239.2.1 23 [.iload_n 3, .iconst 5] = true := by decide +kernel
theorem d_239_25 : decode ov_m239.2.1 25 = .ok (.if_icmp .ge 14, 3) := by decide +kernel
theorem b_239_39_2 : ov_ds ov_m239.2.1 39 [.iload_n 3, .iconst 5] = true := by decide +kernel
theorem d_239_41 : decode ov_m239.2.1 41 = .ok (.if_icmp .ne 19, 3) := by decide +kernel
theorem b_239_60_1 : ov_ds ov_m239.2.1 60 [.iload_n 3] = true := by decide +kernel
theorem d_239_61 : decode ov_m239.2.1 61 = .ok (.ifCond .ne 12, 3) := by decide +kernel
theorem b_239_73_2 : ov_ds ov_m239.2.1 73 [.iload_n 3, .iconst 4] = true := by decide +kernel
theorem d_239_75 : decode ov_m239.2.1 75 = .ok (.if_icmp .ge 13, 3) := by decide +kernel
theorem b_239_88_3 : ov_ds ov_m239.2.1 88 [.aload_n 0, .iload_n 1, .iload_n 2] = true := by decide +kernel
theorem d_239_91 : decode ov_m239.2.1 91 = .ok (.invokevirtual 302, 3) := by decide +kernel
theorem d_239_94 : decode ov_m239.2.1 94 = .ok (.ifCond .eq 7, 3) := by decide +kernel
theorem b_239_101_1 : ov_ds ov_m239.2.1 101 [.iconst 0] = true := by decide +kernel
theorem d_239_102 : decode ov_m239.2.1 102 = .ok (.ireturn, 1) := by decide +kernel
theorem b_239_97_1 : ov_ds ov_m239.2.1 97 [.iconst 1] = true := by decide +kernel
theorem d_239_98 : decode ov_m239.2.1 98 = .ok (.goto 4, 3) := by decide +kernel
theorem b_239_44_1 : ov_ds ov_m239.2.1 44 [.aload_n 0] = true := by decide +kernel
theorem d_239_45 : decode ov_m239.2.1 45 = .ok (.getfield 81, 3) := by decide +kernel
theorem b_239_48_7 : ov_ds ov_m239.2.1 48 [.sipush 226, .bipush 6, .iload_n 2, .imul, .iadd, .iload_n 1, .iadd] = true := by decide +kernel
theorem d_239_58 : decode ov_m239.2.1 58 = .ok (.iaload, 1) := by decide +kernel
theorem d_239_59 : decode ov_m239.2.1 59 = .ok (.ireturn, 1) := by decide +kernel
theorem b_239_28_3 : ov_ds ov_m239.2.1 28 [.aload_n 0, .iload_n 1, .iload_n 2] = true := by decide +kernel
theorem d_239_31 : decode ov_m239.2.1 31 = .ok (.invokevirtual 282, 3) := by decide +kernel
theorem d_239_34 : decode ov_m239.2.1 34 = .ok (.ifCond .ge 5, 3) := by decide +kernel
theorem b_239_78_4 : ov_ds ov_m239.2.1 78 [.aload_n 0, .iload_n 1, .iload_n 2, .iload_n 3] = true := by decide +kernel
theorem d_239_82 : decode ov_m239.2.1 82 = .ok (.invokevirtual 289, 3) := by decide +kernel
theorem d_239_85 : decode ov_m239.2.1 85 = .ok (.goto 17, 3) := by decide +kernel
theorem b_239_64_3 : ov_ds ov_m239.2.1 64 [.aload_n 0, .iload_n 1, .iload_n 2] = true := by decide +kernel
theorem d_239_67 : decode ov_m239.2.1 67 = .ok (.invokevirtual 282, 3) := by decide +kernel
theorem d_239_70 : decode ov_m239.2.1 70 = .ok (.goto 32, 3) := by decide +kernel
theorem b_246_0_3 : ov_ds ov_m246.2.1 0 [.aload_n 0, .iload_n 1, .iload_n 2] = true := by decide +kernel
theorem d_246_3 : decode ov_m246.2.1 3 = .ok (.invokevirtual 296, 3) := by decide +kernel
theorem d_246_6 : decode ov_m246.2.1 6 = .ok (.ifCond .eq 35, 3) := by decide +kernel
theorem b_246_41_1 : ov_ds ov_m246.2.1 41 [.iconst 0] = true := by decide +kernel
theorem d_246_42 : decode ov_m246.2.1 42 = .ok (.ireturn, 1) := by decide +kernel
theorem b_246_9_3 : ov_ds ov_m246.2.1 9 [.iload_n 3, .iconst 0, .iconst 1] = true := by decide +kernel
theorem d_246_12 : decode ov_m246.2.1 12 = .ok (.invokestatic 299, 3) := by decide +kernel
theorem d_246_15 : decode ov_m246.2.1 15 = .ok (.ifCond .eq 26, 3) := by decide +kernel
theorem b_246_18_2 : ov_ds ov_m246.2.1 18 [.aload_n 0, .iload 4] = true := by decide +kernel
theorem d_246_21 : decode ov_m246.2.1 21 = .ok (.invokevirtual 306, 3) := by decide +kernel
theorem d_246_24 : decode ov_m246.2.1 24 = .ok (.ifCond .eq 17, 3) := by decide +kernel
theorem b_246_27_4 : ov_ds ov_m246.2.1 27 [.aload_n 0, .iload_n 1, .iload_n 2, .iload_n 3] = true := by decide +kernel
theorem d_246_31 : decode ov_m246.2.1 31 = .ok (.invokevirtual 309, 3) := by decide +kernel
theorem d_246_34 : decode ov_m246.2.1 34 = .ok (.ifCond .eq 7, 3) := by decide +kernel
theorem b_246_37_1 : ov_ds ov_m246.2.1 37 [.iconst 1] = true := by decide +kernel
theorem d_246_38 : decode ov_m246.2.1 38 = .ok (.goto 4, 3) := by decide +kernel
theorem b_245_0_2 : ov_ds ov_m245.2.1 0 [.aload_n 0, .iconst 0] = true := by decide +kernel
theorem d_245_2 : decode ov_m245.2.1 2 = .ok (.putfield 1, 3) := by decide +kernel
theorem b_245_5_5 : ov_ds ov_m245.2.1 5 [.aload_n 0, .iload_n 1, .iload_n 2, .iload_n 3, .iload 4] = true := by decide +kernel
theorem d_245_11 : decode ov_m245.2.1 11 = .ok (.invokevirtual 312, 3) := by decide +kernel
theorem d_245_14 : decode ov_m245.2.1 14 = .ok (.ifCond .ne 5, 3) := by decide +kernel
theorem b_245_19_3 : ov_ds ov_m245.2.1 19 [.aload_n 0, .iload_n 1, .iload_n 2] = true := by decide +kernel
theorem d_245_22 : decode ov_m245.2.1 22 = .ok (.invokevirtual 282, 3) := by decide +kernel
theorem b_245_25_1 : ov_ds ov_m245.2.1 25 [.iconst 2] = true := by decide +kernel
theorem d_245_26 : decode ov_m245.2.1 26 = .ok (.if_icmp .ne 16, 3) := by decide +kernel
theorem b_245_42_3 : ov_ds ov_m245.2.1 42 [.aload_n 0, .iload_n 1, .iload_n 2] = true := by decide +kernel
theorem d_245_45 : decode ov_m245.2.1 45 = .ok (.invokevirtual 285, 3) := by decide +kernel
theorem d_245_48 : decode ov_m245.2.1 48 = .ok (.ifCond .eq 15, 3) := by decide +kernel
theorem b_245_63_1 : ov_ds ov_m245.2.1 63 [.iconst 1] = true := by decide +kernel
theorem d_245_64 : decode ov_m245.2.1 64 = .ok (.goto 4, 3) := by decide +kernel
theorem b_245_68_2 : ov_ds ov_m245.2.1 68 [.istore 5, .iload 5] = true := by decide +kernel
theorem d_245_72 : decode ov_m245.2.1 72 = .ok (.ifCond .eq 7, 3) := by decide +kernel
theorem b_245_75_1 : ov_ds ov_m245.2.1 75 [.iconst 1] = true := by decide +kernel
theorem d_245_76 : decode ov_m245.2.1 76 = .ok (.goto 4, 3) := by decide +kernel
theorem d_245_80 : decode ov_m245.2.1 80 = .ok (.ireturn, 1) := by decide +kernel
theorem b_245_51_5 : ov_ds ov_m245.2.1 51 [.aload_n 0, .iload_n 1, .iload_n 2, .iload_n 3, .iload 4] = true := by decide +kernel
theorem d_245_57 : decode ov_m245.2.1 57 = .ok (.invokevirtual 292, 3) := by decide +kernel
theorem d_245_60 : decode ov_m245.2.1 60 = .ok (.ifCond .eq 7, 3) := by decide +kernel
theorem b_245_67_3 : ov_ds ov_m245.2.1 67 [.iconst 0, .istore 5, .iload 5] = true := by decide +kernel
theorem b_245_79_1 : ov_ds ov_m245.2.1 79 [.iconst 0] = true := by decide +kernel
theorem b_245_29_2 : ov_ds ov_m245.2.1 29 [.iload_n 3, .iconst 1] = true := by decide +kernel
theorem d_245_31 : decode ov_m245.2.1 31 = .ok (.if_icmp .ne 7, 3) := by decide +kernel
theorem b_245_38_1 : ov_ds ov_m245.2.1 38 [.iconst 0] = true := by decide +kernel
theorem d_245_39 : decode ov_m245.2.1 39 = .ok (.goto 29, 3) := by decide +kernel
theorem b_245_34_1 : ov_ds ov_m245.2.1 34 [.iconst 1] = true := by decide +kernel
theorem d_245_35 : decode ov_m245.2.1 35 = .ok (.goto 33, 3) := by decide +kernel
theorem b_245_17_1 : ov_ds ov_m245.2.1 17 [.iconst (-1)] = true := by decide +kernel
theorem d_245_18 : decode ov_m245.2.1 18 = .ok (.ireturn, 1) := by decide +kernel
theorem b_251_0_2 : ov_ds ov_m251.2.1 0 [.aload_n 0, .iconst 0] = true := by decide +kernel
theorem d_251_2 : decode ov_m251.2.1 2 = .ok (.putfield 1, 3) := by decide +kernel
theorem b_251_5_5 : ov_ds ov_m251.2.1 5 [.aload_n 0, .iload_n 1, .iload_n 2, .iload_n 3, .iload 4] = true := by decide +kernel
theorem d_251_11 : decode ov_m251.2.1 11 = .ok (.invokevirtual 312, 3) := by decide +kernel
theorem d_251_14 : decode ov_m251.2.1 14 = .ok (.ifCond .eq 15, 3) := by decide +kernel
theorem b_251_29_1 : ov_ds ov_m251.2.1 29 [.iconst (-1)] = true := by decide +kernel
theorem d_251_30 : decode ov_m251.2.1 30 = .ok (.ireturn, 1) := by decide +kernel
theorem b_251_17_5 : ov_ds ov_m251.2.1 17 [.aload_n 0, .iload_n 1, .iload_n 2, .iload_n 3, .iload 4] = true := by decide +kernel
theorem d_251_23 : decode ov_m251.2.1 23 = .ok (.invokevirtual 315, 3) := by decide +kernel
theorem d_251_26 : decode ov_m251.2.1 26 = .ok (.goto 4, 3) := by decide +kernel
theorem b_255_0_2 : ov_ds ov_m255.2.1 0 [.iconst 0, .istore 4] = true := by decide +kernel
theorem b_255_3_2 : ov_ds ov_m255.2.1 3 [.iload 4, .iload_n 3] = true := by decide +kernel
theorem d_255_6 : decode ov_m255.2.1 6 = .ok (.if_icmp .ge 33, 3) := by decide +kernel
theorem d_255_39 : decode ov_m255.2.1 39 = .ok (.return_, 1) := by decide +kernel
theorem b_255_9_1 : ov_ds ov_m255.2.1 9 [.aload_n 0] = true := by decide +kernel
theorem d_255_10 : decode ov_m255.2.1 10 = .ok (.getfield 102, 3) := by decide +kernel
theorem b_255_13_6 : ov_ds ov_m255.2.1 13 [.bipush 120, .iload_n 2, .imul, .iload 4, .iadd, .aload_n 0] = true := by decide +kernel
theorem d_255_21 : decode ov_m255.2.1 21 = .ok (.getfield 102, 3) := by decide +kernel
theorem b_255_24_5 : ov_ds ov_m255.2.1 24 [.bipush 120, .iload_n 1, .imul, .iload 4, .iadd] = true := by decide +kernel
theorem d_255_31 : decode ov_m255.2.1 31 = .ok (.iaload, 1) := by decide +kernel
theorem d_255_32 : decode ov_m255.2.1 32 = .ok (.iastore, 1) := by decide +kernel
theorem b_255_33_1 : ov_ds ov_m255.2.1 33 [.iinc 4 1] = true := by decide +kernel
theorem d_255_36 : decode ov_m255.2.1 36 = .ok (.goto (-33), 3) := by decide +kernel
theorem b_204_0_2 : ov_ds ov_m204.2.1 0 [.iconst 0, .istore_n 1] = true := by decide +kernel
theorem b_204_2_2 : ov_ds ov_m204.2.1 2 [.iload_n 1, .bipush 120] = true := by decide +kernel
theorem d_204_5 : decode ov_m204.2.1 5 = .ok (.if_icmp .ge 16, 3) := by decide +kernel
theorem b_204_21_1 : ov_ds ov_m204.2.1 21 [.aload_n 0] = true := by decide +kernel
theorem d_204_22 : decode ov_m204.2.1 22 = .ok (.getfield 93, 3) := by decide +kernel
theorem b_204_25_2 : ov_ds ov_m204.2.1 25 [.iconst 0, .iconst 0] = true := by decide +kernel
theorem d_204_27 : decode ov_m204.2.1 27 = .ok (.iastore, 1) := by decide +kernel
theorem b_204_28_2 : ov_ds ov_m204.2.1 28 [.aload_n 0, .iconst 0] = true := by decide +kernel
theorem d_204_30 : decode ov_m204.2.1 30 = .ok (.putfield 319, 3) := by decide +kernel
theorem b_204_33_2 : ov_ds ov_m204.2.1 33 [.aload_n 0, .dup] = true := by decide +kernel
theorem d_204_35 : decode ov_m204.2.1 35 = .ok (.getfield 322, 3) := by decide +kernel
theorem b_204_38_2 : ov_ds ov_m204.2.1 38 [.iconst 1, .iadd] = true := by decide +kernel
theorem d_204_40 : decode ov_m204.2.1 40 = .ok (.putfield 322, 3) := by decide +kernel
theorem b_204_43_2 : ov_ds ov_m204.2.1 43 [.iconst 0, .istore_n 1] = true := by decide +kernel
theorem b_204_45_2 : ov_ds ov_m204.2.1 45 [.iload_n 1, .iconst 4] = true := by decide +kernel
theorem d_204_47 : decode ov_m204.2.1 47 = .ok (.if_icmp .ge 16, 3) := by decide +kernel
theorem d_204_63 : decode ov_m204.2.1 63 = .ok (.return_, 1) := by decide +kernel
theorem b_204_50_1 : ov_ds ov_m204.2.1 50 [.aload_n 0] = true := by decide +kernel
theorem d_204_51 : decode ov_m204.2.1 51 = .ok (.getfield 105, 3) := by decide +kernel
theorem b_204_54_2 : ov_ds ov_m204.2.1 54 [.iload_n 1, .iconst 0] = true := by decide +kernel
theorem d_204_56 : decode ov_m204.2.1 56 = .ok (.bastore, 1) := by decide +kernel
theorem b_204_57_1 : ov_ds ov_m204.2.1 57 [.iinc 1 1] = true := by decide +kernel
theorem d_204_60 : decode ov_m204.2.1 60 = .ok (.goto (-15), 3) := by decide +kernel
theorem b_204_8_1 : ov_ds ov_m204.2.1 8 [.aload_n 0] = true := by decide +kernel
theorem d_204_9 : decode ov_m204.2.1 9 = .ok (.getfield 102, 3) := by decide +kernel
theorem b_204_12_2 : ov_ds ov_m204.2.1 12 [.iload_n 1, .iconst 0] = true := by decide +kernel
theorem d_204_14 : decode ov_m204.2.1 14 = .ok (.iastore, 1) := by decide +kernel
theorem b_204_15_1 : ov_ds ov_m204.2.1 15 [.iinc 1 1] = true := by decide +kernel
theorem d_204_18 : decode ov_m204.2.1 18 = .ok (.goto (-16), 3) := by decide +kernel
theorem b_254_0_1 : ov_ds ov_m254.2.1 0 [.aload_n 0] = true := by decide +kernel
theorem d_254_1 : decode ov_m254.2.1 1 = .ok (.getfield 319, 3) := by decide +kernel
theorem b_254_4_1 : ov_ds ov_m254.2.1 4 [.bipush 16] = true := by decide +kernel
theorem d_254_6 : decode ov_m254.2.1 6 = .ok (.if_icmp .ne 41, 3) := by decide +kernel
theorem b_254_47_4 : ov_ds ov_m254.2.1 47 [.aload_n 0, .iconst 0, .iconst 5, .aload_n 0] = true := by decide +kernel
theorem d_254_51 : decode ov_m254.2.1 51 = .ok (.getfield 319, 3) := by decide +kernel
theorem b_254_54_2 : ov_ds ov_m254.2.1 54 [.iadd, .bipush 58] = true := by decide +kernel
theorem d_254_57 : decode ov_m254.2.1 57 = .ok (.invokevirtual 325, 3) := by decide +kernel
theorem b_254_60_2 : ov_ds ov_m254.2.1 60 [.aload_n 0, .dup] = true := by decide +kernel
theorem d_254_62 : decode ov_m254.2.1 62 = .ok (.getfield 319, 3) := by decide +kernel
theorem b_254_65_2 : ov_ds ov_m254.2.1 65 [.iconst 1, .iadd] = true := by decide +kernel
theorem d_254_67 : decode ov_m254.2.1 67 = .ok (.putfield 319, 3) := by decide +kernel
theorem d_254_70 : decode ov_m254.2.1 70 = .ok (.return_, 1) := by decide +kernel
theorem b_254_9_2 : ov_ds ov_m254.2.1 9 [.iconst 1, .istore_n 1] = true := by decide +kernel
theorem b_254_11_2 : ov_ds ov_m254.2.1 11 [.iload_n 1, .bipush 16] = true := by decide +kernel
theorem d_254_14 : decode ov_m254.2.1 14 = .ok (.if_icmp .ge 23, 3) := by decide +kernel
theorem b_254_37_2 : ov_ds ov_m254.2.1 37 [.aload_n 0, .dup] = true := by decide +kernel
theorem d_254_39 : decode ov_m254.2.1 39 = .ok (.getfield 319, 3) := by decide +kernel
theorem b_254_42_2 : ov_ds ov_m254.2.1 42 [.iconst 1, .isub] = true := by decide +kernel
theorem d_254_44 : decode ov_m254.2.1 44 = .ok (.putfield 319, 3) := by decide +kernel
theorem b_254_17_10 : ov_ds ov_m254.2.1 17 [.aload_n 0, .iconst 5, .iload_n 1, .iadd, .iconst 5, .iload_n 1, .iadd, .iconst 1, .isub, .bipush 58] = true := by decide +kernel
theorem d_254_28 : decode ov_m254.2.1 28 = .ok (.invokevirtual 325, 3) := by decide +kernel
theorem b_254_31_1 : ov_ds ov_m254.2.1 31 [.iinc 1 1] = true := by decide +kernel
theorem d_254_34 : decode ov_m254.2.1 34 = .ok (.goto (-23), 3) := by decide +kernel
theorem b_253_0_2 : ov_ds ov_m253.2.1 0 [.aload_n 0, .iconst 0] = true := by decide +kernel
theorem d_253_2 : decode ov_m253.2.1 2 = .ok (.putfield 1, 3) := by decide +kernel
theorem b_253_5_1 : ov_ds ov_m253.2.1 5 [.aload_n 0] = true := by decide +kernel
theorem d_253_6 : decode ov_m253.2.1 6 = .ok (.getfield 102, 3) := by decide +kernel
theorem b_253_9_1 : ov_ds ov_m253.2.1 9 [.iconst 0] = true := by decide +kernel
theorem d_253_10 : decode ov_m253.2.1 10 = .ok (.iaload, 1) := by decide +kernel
theorem b_253_11_2 : ov_ds ov_m253.2.1 11 [.istore_n 3, .aload_n 0] = true := by decide +kernel
theorem d_253_13 : decode ov_m253.2.1 13 = .ok (.getfield 102, 3) := by decide +kernel
theorem b_253_16_1 : ov_ds ov_m253.2.1 16 [.iconst 1] = true := by decide +kernel
theorem d_253_17 : decode ov_m253.2.1 17 = .ok (.iaload, 1) := by decide +kernel
theorem b_253_18_4 : ov_ds ov_m253.2.1 18 [.istore 4, .iload_n 1, .iconst 0, .iconst 1] = true := by decide +kernel
theorem d_253_23 : decode ov_m253.2.1 23 = .ok (.invokestatic 299, 3) := by decide +kernel
theorem d_253_26 : decode ov_m253.2.1 26 = .ok (.ifCond .eq 44, 3) := by decide +kernel
theorem b_253_70_1 : ov_ds ov_m253.2.1 70 [.iconst (-1)] = true := by decide +kernel
theorem d_253_71 : decode ov_m253.2.1 71 = .ok (.ireturn, 1) := by decide +kernel
theorem b_253_29_4 : ov_ds ov_m253.2.1 29 [.aload_n 0, .iload_n 3, .iload 4, .iload_n 1] = true := by decide +kernel
theorem d_253_34 : decode ov_m253.2.1 34 = .ok (.invokevirtual 309, 3) := by decide +kernel
theorem d_253_37 : decode ov_m253.2.1 37 = .ok (.ifCond .eq 33, 3) := by decide +kernel
theorem b_253_40_1 : ov_ds ov_m253.2.1 40 [.iload_n 2] = true := by decide +kernel
theorem d_253_41 : decode ov_m253.2.1 41 = .ok (.ifCond .eq 31, 3) := by decide +kernel
theorem b_253_72_1 : ov_ds ov_m253.2.1 72 [.aload_n 0] = true := by decide +kernel
theorem d_253_73 : decode ov_m253.2.1 73 = .ok (.invokevirtual 329, 3) := by decide +kernel
theorem b_253_76_1 : ov_ds ov_m253.2.1 76 [.aload_n 0] = true := by decide +kernel
theorem d_253_77 : decode ov_m253.2.1 77 = .ok (.getfield 102, 3) := by decide +kernel
theorem b_253_80_2 : ov_ds ov_m253.2.1 80 [.iconst 2, .dup2] = true := by decide +kernel
theorem d_253_82 : decode ov_m253.2.1 82 = .ok (.iaload, 1) := by decide +kernel
theorem b_253_83_5 : ov_ds ov_m253.2.1 83 [.aload_n 0, .iload_n 3, .iload 4, .iload_n 1, .aload_n 0] = true := by decide +kernel
theorem d_253_89 : decode ov_m253.2.1 89 = .ok (.getfield 102, 3) := by decide +kernel
theorem b_253_92_1 : ov_ds ov_m253.2.1 92 [.iconst 2] = true := by decide +kernel
theorem d_253_93 : decode ov_m253.2.1 93 = .ok (.iaload, 1) := by decide +kernel
theorem d_253_94 : decode ov_m253.2.1 94 = .ok (.invokevirtual 315, 3) := by decide +kernel
theorem b_253_97_1 : ov_ds ov_m253.2.1 97 [.iload_n 2] = true := by decide +kernel
theorem d_253_98 : decode ov_m253.2.1 98 = .ok (.ifCond .eq 10, 3) := by decide +kernel
theorem b_253_108_1 : ov_ds ov_m253.2.1 108 [.aload_n 0] = true := by decide +kernel
theorem d_253_109 : decode ov_m253.2.1 109 = .ok (.getfield 81, 3) := by decide +kernel
theorem b_253_112_1 : ov_ds ov_m253.2.1 112 [.iconst 2] = true := by decide +kernel
theorem d_253_113 : decode ov_m253.2.1 113 = .ok (.iaload, 1) := by decide +kernel
theorem b_253_114_1 : ov_ds ov_m253.2.1 114 [.iadd] = true := by decide +kernel
theorem b_253_115_1 : ov_ds ov_m253.2.1 115 [.iadd] = true := by decide +kernel
theorem d_253_116 : decode ov_m253.2.1 116 = .ok (.iastore, 1) := by decide +kernel
theorem b_253_117_1 : ov_ds ov_m253.2.1 117 [.aload_n 0] = true := by decide +kernel
theorem d_253_118 : decode ov_m253.2.1 118 = .ok (.getfield 102, 3) := by decide +kernel
theorem b_253_121_2 : ov_ds ov_m253.2.1 121 [.iconst 0, .dup2] = true := by decide +kernel
theorem d_253_123 : decode ov_m253.2.1 123 = .ok (.iaload, 1) := by decide +kernel
theorem b_253_124_4 : ov_ds ov_m253.2.1 124 [.iconst 1, .iload_n 1, .isub, .iadd] = true := by decide +kernel
theorem d_253_128 : decode ov_m253.2.1 128 = .ok (.iastore, 1) := by decide +kernel
theorem b_253_129_1 : ov_ds ov_m253.2.1 129 [.aload_n 0] = true := by decide +kernel
theorem d_253_130 : decode ov_m253.2.1 130 = .ok (.getfield 102, 3) := by decide +kernel
theorem b_253_133_2 : ov_ds ov_m253.2.1 133 [.iconst 1, .dup2] = true := by decide +kernel
theorem d_253_135 : decode ov_m253.2.1 135 = .ok (.iaload, 1) := by decide +kernel
theorem b_253_136_2 : ov_ds ov_m253.2.1 136 [.iload_n 1, .iadd] = true := by decide +kernel
theorem d_253_138 : decode ov_m253.2.1 138 = .ok (.iastore, 1) := by decide +kernel
theorem b_253_139_1 : ov_ds ov_m253.2.1 139 [.aload_n 0] = true := by decide +kernel
theorem d_253_140 : decode ov_m253.2.1 140 = .ok (.getfield 102, 3) := by decide +kernel
theorem b_253_143_2 : ov_ds ov_m253.2.1 143 [.iconst 3, .dup2] = true := by decide +kernel
theorem d_253_145 : decode ov_m253.2.1 145 = .ok (.iaload, 1) := by decide +kernel
theorem b_253_146_1 : ov_ds ov_m253.2.1 146 [.iload_n 2] = true := by decide +kernel
theorem d_253_147 : decode ov_m253.2.1 147 = .ok (.ifCond .eq 7, 3) := by decide +kernel
theorem b_253_154_2 : ov_ds ov_m253.2.1 154 [.iconst 0, .iadd] = true := by decide +kernel
theorem d_253_156 : decode ov_m253.2.1 156 = .ok (.iastore, 1) := by decide +kernel
theorem b_253_157_1 : ov_ds ov_m253.2.1 157 [.aload_n 0] = true := by decide +kernel
theorem d_253_158 : decode ov_m253.2.1 158 = .ok (.getfield 102, 3) := by decide +kernel
theorem b_253_161_1 : ov_ds ov_m253.2.1 161 [.iconst 2] = true := by decide +kernel
theorem d_253_162 : decode ov_m253.2.1 162 = .ok (.iaload, 1) := by decide +kernel
theorem d_253_163 : decode ov_m253.2.1 163 = .ok (.ireturn, 1) := by decide +kernel
theorem b_253_44_1 : ov_ds ov_m253.2.1 44 [.aload_n 0] = true := by decide +kernel
theorem d_253_45 : decode ov_m253.2.1 45 = .ok (.getfield 81, 3) := by decide +kernel
theorem b_253_48_1 : ov_ds ov_m253.2.1 48 [.bipush 6] = true := by decide +kernel
theorem d_253_50 : decode ov_m253.2.1 50 = .ok (.iaload, 1) := by decide +kernel
theorem b_253_51_1 : ov_ds ov_m253.2.1 51 [.iconst 1] = true := by decide +kernel
theorem d_253_52 : decode ov_m253.2.1 52 = .ok (.if_icmp .eq 18, 3) := by decide +kernel
theorem b_253_55_1 : ov_ds ov_m253.2.1 55 [.aload_n 0] = true := by decide +kernel
theorem d_253_56 : decode ov_m253.2.1 56 = .ok (.getfield 102, 3) := by decide +kernel
theorem b_253_59_1 : ov_ds ov_m253.2.1 59 [.iconst 3] = true := by decide +kernel
theorem d_253_60 : decode ov_m253.2.1 60 = .ok (.iaload, 1) := by decide +kernel
theorem b_253_61_1 : ov_ds ov_m253.2.1 61 [.aload_n 0] = true := by decide +kernel
theorem d_253_62 : decode ov_m253.2.1 62 = .ok (.getfield 81, 3) := by decide +kernel
theorem b_253_65_1 : ov_ds ov_m253.2.1 65 [.iconst 5] = true := by decide +kernel
theorem d_253_66 : decode ov_m253.2.1 66 = .ok (.iaload, 1) := by decide +kernel
theorem d_253_67 : decode ov_m253.2.1 67 = .ok (.if_icmp .ne 5, 3) := by decide +kernel
theorem b_253_101_1 : ov_ds ov_m253.2.1 101 [.aload_n 0] = true := by decide +kernel
theorem d_253_102 : decode ov_m253.2.1 102 = .ok (.invokevirtual 332, 3) := by decide +kernel
theorem d_253_105 : decode ov_m253.2.1 105 = .ok (.goto 9, 3) := by decide +kernel
theorem b_253_150_1 : ov_ds ov_m253.2.1 150 [.iconst 1] = true := by decide +kernel
theorem d_253_151 : decode ov_m253.2.1 151 = .ok (.goto 4, 3) := by decide +kernel
theorem b_253_155_1 : ov_ds ov_m253.2.1 155 [.iadd] = true := by decide +kernel
theorem b_257_0_2 : ov_ds ov_m257.2.1 0 [.aload_n 0, .iconst 0] = true := by decide +kernel
theorem d_257_2 : decode ov_m257.2.1 2 = .ok (.putfield 1, 3) := by decide +kernel
theorem b_257_5_3 : ov_ds ov_m257.2.1 5 [.iload_n 1, .iconst 1, .sipush 1000] = true := by decide +kernel
theorem d_257_10 : decode ov_m257.2.1 10 = .ok (.invokestatic 299, 3) := by decide +kernel
theorem d_257_13 : decode ov_m257.2.1 13 = .ok (.ifCond .ne 5, 3) := by decide +kernel
theorem b_257_18_1 : ov_ds ov_m257.2.1 18 [.aload_n 0] = true := by decide +kernel
theorem d_257_19 : decode ov_m257.2.1 19 = .ok (.invokevirtual 329, 3) := by decide +kernel
theorem b_257_22_1 : ov_ds ov_m257.2.1 22 [.aload_n 0] = true := by decide +kernel
theorem d_257_23 : decode ov_m257.2.1 23 = .ok (.getfield 102, 3) := by decide +kernel
theorem b_257_26_2 : ov_ds ov_m257.2.1 26 [.iconst 2, .dup2] = true := by decide +kernel
theorem d_257_28 : decode ov_m257.2.1 28 = .ok (.iaload, 1) := by decide +kernel
theorem b_257_29_2 : ov_ds ov_m257.2.1 29 [.iload_n 1, .iadd] = true := by decide +kernel
theorem d_257_31 : decode ov_m257.2.1 31 = .ok (.iastore, 1) := by decide +kernel
theorem b_257_32_1 : ov_ds ov_m257.2.1 32 [.aload_n 0] = true := by decide +kernel
theorem d_257_33 : decode ov_m257.2.1 33 = .ok (.getfield 102, 3) := by decide +kernel
theorem b_257_36_1 : ov_ds ov_m257.2.1 36 [.iconst 2] = true := by decide +kernel
theorem d_257_37 : decode ov_m257.2.1 37 = .ok (.iaload, 1) := by decide +kernel
theorem d_257_38 : decode ov_m257.2.1 38 = .ok (.ireturn, 1) := by decide +kernel
theorem b_257_16_1 : ov_ds ov_m257.2.1 16 [.iconst (-1)] = true := by decide +kernel
theorem d_257_17 : decode ov_m257.2.1 17 = .ok (.ireturn, 1) := by decide +kernel
theorem b_258_0_2 : ov_ds ov_m258.2.1 0 [.aload_n 0, .iconst 0] = true := by decide +kernel
theorem d_258_2 : decode ov_m258.2.1 2 = .ok (.putfield 1, 3) := by decide +kernel
theorem b_258_5_1 : ov_ds ov_m258.2.1 5 [.aload_n 0] = true := by decide +kernel
theorem d_258_6 : decode ov_m258.2.1 6 = .ok (.getfield 102, 3) := by decide +kernel
theorem b_258_9_1 : ov_ds ov_m258.2.1 9 [.iconst 0] = true := by decide +kernel
theorem d_258_10 : decode ov_m258.2.1 10 = .ok (.iaload, 1) := by decide +kernel
theorem b_258_11_2 : ov_ds ov_m258.2.1 11 [.istore_n 1, .aload_n 0] = true := by decide +kernel
theorem d_258_13 : decode ov_m258.2.1 13 = .ok (.getfield 102, 3) := by decide +kernel
theorem b_258_16_1 : ov_ds ov_m258.2.1 16 [.iconst 1] = true := by decide +kernel
theorem d_258_17 : decode ov_m258.2.1 17 = .ok (.iaload, 1) := by decide +kernel
theorem b_258_18_4 : ov_ds ov_m258.2.1 18 [.istore_n 2, .aload_n 0, .iload_n 1, .iload_n 2] = true := by decide +kernel
theorem d_258_22 : decode ov_m258.2.1 22 = .ok (.invokevirtual 282, 3) := by decide +kernel
theorem b_258_25_1 : ov_ds ov_m258.2.1 25 [.iconst 1] = true := by decide +kernel
theorem d_258_26 : decode ov_m258.2.1 26 = .ok (.if_icmp .ne 12, 3) := by decide +kernel
theorem b_258_38_1 : ov_ds ov_m258.2.1 38 [.iconst 0] = true := by decide +kernel
theorem d_258_39 : decode ov_m258.2.1 39 = .ok (.ireturn, 1) := by decide +kernel
theorem b_258_29_3 : ov_ds ov_m258.2.1 29 [.aload_n 0, .iload_n 1, .iload_n 2] = true := by decide +kernel
theorem d_258_32 : decode ov_m258.2.1 32 = .ok (.invokevirtual 302, 3) := by decide +kernel
theorem d_258_35 : decode ov_m258.2.1 35 = .ok (.ifCond .eq 5, 3) := by decide +kernel
theorem b_258_40_1 : ov_ds ov_m258.2.1 40 [.aload_n 0] = true := by decide +kernel
theorem d_258_41 : decode ov_m258.2.1 41 = .ok (.invokevirtual 329, 3) := by decide +kernel
theorem b_258_44_1 : ov_ds ov_m258.2.1 44 [.aload_n 0] = true := by decide +kernel
theorem d_258_45 : decode ov_m258.2.1 45 = .ok (.getfield 102, 3) := by decide +kernel
theorem b_258_48_8 : ov_ds ov_m258.2.1 48 [.iconst 4, .bipush 6, .iload_n 2, .imul, .iadd, .iload_n 1, .iadd, .iconst 1] = true := by decide +kernel
theorem d_258_57 : decode ov_m258.2.1 57 = .ok (.iastore, 1) := by decide +kernel
theorem b_258_58_2 : ov_ds ov_m258.2.1 58 [.aload_n 0, .dup] = true := by decide +kernel
theorem d_258_60 : decode ov_m258.2.1 60 = .ok (.getfield 322, 3) := by decide +kernel
theorem b_258_63_2 : ov_ds ov_m258.2.1 63 [.iconst 1, .iadd] = true := by decide +kernel
theorem d_258_65 : decode ov_m258.2.1 65 = .ok (.putfield 322, 3) := by decide +kernel
theorem b_258_68_1 : ov_ds ov_m258.2.1 68 [.iconst 1] = true := by decide +kernel
theorem d_258_69 : decode ov_m258.2.1 69 = .ok (.ireturn, 1) := by decide +kernel
theorem b_259_0_2 : ov_ds ov_m259.2.1 0 [.aload_n 0, .iconst 0] = true := by decide +kernel
theorem d_259_2 : decode ov_m259.2.1 2 = .ok (.putfield 1, 3) := by decide +kernel
theorem b_259_5_1 : ov_ds ov_m259.2.1 5 [.aload_n 0] = true := by decide +kernel
theorem d_259_6 : decode ov_m259.2.1 6 = .ok (.getfield 319, 3) := by decide +kernel
theorem d_259_9 : decode ov_m259.2.1 9 = .ok (.ifCond .ne 5, 3) := by decide +kernel
theorem b_259_14_2 : ov_ds ov_m259.2.1 14 [.aload_n 0, .dup] = true := by decide +kernel
theorem d_259_16 : decode ov_m259.2.1 16 = .ok (.getfield 319, 3) := by decide +kernel
theorem b_259_19_2 : ov_ds ov_m259.2.1 19 [.iconst 1, .isub] = true := by decide +kernel
theorem d_259_21 : decode ov_m259.2.1 21 = .ok (.putfield 319, 3) := by decide +kernel
theorem b_259_24_3 : ov_ds ov_m259.2.1 24 [.aload_n 0, .iconst 5, .aload_n 0] = true := by decide +kernel
theorem d_259_27 : decode ov_m259.2.1 27 = .ok (.getfield 319, 3) := by decide +kernel
theorem b_259_30_3 : ov_ds ov_m259.2.1 30 [.iadd, .iconst 0, .bipush 58] = true := by decide +kernel
theorem d_259_34 : decode ov_m259.2.1 34 = .ok (.invokevirtual 325, 3) := by decide +kernel
theorem b_259_37_2 : ov_ds ov_m259.2.1 37 [.aload_n 0, .dup] = true := by decide +kernel
theorem d_259_39 : decode ov_m259.2.1 39 = .ok (.getfield 322, 3) := by decide +kernel
theorem b_259_42_2 : ov_ds ov_m259.2.1 42 [.iconst 1, .iadd] = true := by decide +kernel
theorem d_259_44 : decode ov_m259.2.1 44 = .ok (.putfield 322, 3) := by decide +kernel
theorem b_259_47_1 : ov_ds ov_m259.2.1 47 [.iconst 1] = true := by decide +kernel
theorem d_259_48 : decode ov_m259.2.1 48 = .ok (.ireturn, 1) := by decide +kernel
theorem b_259_12_1 : ov_ds ov_m259.2.1 12 [.iconst 0] = true := by decide +kernel
theorem d_259_13 : decode ov_m259.2.1 13 = .ok (.ireturn, 1) := by decide +kernel
abbrev P_Mo_isKnown_90 (F : ov_H × ov_Z) (z : ov_Z) (h : ov_H) (x : Int) (y : Int) : Option ov_V → ov_Z → ov_H → Prop := fun r0 z' h' => ∃ r : Int, r0 = some (ov_i r) ∧ z = z' ∧ h = h' ∧ ((r = 0 ∨ r = 1) ∧ (r = 1 → ((h 96 (10 + 4 * (6 * y + x))) = 2 ∧ (h 103 (4 + 6 * y + x)) = 1)) ∧ (r = 0 → ¬ ((h 96 (10 + 4 * (6 * y + x))) = 2 ∧ (h 103 (4 + 6 * y + x)) = 1)))
set_option maxHeartbeats 4000000 in
theorem c_Mo_isKnown_90 {u : ov_U} {F : ov_H × ov_Z} {z : ov_Z} {h : ov_H} (d : Nat) (hd : 1 ≤ d) (U : ov_cap u) (I : ov_N F z h) (x : Int) (y : Int) (g_x : ov_g x) (g_y : ov_g y) (p0 : 0 ≤ x ∧ x ≤ 5 ∧ 0 ≤ y ∧ y ≤ 8) : ov_T u d ov_m244 [ov_r 90, ov_i x, ov_i y] z h (P_Mo_isKnown_90 F z h x y) := by
  refine ov_en rfl (Nat.le_of_ble_eq_true rfl) ?_
  show ov_R u d ov_m244 0 [(0, ov_r 90), (1, ov_i x), (2, ov_i y)] [] z h (P_Mo_isKnown_90 F z h x y)
  refine ov_blk (ls2 := [(0, ov_r 90), (1, ov_i x), (2, ov_i y)]) (st2 := [ov_i y, ov_i x, ov_r 90]) (pc2 := 3) b_244_0_3 rfl rfl ?_
  refine ov_cV (as := [ov_i x, ov_i y]) (st := []) (d2 := d - 1) d_244_3 lk_Mo_282 rfl (Nat.le_of_ble_eq_true rfl) (c := 1) (zb_90 I) (zs_90 I) ⟨by decide, rfl⟩ (by omega) (c_Mo_kindAt_90 (d - 1) (by omega) U I x y (by omega) (by omega) (by omega)) ?_
  rintro _ _ _ ⟨v2, rfl, rfl, rfl, f1⟩
  show ov_R u d ov_m244 6 [(0, ov_r 90), (1, ov_i x), (2, ov_i y)] [ov_i v2] z h (P_Mo_isKnown_90 F z h x y)
  have f3 : v2 = (h 96 (10 + 4 * (6 * y + x))) - 1 ∧ -1 ≤ v2 ∧ v2 ≤ 3 := f1
  clear f1
  refine ov_blk (ls2 := [(0, ov_r 90), (1, ov_i x), (2, ov_i y)]) (st2 := [ov_i 1, ov_i v2]) (pc2 := 7) b_244_6_1 rfl rfl ?_
  refine ov_icne (tgt := 31) d_244_7 (by decide) (by omega) (by omega) (fun c4 => ?_) (fun c4 => ?_)
  · skip
    refine ov_blk (ls2 := [(0, ov_r 90), (1, ov_i x), (2, ov_i y)]) (st2 := [ov_i 0]) (pc2 := 32) b_244_31_1 rfl rfl ?_
    exact ov_retz (st := []) d_244_32 rfl (by omega) ⟨_, rfl, rfl, rfl, (by show (0 = 0 ∨ 0 = 1) ∧ (0 = 1 → ((h 96 (10 + 4 * (6 * y + x))) = 2 ∧ (h 103 (4 + 6 * y + x)) = 1)) ∧ (0 = 0 → ¬ ((h 96 (10 + 4 * (6 * y + x))) = 2 ∧ (h 103 (4 + 6 * y + x)) = 1)); omega)⟩
  · skip
    refine ov_blk (ls2 := [(0, ov_r 90), (1, ov_i x), (2, ov_i y)]) (st2 := [ov_r 90]) (pc2 := 11) b_244_10_1 rfl rfl ?_
    refine ov_getf (v := ov_r 103) d_244_11 fl_Mo_102 (zb_90 I) (zs_90 I) (congrArg ov_r (rg_90_19 I)) ?_
    refine ov_blk (ls2 := [(0, ov_r 90), (1, ov_i x), (2, ov_i y)]) (st2 := [ov_i ((4 + (6 * y)) + x), ov_r 103]) (pc2 := 22) b_244_14_7 rfl rfl ?_
    refine ov_iald d_244_22 (zb_103 I) (zs_103 I) (by omega) ?_
    have g5 := g103 I ((4 + (6 * y)) + x)
    refine ov_blk (ls2 := [(0, ov_r 90), (1, ov_i x), (2, ov_i y)]) (st2 := [ov_i 1, ov_i (h 103 ((4 + (6 * y)) + x))]) (pc2 := 24) b_244_23_1 rfl rfl ?_
    refine ov_icne (tgt := 31) d_244_24 (by decide) (by omega) (by omega) (fun c6 => ?_) (fun c6 => ?_)
    · skip
      refine ov_blk (ls2 := [(0, ov_r 90), (1, ov_i x), (2, ov_i y)]) (st2 := [ov_i 0]) (pc2 := 32) b_244_31_1 rfl rfl ?_
      exact ov_retz (st := []) d_244_32 rfl (by omega) ⟨_, rfl, rfl, rfl, (by show (0 = 0 ∨ 0 = 1) ∧ (0 = 1 → ((h 96 (10 + 4 * (6 * y + x))) = 2 ∧ (h 103 (4 + 6 * y + x)) = 1)) ∧ (0 = 0 → ¬ ((h 96 (10 + 4 * (6 * y + x))) = 2 ∧ (h 103 (4 + 6 * y + x)) = 1)); omega)⟩
    · skip
      refine ov_blk (ls2 := [(0, ov_r 90), (1, ov_i x), (2, ov_i y)]) (st2 := [ov_i 1]) (pc2 := 28) b_244_27_1 rfl rfl ?_
      refine ov_goto (tgt := 32) d_244_28 (by decide) ?_
      exact ov_retz (st := []) d_244_32 rfl (by omega) ⟨_, rfl, rfl, rfl, (by show (1 = 0 ∨ 1 = 1) ∧ (1 = 1 → ((h 96 (10 + 4 * (6 * y + x))) = 2 ∧ (h 103 (4 + 6 * y + x)) = 1)) ∧ (1 = 0 → ¬ ((h 96 (10 + 4 * (6 * y + x))) = 2 ∧ (h 103 (4 + 6 * y + x)) = 1)); omega)⟩
abbrev P_Mo_runTime_90 (F : ov_H × ov_Z) (z : ov_Z) (h : ov_H) : Option ov_V → ov_Z → ov_H → Prop := fun r0 z' h' => ∃ r : Int, r0 = some (ov_i r) ∧ z = z' ∧ h = h' ∧ (0 ≤ r ∧ r ≤ 30)
set_option maxHeartbeats 4000000 in
theorem c_Mo_runTime_90 {u : ov_U} {F : ov_H × ov_Z} {z : ov_Z} {h : ov_H} (d : Nat) (hd : 0 ≤ d) (U : ov_cap u) (I : ov_N F z h) : ov_T u d ov_m256 [ov_r 90] z h (P_Mo_runTime_90 F z h) := by
  refine ov_en rfl (Nat.le_of_ble_eq_true rfl) ?_
  show ov_R u d ov_m256 0 [(0, ov_r 90)] [] z h (P_Mo_runTime_90 F z h)
  refine ov_blk (ls2 := [(0, ov_r 90)]) (st2 := [ov_r 90]) (pc2 := 1) b_256_0_1 rfl rfl ?_
  refine ov_getf (v := ov_r 96) d_256_1 fl_Mo_81 (zb_90 I) (zs_90 I) (congrArg ov_r (rg_90_10 I)) ?_
  refine ov_blk (ls2 := [(0, ov_r 90)]) (st2 := [ov_i 3, ov_r 96]) (pc2 := 5) b_256_4_1 rfl rfl ?_
  refine ov_iald d_256_5 (zb_96 I) (zs_96 I) (by omega) ?_
  have g1 := t96_3 I
  refine ov_ifge (tgt := 18) d_256_6 (by decide) (by omega) (fun c2 => ?_) (fun c2 => ?_)
  · skip
    refine ov_blk (ls2 := [(0, ov_r 90)]) (st2 := [ov_r 90]) (pc2 := 19) b_256_18_1 rfl rfl ?_
    refine ov_getf (v := ov_r 96) d_256_19 fl_Mo_81 (zb_90 I) (zs_90 I) (congrArg ov_r (rg_90_10 I)) ?_
    refine ov_blk (ls2 := [(0, ov_r 90)]) (st2 := [ov_i 3, ov_r 96]) (pc2 := 23) b_256_22_1 rfl rfl ?_
    refine ov_iald d_256_23 (zb_96 I) (zs_96 I) (by omega) ?_
    exact ov_reti (st := []) d_256_24 rfl ⟨_, rfl, rfl, rfl, (by show 0 ≤ (h 96 3) ∧ (h 96 3) ≤ 30; omega)⟩
  · skip
    refine ov_blk (ls2 := [(0, ov_r 90)]) (st2 := [ov_r 90]) (pc2 := 10) b_256_9_1 rfl rfl ?_
    refine ov_getf (v := ov_r 96) d_256_10 fl_Mo_81 (zb_90 I) (zs_90 I) (congrArg ov_r (rg_90_10 I)) ?_
    refine ov_blk (ls2 := [(0, ov_r 90)]) (st2 := [ov_i 2, ov_r 96]) (pc2 := 14) b_256_13_1 rfl rfl ?_
    refine ov_iald d_256_14 (zb_96 I) (zs_96 I) (by omega) ?_
    have g4 := t96_2 I
    refine ov_goto (tgt := 24) d_256_15 (by decide) ?_
    exact ov_reti (st := []) d_256_24 rfl ⟨_, rfl, rfl, rfl, (by show 0 ≤ (h 96 2) ∧ (h 96 2) ≤ 30; omega)⟩
abbrev P_Mo_slowTime_90 (F : ov_H × ov_Z) (z : ov_Z) (h : ov_H) : Option ov_V → ov_Z → ov_H → Prop := fun r0 z' h' => ∃ r : Int, r0 = some (ov_i r) ∧ z = z' ∧ h = h' ∧ (0 ≤ r ∧ r ≤ 30)
set_option maxHeartbeats 4000000 in
theorem c_Mo_slowTime_90 {u : ov_U} {F : ov_H × ov_Z} {z : ov_Z} {h : ov_H} (d : Nat) (hd : 0 ≤ d) (U : ov_cap u) (I : ov_N F z h) : ov_T u d ov_m291 [ov_r 90] z h (P_Mo_slowTime_90 F z h) := by
  refine ov_en rfl (Nat.le_of_ble_eq_true rfl) ?_
  show ov_R u d ov_m291 0 [(0, ov_r 90)] [] z h (P_Mo_slowTime_90 F z h)
  refine ov_blk (ls2 := [(0, ov_r 90)]) (st2 := [ov_r 90]) (pc2 := 1) b_291_0_1 rfl rfl ?_
  refine ov_getf (v := ov_r 96) d_291_1 fl_Mo_81 (zb_90 I) (zs_90 I) (congrArg ov_r (rg_90_10 I)) ?_
  refine ov_blk (ls2 := [(0, ov_r 90)]) (st2 := [ov_i 4, ov_r 96]) (pc2 := 5) b_291_4_1 rfl rfl ?_
  refine ov_iald d_291_5 (zb_96 I) (zs_96 I) (by omega) ?_
  have g1 := t96_4 I
  refine ov_ifge (tgt := 18) d_291_6 (by decide) (by omega) (fun c2 => ?_) (fun c2 => ?_)
  · skip
    refine ov_blk (ls2 := [(0, ov_r 90)]) (st2 := [ov_r 90]) (pc2 := 19) b_291_18_1 rfl rfl ?_
    refine ov_getf (v := ov_r 96) d_291_19 fl_Mo_81 (zb_90 I) (zs_90 I) (congrArg ov_r (rg_90_10 I)) ?_
    refine ov_blk (ls2 := [(0, ov_r 90)]) (st2 := [ov_i 4, ov_r 96]) (pc2 := 23) b_291_22_1 rfl rfl ?_
    refine ov_iald d_291_23 (zb_96 I) (zs_96 I) (by omega) ?_
    exact ov_reti (st := []) d_291_24 rfl ⟨_, rfl, rfl, rfl, (by show 0 ≤ (h 96 4) ∧ (h 96 4) ≤ 30; omega)⟩
  · skip
    refine ov_blk (ls2 := [(0, ov_r 90)]) (st2 := [ov_r 90]) (pc2 := 10) b_291_9_1 rfl rfl ?_
    refine ov_getf (v := ov_r 96) d_291_10 fl_Mo_81 (zb_90 I) (zs_90 I) (congrArg ov_r (rg_90_10 I)) ?_
    refine ov_blk (ls2 := [(0, ov_r 90)]) (st2 := [ov_i 2, ov_r 96]) (pc2 := 14) b_291_13_1 rfl rfl ?_
    refine ov_iald d_291_14 (zb_96 I) (zs_96 I) (by omega) ?_
    have g4 := t96_2 I
    refine ov_goto (tgt := 24) d_291_15 (by decide) ?_
    exact ov_reti (st := []) d_291_24 rfl ⟨_, rfl, rfl, rfl, (by show 0 ≤ (h 96 2) ∧ (h 96 2) ≤ 30; omega)⟩
abbrev P_Mo_light_90 (F : ov_H × ov_Z) (z : ov_Z) (h : ov_H) (x : Int) (y : Int) (w : Int) : Option ov_V → ov_Z → ov_H → Prop := fun r0 z' h' => ∃ r : Int, r0 = some (ov_i r) ∧ ov_N F z' h' ∧ ((h' 90 2) = (h 90 2) ∧ (h' 90 7) = (h 90 7) ∧ (h' 90 8) = (h 90 8) ∧ (h' 90 13) = (h 90 13) ∧ (h' 90 20) = (h 90 20) ∧ (h' 90 22) = (h 90 22) ∧ (h' 90 25) = (h 90 25) ∧ (h' 90 26) = (h 90 26) ∧ (h' 90 28) = (h 90 28) ∧ (h' 90 29) = (h 90 29) ∧ (h' 90 30) = (h 90 30) ∧ (h' 90 34) = (h 90 34) ∧ -2147483648 ≤ r ∧ r ≤ 2147483647) ∧ h' 91 = h 91 ∧ h' 92 = h 92 ∧ h' 93 = h 93 ∧ h' 94 = h 94 ∧ h' 95 = h 95 ∧ h' 96 = h 96 ∧ h' 97 = h 97 ∧ h' 98 = h 98 ∧ h' 99 = h 99 ∧ h' 100 = h 100 ∧ h' 103 = h 103 ∧ h' 104 = h 104 ∧ h' 105 = h 105 ∧ h' 106 = h 106 ∧ h' 109 = h 109 ∧ h' 114 = h 114
set_option maxHeartbeats 4000000 in
theorem c_Mo_light_90 {u : ov_U} {F : ov_H × ov_Z} {z : ov_Z} {h : ov_H} (d : Nat) (hd : 2 ≤ d) (U : ov_cap u) (I : ov_N F z h) (x : Int) (y : Int) (w : Int) (g_x : ov_g x) (g_y : ov_g y) (g_w : ov_g w) : ov_T u d ov_m239 [ov_r 90, ov_i x, ov_i y, ov_i w] z h (P_Mo_light_90 F z h x y w) := by
  refine ov_en rfl (Nat.le_of_ble_eq_true rfl) ?_
  show ov_R u d ov_m239 0 [(0, ov_r 90), (1, ov_i x), (2, ov_i y), (3, ov_i w)] [] z h (P_Mo_light_90 F z h x y w)
  refine ov_blk (ls2 := [(0, ov_r 90), (1, ov_i x), (2, ov_i y), (3, ov_i w)]) (st2 := [ov_i 0, ov_r 90]) (pc2 := 2) b_239_0_2 rfl rfl ?_
  refine ov_putf (x := 0) d_239_2 fl_Mo_1 (zb_90 I) (zs_90 I) rfl nk_0 rfl ?_
  have I1 := up_90_0 (x := 0) I (by omega)
  refine ov_blk (ls2 := [(0, ov_r 90), (1, ov_i x), (2, ov_i y), (3, ov_i w)]) (st2 := [ov_i y, ov_i x, ov_r 90]) (pc2 := 8) b_239_5_3 rfl rfl ?_
  refine ov_cV (as := [ov_i x, ov_i y]) (st := []) (d2 := d - 1) d_239_8 lk_Mo_296 rfl (Nat.le_of_ble_eq_true rfl) (c := 1) (zb_90 I1) (zs_90 I1) ⟨by decide, rfl⟩ (by omega) (c_Mo_isCorner_90 (d - 1) (by omega) U I1 x y (by omega) (by omega)) ?_
  rintro _ _ _ ⟨v3, rfl, rfl, rfl, f2⟩
  show ov_R u d ov_m239 11 [(0, ov_r 90), (1, ov_i x), (2, ov_i y), (3, ov_i w)] [ov_i v3] z (ov_up h 90 0 0) (P_Mo_light_90 F z h x y w)
  have f4 : (v3 = 0 ∨ v3 = 1) ∧ (v3 = 1 → 0 ≤ x ∧ x ≤ 5 ∧ 0 ≤ y ∧ y ≤ 8 ∧ x < (h 96 0) ∧ y < (h 96 1)) := f2
  clear f2
  refine ov_ifeq (tgt := 37) d_239_11 (by decide) (by omega) (fun c5 => ?_) (fun c5 => ?_)
  · skip
    have f4_ : v3 = 0 := by omega
    clear f4
    refine ov_blk (ls2 := [(0, ov_r 90), (1, ov_i x), (2, ov_i y), (3, ov_i w)]) (st2 := [ov_i (-1)]) (pc2 := 38) b_239_37_1 rfl rfl ?_
    exact ov_reti (st := []) d_239_38 rfl ⟨_, rfl, I1, ⟨rfl, rfl, rfl, rfl, rfl, rfl, rfl, rfl, rfl, rfl, rfl, rfl, (by show -2147483648 ≤ (-1) ∧ (-1) ≤ 2147483647; omega)⟩, rfl, rfl, rfl, rfl, rfl, rfl, rfl, rfl, rfl, rfl, rfl, rfl, rfl, rfl, rfl, rfl⟩
  · skip
    have f4_ : v3 = 1 := by omega
    have f6 : 0 ≤ x ∧ x ≤ 5 ∧ 0 ≤ y ∧ y ≤ 8 ∧ x < (h 96 0) ∧ y < (h 96 1) := f4.2 (by omega)
    clear f4
    refine ov_blk (ls2 := [(0, ov_r 90), (1, ov_i x), (2, ov_i y), (3, ov_i w)]) (st2 := [ov_i 5, ov_i 0, ov_i w]) (pc2 := 17) b_239_14_3 rfl rfl ?_
    refine ov_cS (as := [ov_i w, ov_i 0, ov_i 5]) (st := []) (d2 := d - 1) d_239_17 lk_Mo_299 rfl (Nat.le_of_ble_eq_true rfl) (by omega) (c_Mo_within (d - 1) (by omega) U I1 w 0 5 (by omega) (by omega) (by omega)) ?_
    rintro _ _ _ ⟨v8, rfl, rfl, rfl, f7⟩
    show ov_R u d ov_m239 20 [(0, ov_r 90), (1, ov_i x), (2, ov_i y), (3, ov_i w)] [ov_i v8] z (ov_up h 90 0 0) (P_Mo_light_90 F z h x y w)
    have f9 : (v8 = 0 ∨ v8 = 1) ∧ (v8 = 1 → (0 : Int) ≤ w ∧ w ≤ (5 : Int)) ∧ (v8 = 0 → w < (0 : Int) ∨ (5 : Int) < w) := f7
    clear f7
    refine ov_ifeq (tgt := 37) d_239_20 (by decide) (by omega) (fun c10 => ?_) (fun c10 => ?_)
    · skip
      have f9_ : v8 = 0 := by omega
      have f11 : w < (0 : Int) ∨ (5 : Int) < w := f9.2.2 (by omega)
      clear f9
      refine ov_blk (ls2 := [(0, ov_r 90), (1, ov_i x), (2, ov_i y), (3, ov_i w)]) (st2 := [ov_i (-1)]) (pc2 := 38) b_239_37_1 rfl rfl ?_
      exact ov_reti (st := []) d_239_38 rfl ⟨_, rfl, I1, ⟨rfl, rfl, rfl, rfl, rfl, rfl, rfl, rfl, rfl, rfl, rfl, rfl, (by show -2147483648 ≤ (-1) ∧ (-1) ≤ 2147483647; omega)⟩, rfl, rfl, rfl, rfl, rfl, rfl, rfl, rfl, rfl, rfl, rfl, rfl, rfl, rfl, rfl, rfl⟩
    · skip
      have f9_ : v8 = 1 := by omega
      have f12 : (0 : Int) ≤ w ∧ w ≤ (5 : Int) := f9.2.1 (by omega)
      clear f9
      refine ov_blk (ls2 := [(0, ov_r 90), (1, ov_i x), (2, ov_i y), (3, ov_i w)]) (st2 := [ov_i 5, ov_i w]) (pc2 := 25) b_239_23_2 rfl rfl ?_
      refine ov_icge (tgt := 39) d_239_25 (by decide) (by omega) (by omega) (fun c13 => ?_) (fun c13 => ?_)
      · skip
        refine ov_blk (ls2 := [(0, ov_r 90), (1, ov_i x), (2, ov_i y), (3, ov_i w)]) (st2 := [ov_i 5, ov_i w]) (pc2 := 41) b_239_39_2 rfl rfl ?_
        refine ov_icne (tgt := 60) d_239_41 (by decide) (by omega) (by omega) (fun c14 => ?_) (fun c14 => ?_)
        · skip
          refine ov_blk (ls2 := [(0, ov_r 90), (1, ov_i x), (2, ov_i y), (3, ov_i w)]) (st2 := [ov_i w]) (pc2 := 61) b_239_60_1 rfl rfl ?_
          refine ov_ifne (tgt := 73) d_239_61 (by decide) (by omega) (fun c15 => ?_) (fun c15 => ?_)
          · skip
            refine ov_blk (ls2 := [(0, ov_r 90), (1, ov_i x), (2, ov_i y), (3, ov_i w)]) (st2 := [ov_i 4, ov_i w]) (pc2 := 75) b_239_73_2 rfl rfl ?_
            refine ov_icge (tgt := 88) d_239_75 (by decide) (by omega) (by omega) (fun c16 => ?_) (fun c16 => ?_)
            · skip
              refine ov_blk (ls2 := [(0, ov_r 90), (1, ov_i x), (2, ov_i y), (3, ov_i w)]) (st2 := [ov_i y, ov_i x, ov_r 90]) (pc2 := 91) b_239_88_3 rfl rfl ?_
              refine ov_cV (as := [ov_i x, ov_i y]) (st := []) (d2 := d - 1) d_239_91 lk_Mo_302 rfl (Nat.le_of_ble_eq_true rfl) (c := 1) (zb_90 I1) (zs_90 I1) ⟨by decide, rfl⟩ (by omega) (c_Mo_isKnown_90 (d - 1) (by omega) U I1 x y (by omega) (by omega) (by omega)) ?_
              rintro _ _ _ ⟨v18, rfl, rfl, rfl, f17⟩
              show ov_R u d ov_m239 94 [(0, ov_r 90), (1, ov_i x), (2, ov_i y), (3, ov_i w)] [ov_i v18] z (ov_up h 90 0 0) (P_Mo_light_90 F z h x y w)
              have f19 : (v18 = 0 ∨ v18 = 1) ∧ (v18 = 1 → ((h 96 (10 + 4 * (6 * y + x))) = 2 ∧ (h 103 (4 + 6 * y + x)) = 1)) ∧ (v18 = 0 → ¬ ((h 96 (10 + 4 * (6 * y + x))) = 2 ∧ (h 103 (4 + 6 * y + x)) = 1)) := f17
              clear f17
              refine ov_ifeq (tgt := 101) d_239_94 (by decide) (by omega) (fun c20 => ?_) (fun c20 => ?_)
              · skip
                have f19_ : v18 = 0 := by omega
                have f21 : ¬ ((h 96 (10 + 4 * (6 * y + x))) = 2 ∧ (h 103 (4 + 6 * y + x)) = 1) := f19.2.2 (by omega)
                clear f19
                refine ov_blk (ls2 := [(0, ov_r 90), (1, ov_i x), (2, ov_i y), (3, ov_i w)]) (st2 := [ov_i 0]) (pc2 := 102) b_239_101_1 rfl rfl ?_
                exact ov_reti (st := []) d_239_102 rfl ⟨_, rfl, I1, ⟨rfl, rfl, rfl, rfl, rfl, rfl, rfl, rfl, rfl, rfl, rfl, rfl, (by show -2147483648 ≤ 0 ∧ 0 ≤ 2147483647; omega)⟩, rfl, rfl, rfl, rfl, rfl, rfl, rfl, rfl, rfl, rfl, rfl, rfl, rfl, rfl, rfl, rfl⟩
              · skip
                have f19_ : v18 = 1 := by omega
                have f22 : ((h 96 (10 + 4 * (6 * y + x))) = 2 ∧ (h 103 (4 + 6 * y + x)) = 1) := f19.2.1 (by omega)
                clear f19
                refine ov_blk (ls2 := [(0, ov_r 90), (1, ov_i x), (2, ov_i y), (3, ov_i w)]) (st2 := [ov_i 1]) (pc2 := 98) b_239_97_1 rfl rfl ?_
                refine ov_goto (tgt := 102) d_239_98 (by decide) ?_
                exact ov_reti (st := []) d_239_102 rfl ⟨_, rfl, I1, ⟨rfl, rfl, rfl, rfl, rfl, rfl, rfl, rfl, rfl, rfl, rfl, rfl, (by show -2147483648 ≤ 1 ∧ 1 ≤ 2147483647; omega)⟩, rfl, rfl, rfl, rfl, rfl, rfl, rfl, rfl, rfl, rfl, rfl, rfl, rfl, rfl, rfl, rfl⟩
            · omega
          · omega
        · skip
          refine ov_blk (ls2 := [(0, ov_r 90), (1, ov_i x), (2, ov_i y), (3, ov_i w)]) (st2 := [ov_r 90]) (pc2 := 45) b_239_44_1 rfl rfl ?_
          refine ov_getf (v := ov_r 96) d_239_45 fl_Mo_81 (zb_90 I1) (zs_90 I1) (congrArg ov_r (rg_90_10 I1)) ?_
          refine ov_blk (ls2 := [(0, ov_r 90), (1, ov_i x), (2, ov_i y), (3, ov_i w)]) (st2 := [ov_i ((226 + (6 * y)) + x), ov_r 96]) (pc2 := 58) b_239_48_7 rfl rfl ?_
          refine ov_iald d_239_58 (zb_96 I1) (zs_96 I1) (by omega) ?_
          show ov_R u d ov_m239 59 [(0, ov_r 90), (1, ov_i x), (2, ov_i y), (3, ov_i w)] [ov_i (h 96 ((226 + (6 * y)) + x))] z (ov_up h 90 0 0) (P_Mo_light_90 F z h x y w)
          have g23 := g96 I ((226 + (6 * y)) + x)
          exact ov_reti (st := []) d_239_59 rfl ⟨_, rfl, I1, ⟨rfl, rfl, rfl, rfl, rfl, rfl, rfl, rfl, rfl, rfl, rfl, rfl, (by show -2147483648 ≤ (h 96 ((226 + (6 * y)) + x)) ∧ (h 96 ((226 + (6 * y)) + x)) ≤ 2147483647; omega)⟩, rfl, rfl, rfl, rfl, rfl, rfl, rfl, rfl, rfl, rfl, rfl, rfl, rfl, rfl, rfl, rfl⟩
      · skip
        refine ov_blk (ls2 := [(0, ov_r 90), (1, ov_i x), (2, ov_i y), (3, ov_i w)]) (st2 := [ov_i y, ov_i x, ov_r 90]) (pc2 := 31) b_239_28_3 rfl rfl ?_
        refine ov_cV (as := [ov_i x, ov_i y]) (st := []) (d2 := d - 1) d_239_31 lk_Mo_282 rfl (Nat.le_of_ble_eq_true rfl) (c := 1) (zb_90 I1) (zs_90 I1) ⟨by decide, rfl⟩ (by omega) (c_Mo_kindAt_90 (d - 1) (by omega) U I1 x y (by omega) (by omega) (by omega)) ?_
        rintro _ _ _ ⟨v25, rfl, rfl, rfl, f24⟩
        show ov_R u d ov_m239 34 [(0, ov_r 90), (1, ov_i x), (2, ov_i y), (3, ov_i w)] [ov_i v25] z (ov_up h 90 0 0) (P_Mo_light_90 F z h x y w)
        have f26 : v25 = (h 96 (10 + 4 * (6 * y + x))) - 1 ∧ -1 ≤ v25 ∧ v25 ≤ 3 := f24
        clear f24
        refine ov_ifge (tgt := 39) d_239_34 (by decide) (by omega) (fun c27 => ?_) (fun c27 => ?_)
        · skip
          refine ov_blk (ls2 := [(0, ov_r 90), (1, ov_i x), (2, ov_i y), (3, ov_i w)]) (st2 := [ov_i 5, ov_i w]) (pc2 := 41) b_239_39_2 rfl rfl ?_
          refine ov_icne (tgt := 60) d_239_41 (by decide) (by omega) (by omega) (fun c28 => ?_) (fun c28 => ?_)
          · skip
            refine ov_blk (ls2 := [(0, ov_r 90), (1, ov_i x), (2, ov_i y), (3, ov_i w)]) (st2 := [ov_i w]) (pc2 := 61) b_239_60_1 rfl rfl ?_
            refine ov_ifne (tgt := 73) d_239_61 (by decide) (by omega) (fun c29 => ?_) (fun c29 => ?_)
            · skip
              refine ov_blk (ls2 := [(0, ov_r 90), (1, ov_i x), (2, ov_i y), (3, ov_i w)]) (st2 := [ov_i 4, ov_i w]) (pc2 := 75) b_239_73_2 rfl rfl ?_
              refine ov_icge (tgt := 88) d_239_75 (by decide) (by omega) (by omega) (fun c30 => ?_) (fun c30 => ?_)
              · skip
                refine ov_blk (ls2 := [(0, ov_r 90), (1, ov_i x), (2, ov_i y), (3, ov_i w)]) (st2 := [ov_i y, ov_i x, ov_r 90]) (pc2 := 91) b_239_88_3 rfl rfl ?_
                refine ov_cV (as := [ov_i x, ov_i y]) (st := []) (d2 := d - 1) d_239_91 lk_Mo_302 rfl (Nat.le_of_ble_eq_true rfl) (c := 1) (zb_90 I1) (zs_90 I1) ⟨by decide, rfl⟩ (by omega) (c_Mo_isKnown_90 (d - 1) (by omega) U I1 x y (by omega) (by omega) (by omega)) ?_
                rintro _ _ _ ⟨v32, rfl, rfl, rfl, f31⟩
                show ov_R u d ov_m239 94 [(0, ov_r 90), (1, ov_i x), (2, ov_i y), (3, ov_i w)] [ov_i v32] z (ov_up h 90 0 0) (P_Mo_light_90 F z h x y w)
                have f33 : (v32 = 0 ∨ v32 = 1) ∧ (v32 = 1 → ((h 96 (10 + 4 * (6 * y + x))) = 2 ∧ (h 103 (4 + 6 * y + x)) = 1)) ∧ (v32 = 0 → ¬ ((h 96 (10 + 4 * (6 * y + x))) = 2 ∧ (h 103 (4 + 6 * y + x)) = 1)) := f31
                clear f31
                refine ov_ifeq (tgt := 101) d_239_94 (by decide) (by omega) (fun c34 => ?_) (fun c34 => ?_)
                · skip
                  have f33_ : v32 = 0 := by omega
                  have f35 : ¬ ((h 96 (10 + 4 * (6 * y + x))) = 2 ∧ (h 103 (4 + 6 * y + x)) = 1) := f33.2.2 (by omega)
                  clear f33
                  refine ov_blk (ls2 := [(0, ov_r 90), (1, ov_i x), (2, ov_i y), (3, ov_i w)]) (st2 := [ov_i 0]) (pc2 := 102) b_239_101_1 rfl rfl ?_
                  exact ov_reti (st := []) d_239_102 rfl ⟨_, rfl, I1, ⟨rfl, rfl, rfl, rfl, rfl, rfl, rfl, rfl, rfl, rfl, rfl, rfl, (by show -2147483648 ≤ 0 ∧ 0 ≤ 2147483647; omega)⟩, rfl, rfl, rfl, rfl, rfl, rfl, rfl, rfl, rfl, rfl, rfl, rfl, rfl, rfl, rfl, rfl⟩
                · skip
                  have f33_ : v32 = 1 := by omega
                  have f36 : ((h 96 (10 + 4 * (6 * y + x))) = 2 ∧ (h 103 (4 + 6 * y + x)) = 1) := f33.2.1 (by omega)
                  clear f33
                  refine ov_blk (ls2 := [(0, ov_r 90), (1, ov_i x), (2, ov_i y), (3, ov_i w)]) (st2 := [ov_i 1]) (pc2 := 98) b_239_97_1 rfl rfl ?_
                  refine ov_goto (tgt := 102) d_239_98 (by decide) ?_
                  exact ov_reti (st := []) d_239_102 rfl ⟨_, rfl, I1, ⟨rfl, rfl, rfl, rfl, rfl, rfl, rfl, rfl, rfl, rfl, rfl, rfl, (by show -2147483648 ≤ 1 ∧ 1 ≤ 2147483647; omega)⟩, rfl, rfl, rfl, rfl, rfl, rfl, rfl, rfl, rfl, rfl, rfl, rfl, rfl, rfl, rfl, rfl⟩
              · skip
                refine ov_blk (ls2 := [(0, ov_r 90), (1, ov_i x), (2, ov_i y), (3, ov_i w)]) (st2 := [ov_i w, ov_i y, ov_i x, ov_r 90]) (pc2 := 82) b_239_78_4 rfl rfl ?_
                refine ov_cV (as := [ov_i x, ov_i y, ov_i w]) (st := []) (d2 := d - 1) d_239_82 lk_Mo_289 rfl (Nat.le_of_ble_eq_true rfl) (c := 1) (zb_90 I1) (zs_90 I1) ⟨by decide, rfl⟩ (by omega) (c_Mo_lightAt_90 (d - 1) (by omega) U I1 x y w (by omega) (by omega) (by omega) (by omega) (by omega)) ?_
                rintro _ _ _ ⟨v38, rfl, rfl, rfl, f37⟩
                show ov_R u d ov_m239 85 [(0, ov_r 90), (1, ov_i x), (2, ov_i y), (3, ov_i w)] [ov_i v38] z (ov_up h 90 0 0) (P_Mo_light_90 F z h x y w)
                have f39 : v38 = (h 96 (10 + 4 * (6 * y + x) + w)) ∧ (w = 1 → 0 ≤ v38 ∧ v38 ≤ 60) ∧ (w = 2 → 0 ≤ v38 ∧ v38 ≤ 59) ∧ (w = 3 → 0 ≤ v38 ∧ v38 ≤ 60) := f37
                clear f37
                refine ov_goto (tgt := 102) d_239_85 (by decide) ?_
                exact ov_reti (st := []) d_239_102 rfl ⟨_, rfl, I1, ⟨rfl, rfl, rfl, rfl, rfl, rfl, rfl, rfl, rfl, rfl, rfl, rfl, (by show -2147483648 ≤ v38 ∧ v38 ≤ 2147483647; omega)⟩, rfl, rfl, rfl, rfl, rfl, rfl, rfl, rfl, rfl, rfl, rfl, rfl, rfl, rfl, rfl, rfl⟩
            · skip
              refine ov_blk (ls2 := [(0, ov_r 90), (1, ov_i x), (2, ov_i y), (3, ov_i w)]) (st2 := [ov_i y, ov_i x, ov_r 90]) (pc2 := 67) b_239_64_3 rfl rfl ?_
              refine ov_cV (as := [ov_i x, ov_i y]) (st := []) (d2 := d - 1) d_239_67 lk_Mo_282 rfl (Nat.le_of_ble_eq_true rfl) (c := 1) (zb_90 I1) (zs_90 I1) ⟨by decide, rfl⟩ (by omega) (c_Mo_kindAt_90 (d - 1) (by omega) U I1 x y (by omega) (by omega) (by omega)) ?_
              rintro _ _ _ ⟨v41, rfl, rfl, rfl, f40⟩
              show ov_R u d ov_m239 70 [(0, ov_r 90), (1, ov_i x), (2, ov_i y), (3, ov_i w)] [ov_i v41] z (ov_up h 90 0 0) (P_Mo_light_90 F z h x y w)
              have f42 : v41 = (h 96 (10 + 4 * (6 * y + x))) - 1 ∧ -1 ≤ v41 ∧ v41 ≤ 3 := f40
              clear f40
              refine ov_goto (tgt := 102) d_239_70 (by decide) ?_
              exact ov_reti (st := []) d_239_102 rfl ⟨_, rfl, I1, ⟨rfl, rfl, rfl, rfl, rfl, rfl, rfl, rfl, rfl, rfl, rfl, rfl, (by show -2147483648 ≤ v41 ∧ v41 ≤ 2147483647; omega)⟩, rfl, rfl, rfl, rfl, rfl, rfl, rfl, rfl, rfl, rfl, rfl, rfl, rfl, rfl, rfl, rfl⟩
          · omega
        · skip
          refine ov_blk (ls2 := [(0, ov_r 90), (1, ov_i x), (2, ov_i y), (3, ov_i w)]) (st2 := [ov_i (-1)]) (pc2 := 38) b_239_37_1 rfl rfl ?_
          exact ov_reti (st := []) d_239_38 rfl ⟨_, rfl, I1, ⟨rfl, rfl, rfl, rfl, rfl, rfl, rfl, rfl, rfl, rfl, rfl, rfl, (by show -2147483648 ≤ (-1) ∧ (-1) ≤ 2147483647; omega)⟩, rfl, rfl, rfl, rfl, rfl, rfl, rfl, rfl, rfl, rfl, rfl, rfl, rfl, rfl, rfl, rfl⟩
abbrev P_Mo_mayAsk_90 (F : ov_H × ov_Z) (z : ov_Z) (h : ov_H) (x : Int) (y : Int) (way : Int) (s : Int) : Option ov_V → ov_Z → ov_H → Prop := fun r0 z' h' => ∃ r : Int, r0 = some (ov_i r) ∧ z = z' ∧ h = h' ∧ ((r = 0 ∨ r = 1) ∧ (r = 1 → 0 ≤ x ∧ x ≤ 5 ∧ 0 ≤ y ∧ y ≤ 8 ∧ 0 ≤ way ∧ way ≤ 1 ∧ 0 ≤ s ∧ s ≤ 1000000 ∧ ((way = 0 → x < (h 96 0) - 1) ∧ (¬ way = 0 → y < (h 96 1) - 1)) ∧ (((h 96 (10 + 4 * (6 * y + x))) = 1 ∨ (h 96 (10 + 4 * (6 * y + x))) = 2) → (way = 0 → 0 < (h 96 (10 + 4 * (6 * y + x) + 3))) ∧ (¬ way = 0 → (h 96 (10 + 4 * (6 * y + x) + 3)) < (h 96 (10 + 4 * (6 * y + x) + 1))))))
set_option maxHeartbeats 4000000 in
theorem c_Mo_mayAsk_90 {u : ov_U} {F : ov_H × ov_Z} {z : ov_Z} {h : ov_H} (d : Nat) (hd : 3 ≤ d) (U : ov_cap u) (I : ov_N F z h) (x : Int) (y : Int) (way : Int) (s : Int) (g_x : ov_g x) (g_y : ov_g y) (g_way : ov_g way) (g_s : ov_g s) : ov_T u d ov_m246 [ov_r 90, ov_i x, ov_i y, ov_i way, ov_i s] z h (P_Mo_mayAsk_90 F z h x y way s) := by
  refine ov_en rfl (Nat.le_of_ble_eq_true rfl) ?_
  show ov_R u d ov_m246 0 [(0, ov_r 90), (1, ov_i x), (2, ov_i y), (3, ov_i way), (4, ov_i s)] [] z h (P_Mo_mayAsk_90 F z h x y way s)
  refine ov_blk (ls2 := [(0, ov_r 90), (1, ov_i x), (2, ov_i y), (3, ov_i way), (4, ov_i s)]) (st2 := [ov_i y, ov_i x, ov_r 90]) (pc2 := 3) b_246_0_3 rfl rfl ?_
  refine ov_cV (as := [ov_i x, ov_i y]) (st := []) (d2 := d - 1) d_246_3 lk_Mo_296 rfl (Nat.le_of_ble_eq_true rfl) (c := 1) (zb_90 I) (zs_90 I) ⟨by decide, rfl⟩ (by omega) (c_Mo_isCorner_90 (d - 1) (by omega) U I x y (by omega) (by omega)) ?_
  rintro _ _ _ ⟨v2, rfl, rfl, rfl, f1⟩
  show ov_R u d ov_m246 6 [(0, ov_r 90), (1, ov_i x), (2, ov_i y), (3, ov_i way), (4, ov_i s)] [ov_i v2] z h (P_Mo_mayAsk_90 F z h x y way s)
  have f3 : (v2 = 0 ∨ v2 = 1) ∧ (v2 = 1 → 0 ≤ x ∧ x ≤ 5 ∧ 0 ≤ y ∧ y ≤ 8 ∧ x < (h 96 0) ∧ y < (h 96 1)) := f1
  clear f1
  refine ov_ifeq (tgt := 41) d_246_6 (by decide) (by omega) (fun c4 => ?_) (fun c4 => ?_)
  · skip
    have f3_ : v2 = 0 := by omega
    clear f3
    refine ov_blk (ls2 := [(0, ov_r 90), (1, ov_i x), (2, ov_i y), (3, ov_i way), (4, ov_i s)]) (st2 := [ov_i 0]) (pc2 := 42) b_246_41_1 rfl rfl ?_
    exact ov_retz (st := []) d_246_42 rfl (by omega) ⟨_, rfl, rfl, rfl, (by show (0 = 0 ∨ 0 = 1) ∧ (0 = 1 → 0 ≤ x ∧ x ≤ 5 ∧ 0 ≤ y ∧ y ≤ 8 ∧ 0 ≤ way ∧ way ≤ 1 ∧ 0 ≤ s ∧ s ≤ 1000000 ∧ ((way = 0 → x < (h 96 0) - 1) ∧ (¬ way = 0 → y < (h 96 1) - 1)) ∧ (((h 96 (10 + 4 * (6 * y + x))) = 1 ∨ (h 96 (10 + 4 * (6 * y + x))) = 2) → (way = 0 → 0 < (h 96 (10 + 4 * (6 * y + x) + 3))) ∧ (¬ way = 0 → (h 96 (10 + 4 * (6 * y + x) + 3)) < (h 96 (10 + 4 * (6 * y + x) + 1))))); omega)⟩
  · skip
    have f3_ : v2 = 1 := by omega
    have f5 : 0 ≤ x ∧ x ≤ 5 ∧ 0 ≤ y ∧ y ≤ 8 ∧ x < (h 96 0) ∧ y < (h 96 1) := f3.2 (by omega)
    clear f3
    refine ov_blk (ls2 := [(0, ov_r 90), (1, ov_i x), (2, ov_i y), (3, ov_i way), (4, ov_i s)]) (st2 := [ov_i 1, ov_i 0, ov_i way]) (pc2 := 12) b_246_9_3 rfl rfl ?_
    refine ov_cS (as := [ov_i way, ov_i 0, ov_i 1]) (st := []) (d2 := d - 1) d_246_12 lk_Mo_299 rfl (Nat.le_of_ble_eq_true rfl) (by omega) (c_Mo_within (d - 1) (by omega) U I way 0 1 (by omega) (by omega) (by omega)) ?_
    rintro _ _ _ ⟨v7, rfl, rfl, rfl, f6⟩
    show ov_R u d ov_m246 15 [(0, ov_r 90), (1, ov_i x), (2, ov_i y), (3, ov_i way), (4, ov_i s)] [ov_i v7] z h (P_Mo_mayAsk_90 F z h x y way s)
    have f8 : (v7 = 0 ∨ v7 = 1) ∧ (v7 = 1 → (0 : Int) ≤ way ∧ way ≤ (1 : Int)) ∧ (v7 = 0 → way < (0 : Int) ∨ (1 : Int) < way) := f6
    clear f6
    refine ov_ifeq (tgt := 41) d_246_15 (by decide) (by omega) (fun c9 => ?_) (fun c9 => ?_)
    · skip
      have f8_ : v7 = 0 := by omega
      have f10 : way < (0 : Int) ∨ (1 : Int) < way := f8.2.2 (by omega)
      clear f8
      refine ov_blk (ls2 := [(0, ov_r 90), (1, ov_i x), (2, ov_i y), (3, ov_i way), (4, ov_i s)]) (st2 := [ov_i 0]) (pc2 := 42) b_246_41_1 rfl rfl ?_
      exact ov_retz (st := []) d_246_42 rfl (by omega) ⟨_, rfl, rfl, rfl, (by show (0 = 0 ∨ 0 = 1) ∧ (0 = 1 → 0 ≤ x ∧ x ≤ 5 ∧ 0 ≤ y ∧ y ≤ 8 ∧ 0 ≤ way ∧ way ≤ 1 ∧ 0 ≤ s ∧ s ≤ 1000000 ∧ ((way = 0 → x < (h 96 0) - 1) ∧ (¬ way = 0 → y < (h 96 1) - 1)) ∧ (((h 96 (10 + 4 * (6 * y + x))) = 1 ∨ (h 96 (10 + 4 * (6 * y + x))) = 2) → (way = 0 → 0 < (h 96 (10 + 4 * (6 * y + x) + 3))) ∧ (¬ way = 0 → (h 96 (10 + 4 * (6 * y + x) + 3)) < (h 96 (10 + 4 * (6 * y + x) + 1))))); omega)⟩
    · skip
      have f8_ : v7 = 1 := by omega
      have f11 : (0 : Int) ≤ way ∧ way ≤ (1 : Int) := f8.2.1 (by omega)
      clear f8
      refine ov_blk (ls2 := [(0, ov_r 90), (1, ov_i x), (2, ov_i y), (3, ov_i way), (4, ov_i s)]) (st2 := [ov_i s, ov_r 90]) (pc2 := 21) b_246_18_2 rfl rfl ?_
      refine ov_cV (as := [ov_i s]) (st := []) (d2 := d - 1) d_246_21 lk_Mo_306 rfl (Nat.le_of_ble_eq_true rfl) (c := 1) (zb_90 I) (zs_90 I) ⟨by decide, rfl⟩ (by omega) (c_Mo_isSecond_90 (d - 1) (by omega) U I s (by omega)) ?_
      rintro _ _ _ ⟨v13, rfl, rfl, rfl, f12⟩
      show ov_R u d ov_m246 24 [(0, ov_r 90), (1, ov_i x), (2, ov_i y), (3, ov_i way), (4, ov_i s)] [ov_i v13] z h (P_Mo_mayAsk_90 F z h x y way s)
      have f14 : (v13 = 0 ∨ v13 = 1) ∧ (v13 = 1 → 0 ≤ s ∧ s ≤ 1000000) := f12
      clear f12
      refine ov_ifeq (tgt := 41) d_246_24 (by decide) (by omega) (fun c15 => ?_) (fun c15 => ?_)
      · skip
        have f14_ : v13 = 0 := by omega
        clear f14
        refine ov_blk (ls2 := [(0, ov_r 90), (1, ov_i x), (2, ov_i y), (3, ov_i way), (4, ov_i s)]) (st2 := [ov_i 0]) (pc2 := 42) b_246_41_1 rfl rfl ?_
        exact ov_retz (st := []) d_246_42 rfl (by omega) ⟨_, rfl, rfl, rfl, (by show (0 = 0 ∨ 0 = 1) ∧ (0 = 1 → 0 ≤ x ∧ x ≤ 5 ∧ 0 ≤ y ∧ y ≤ 8 ∧ 0 ≤ way ∧ way ≤ 1 ∧ 0 ≤ s ∧ s ≤ 1000000 ∧ ((way = 0 → x < (h 96 0) - 1) ∧ (¬ way = 0 → y < (h 96 1) - 1)) ∧ (((h 96 (10 + 4 * (6 * y + x))) = 1 ∨ (h 96 (10 + 4 * (6 * y + x))) = 2) → (way = 0 → 0 < (h 96 (10 + 4 * (6 * y + x) + 3))) ∧ (¬ way = 0 → (h 96 (10 + 4 * (6 * y + x) + 3)) < (h 96 (10 + 4 * (6 * y + x) + 1))))); omega)⟩
      · skip
        have f14_ : v13 = 1 := by omega
        have f16 : 0 ≤ s ∧ s ≤ 1000000 := f14.2 (by omega)
        clear f14
        refine ov_blk (ls2 := [(0, ov_r 90), (1, ov_i x), (2, ov_i y), (3, ov_i way), (4, ov_i s)]) (st2 := [ov_i way, ov_i y, ov_i x, ov_r 90]) (pc2 := 31) b_246_27_4 rfl rfl ?_
        refine ov_cV (as := [ov_i x, ov_i y, ov_i way]) (st := []) (d2 := d - 1) d_246_31 lk_Mo_309 rfl (Nat.le_of_ble_eq_true rfl) (c := 1) (zb_90 I) (zs_90 I) ⟨by decide, rfl⟩ (by omega) (c_Mo_canGo_90 (d - 1) (by omega) U I x y way (by omega) (by omega) (by omega) (by omega) (by omega)) ?_
        rintro _ _ _ ⟨v18, rfl, rfl, rfl, f17⟩
        show ov_R u d ov_m246 34 [(0, ov_r 90), (1, ov_i x), (2, ov_i y), (3, ov_i way), (4, ov_i s)] [ov_i v18] z h (P_Mo_mayAsk_90 F z h x y way s)
        have f19 : (v18 = 0 ∨ v18 = 1) ∧ v18 = ov_cgi (h 96) x y way ∧ (v18 = 1 → ((way = 0 → x < (h 96 0) - 1) ∧ (¬ way = 0 → y < (h 96 1) - 1)) ∧ (((h 96 (10 + 4 * (6 * y + x))) = 1 ∨ (h 96 (10 + 4 * (6 * y + x))) = 2) → (way = 0 → 0 < (h 96 (10 + 4 * (6 * y + x) + 3))) ∧ (¬ way = 0 → (h 96 (10 + 4 * (6 * y + x) + 3)) < (h 96 (10 + 4 * (6 * y + x) + 1))))) := f17
        clear f17
        refine ov_ifeq (tgt := 41) d_246_34 (by decide) (by omega) (fun c20 => ?_) (fun c20 => ?_)
        · skip
          have f19_ : v18 = 0 := by omega
          have f21 : v18 = ov_cgi (h 96) x y way := f19.2.1
          clear f19
          refine ov_blk (ls2 := [(0, ov_r 90), (1, ov_i x), (2, ov_i y), (3, ov_i way), (4, ov_i s)]) (st2 := [ov_i 0]) (pc2 := 42) b_246_41_1 rfl rfl ?_
          exact ov_retz (st := []) d_246_42 rfl (by omega) ⟨_, rfl, rfl, rfl, (by show (0 = 0 ∨ 0 = 1) ∧ (0 = 1 → 0 ≤ x ∧ x ≤ 5 ∧ 0 ≤ y ∧ y ≤ 8 ∧ 0 ≤ way ∧ way ≤ 1 ∧ 0 ≤ s ∧ s ≤ 1000000 ∧ ((way = 0 → x < (h 96 0) - 1) ∧ (¬ way = 0 → y < (h 96 1) - 1)) ∧ (((h 96 (10 + 4 * (6 * y + x))) = 1 ∨ (h 96 (10 + 4 * (6 * y + x))) = 2) → (way = 0 → 0 < (h 96 (10 + 4 * (6 * y + x) + 3))) ∧ (¬ way = 0 → (h 96 (10 + 4 * (6 * y + x) + 3)) < (h 96 (10 + 4 * (6 * y + x) + 1))))); omega)⟩
        · skip
          have f19_ : v18 = 1 := by omega
          have f22 : v18 = ov_cgi (h 96) x y way := f19.2.1
          have f23 : ((way = 0 → x < (h 96 0) - 1) ∧ (¬ way = 0 → y < (h 96 1) - 1)) ∧ (((h 96 (10 + 4 * (6 * y + x))) = 1 ∨ (h 96 (10 + 4 * (6 * y + x))) = 2) → (way = 0 → 0 < (h 96 (10 + 4 * (6 * y + x) + 3))) ∧ (¬ way = 0 → (h 96 (10 + 4 * (6 * y + x) + 3)) < (h 96 (10 + 4 * (6 * y + x) + 1)))) := f19.2.2 (by omega)
          clear f19
          refine ov_blk (ls2 := [(0, ov_r 90), (1, ov_i x), (2, ov_i y), (3, ov_i way), (4, ov_i s)]) (st2 := [ov_i 1]) (pc2 := 38) b_246_37_1 rfl rfl ?_
          refine ov_goto (tgt := 42) d_246_38 (by decide) ?_
          exact ov_retz (st := []) d_246_42 rfl (by omega) ⟨_, rfl, rfl, rfl, (by show (1 = 0 ∨ 1 = 1) ∧ (1 = 1 → 0 ≤ x ∧ x ≤ 5 ∧ 0 ≤ y ∧ y ≤ 8 ∧ 0 ≤ way ∧ way ≤ 1 ∧ 0 ≤ s ∧ s ≤ 1000000 ∧ ((way = 0 → x < (h 96 0) - 1) ∧ (¬ way = 0 → y < (h 96 1) - 1)) ∧ (((h 96 (10 + 4 * (6 * y + x))) = 1 ∨ (h 96 (10 + 4 * (6 * y + x))) = 2) → (way = 0 → 0 < (h 96 (10 + 4 * (6 * y + x) + 3))) ∧ (¬ way = 0 → (h 96 (10 + 4 * (6 * y + x) + 3)) < (h 96 (10 + 4 * (6 * y + x) + 1))))); omega)⟩
abbrev P_Mo_green_90 (F : ov_H × ov_Z) (z : ov_Z) (h : ov_H) (x : Int) (y : Int) (way : Int) (s : Int) : Option ov_V → ov_Z → ov_H → Prop := fun r0 z' h' => ∃ r : Int, r0 = some (ov_i r) ∧ ov_N F z' h' ∧ ((h' 90 2) = (h 90 2) ∧ (h' 90 7) = (h 90 7) ∧ (h' 90 8) = (h 90 8) ∧ (h' 90 13) = (h 90 13) ∧ (h' 90 20) = (h 90 20) ∧ (h' 90 22) = (h 90 22) ∧ (h' 90 25) = (h 90 25) ∧ (h' 90 26) = (h 90 26) ∧ (h' 90 28) = (h 90 28) ∧ (h' 90 29) = (h 90 29) ∧ (h' 90 30) = (h 90 30) ∧ (h' 90 34) = (h 90 34) ∧ -2147483648 ≤ r ∧ r ≤ 2147483647) ∧ h' 91 = h 91 ∧ h' 92 = h 92 ∧ h' 93 = h 93 ∧ h' 94 = h 94 ∧ h' 95 = h 95 ∧ h' 96 = h 96 ∧ h' 97 = h 97 ∧ h' 98 = h 98 ∧ h' 99 = h 99 ∧ h' 100 = h 100 ∧ h' 103 = h 103 ∧ h' 104 = h 104 ∧ h' 105 = h 105 ∧ h' 106 = h 106 ∧ h' 109 = h 109 ∧ h' 114 = h 114
set_option maxHeartbeats 4000000 in
theorem c_Mo_green_90 {u : ov_U} {F : ov_H × ov_Z} {z : ov_Z} {h : ov_H} (d : Nat) (hd : 4 ≤ d) (U : ov_cap u) (I : ov_N F z h) (x : Int) (y : Int) (way : Int) (s : Int) (g_x : ov_g x) (g_y : ov_g y) (g_way : ov_g way) (g_s : ov_g s) (W : ov_WT (h 96)) : ov_T u d ov_m245 [ov_r 90, ov_i x, ov_i y, ov_i way, ov_i s] z h (P_Mo_green_90 F z h x y way s) := by
  refine ov_en rfl (Nat.le_of_ble_eq_true rfl) ?_
  show ov_R u d ov_m245 0 [(0, ov_r 90), (1, ov_i x), (2, ov_i y), (3, ov_i way), (4, ov_i s)] [] z h (P_Mo_green_90 F z h x y way s)
  refine ov_blk (ls2 := [(0, ov_r 90), (1, ov_i x), (2, ov_i y), (3, ov_i way), (4, ov_i s)]) (st2 := [ov_i 0, ov_r 90]) (pc2 := 2) b_245_0_2 rfl rfl ?_
  refine ov_putf (x := 0) d_245_2 fl_Mo_1 (zb_90 I) (zs_90 I) rfl nk_0 rfl ?_
  have I1 := up_90_0 (x := 0) I (by omega)
  refine ov_blk (ls2 := [(0, ov_r 90), (1, ov_i x), (2, ov_i y), (3, ov_i way), (4, ov_i s)]) (st2 := [ov_i s, ov_i way, ov_i y, ov_i x, ov_r 90]) (pc2 := 11) b_245_5_5 rfl rfl ?_
  refine ov_cV (as := [ov_i x, ov_i y, ov_i way, ov_i s]) (st := []) (d2 := d - 1) d_245_11 lk_Mo_312 rfl (Nat.le_of_ble_eq_true rfl) (c := 1) (zb_90 I1) (zs_90 I1) ⟨by decide, rfl⟩ (by omega) (c_Mo_mayAsk_90 (d - 1) (by omega) U I1 x y way s (by omega) (by omega) (by omega) (by omega)) ?_
  rintro _ _ _ ⟨v3, rfl, rfl, rfl, f2⟩
  show ov_R u d ov_m245 14 [(0, ov_r 90), (1, ov_i x), (2, ov_i y), (3, ov_i way), (4, ov_i s)] [ov_i v3] z (ov_up h 90 0 0) (P_Mo_green_90 F z h x y way s)
  have f4 : (v3 = 0 ∨ v3 = 1) ∧ (v3 = 1 → 0 ≤ x ∧ x ≤ 5 ∧ 0 ≤ y ∧ y ≤ 8 ∧ 0 ≤ way ∧ way ≤ 1 ∧ 0 ≤ s ∧ s ≤ 1000000 ∧ ((way = 0 → x < (h 96 0) - 1) ∧ (¬ way = 0 → y < (h 96 1) - 1)) ∧ (((h 96 (10 + 4 * (6 * y + x))) = 1 ∨ (h 96 (10 + 4 * (6 * y + x))) = 2) → (way = 0 → 0 < (h 96 (10 + 4 * (6 * y + x) + 3))) ∧ (¬ way = 0 → (h 96 (10 + 4 * (6 * y + x) + 3)) < (h 96 (10 + 4 * (6 * y + x) + 1))))) := f2
  clear f2
  refine ov_ifne (tgt := 19) d_245_14 (by decide) (by omega) (fun c5 => ?_) (fun c5 => ?_)
  · skip
    have f4_ : v3 = 1 := by omega
    have f6 : 0 ≤ x ∧ x ≤ 5 ∧ 0 ≤ y ∧ y ≤ 8 ∧ 0 ≤ way ∧ way ≤ 1 ∧ 0 ≤ s ∧ s ≤ 1000000 ∧ ((way = 0 → x < (h 96 0) - 1) ∧ (¬ way = 0 → y < (h 96 1) - 1)) ∧ (((h 96 (10 + 4 * (6 * y + x))) = 1 ∨ (h 96 (10 + 4 * (6 * y + x))) = 2) → (way = 0 → 0 < (h 96 (10 + 4 * (6 * y + x) + 3))) ∧ (¬ way = 0 → (h 96 (10 + 4 * (6 * y + x) + 3)) < (h 96 (10 + 4 * (6 * y + x) + 1)))) := f4.2 (by omega)
    clear f4
    refine ov_blk (ls2 := [(0, ov_r 90), (1, ov_i x), (2, ov_i y), (3, ov_i way), (4, ov_i s)]) (st2 := [ov_i y, ov_i x, ov_r 90]) (pc2 := 22) b_245_19_3 rfl rfl ?_
    refine ov_cV (as := [ov_i x, ov_i y]) (st := []) (d2 := d - 1) d_245_22 lk_Mo_282 rfl (Nat.le_of_ble_eq_true rfl) (c := 1) (zb_90 I1) (zs_90 I1) ⟨by decide, rfl⟩ (by omega) (c_Mo_kindAt_90 (d - 1) (by omega) U I1 x y (by omega) (by omega) (by omega)) ?_
    rintro _ _ _ ⟨v8, rfl, rfl, rfl, f7⟩
    show ov_R u d ov_m245 25 [(0, ov_r 90), (1, ov_i x), (2, ov_i y), (3, ov_i way), (4, ov_i s)] [ov_i v8] z (ov_up h 90 0 0) (P_Mo_green_90 F z h x y way s)
    have f9 : v8 = (h 96 (10 + 4 * (6 * y + x))) - 1 ∧ -1 ≤ v8 ∧ v8 ≤ 3 := f7
    clear f7
    refine ov_blk (ls2 := [(0, ov_r 90), (1, ov_i x), (2, ov_i y), (3, ov_i way), (4, ov_i s)]) (st2 := [ov_i 2, ov_i v8]) (pc2 := 26) b_245_25_1 rfl rfl ?_
    refine ov_icne (tgt := 42) d_245_26 (by decide) (by omega) (by omega) (fun c10 => ?_) (fun c10 => ?_)
    · skip
      refine ov_blk (ls2 := [(0, ov_r 90), (1, ov_i x), (2, ov_i y), (3, ov_i way), (4, ov_i s)]) (st2 := [ov_i y, ov_i x, ov_r 90]) (pc2 := 45) b_245_42_3 rfl rfl ?_
      refine ov_cV (as := [ov_i x, ov_i y]) (st := []) (d2 := d - 1) d_245_45 lk_Mo_285 rfl (Nat.le_of_ble_eq_true rfl) (c := 1) (zb_90 I1) (zs_90 I1) ⟨by decide, rfl⟩ (by omega) (c_Mo_isTimed_90 (d - 1) (by omega) U I1 x y (by omega) (by omega) (by omega)) ?_
      rintro _ _ _ ⟨v12, rfl, rfl, rfl, f11⟩
      show ov_R u d ov_m245 48 [(0, ov_r 90), (1, ov_i x), (2, ov_i y), (3, ov_i way), (4, ov_i s)] [ov_i v12] z (ov_up h 90 0 0) (P_Mo_green_90 F z h x y way s)
      have f13 : (v12 = 0 ∨ v12 = 1) ∧ (v12 = 1 → ((h 96 (10 + 4 * (6 * y + x))) = 1 ∨ (h 96 (10 + 4 * (6 * y + x))) = 2)) ∧ (v12 = 0 → ¬ ((h 96 (10 + 4 * (6 * y + x))) = 1 ∨ (h 96 (10 + 4 * (6 * y + x))) = 2)) := f11
      clear f11
      refine ov_ifeq (tgt := 63) d_245_48 (by decide) (by omega) (fun c14 => ?_) (fun c14 => ?_)
      · skip
        have f13_ : v12 = 0 := by omega
        have f15 : ¬ ((h 96 (10 + 4 * (6 * y + x))) = 1 ∨ (h 96 (10 + 4 * (6 * y + x))) = 2) := f13.2.2 (by omega)
        clear f13
        refine ov_blk (ls2 := [(0, ov_r 90), (1, ov_i x), (2, ov_i y), (3, ov_i way), (4, ov_i s)]) (st2 := [ov_i 1]) (pc2 := 64) b_245_63_1 rfl rfl ?_
        refine ov_goto (tgt := 68) d_245_64 (by decide) ?_
        refine ov_blk (ls2 := [(0, ov_r 90), (1, ov_i x), (2, ov_i y), (3, ov_i way), (4, ov_i s), (5, ov_i 1)]) (st2 := [ov_i 1]) (pc2 := 72) b_245_68_2 rfl rfl ?_
        refine ov_ifeq (tgt := 79) d_245_72 (by decide) (by omega) (fun c16 => ?_) (fun c16 => ?_)
        · omega
        · skip
          refine ov_blk (ls2 := [(0, ov_r 90), (1, ov_i x), (2, ov_i y), (3, ov_i way), (4, ov_i s), (5, ov_i 1)]) (st2 := [ov_i 1]) (pc2 := 76) b_245_75_1 rfl rfl ?_
          refine ov_goto (tgt := 80) d_245_76 (by decide) ?_
          exact ov_reti (st := []) d_245_80 rfl ⟨_, rfl, I1, ⟨rfl, rfl, rfl, rfl, rfl, rfl, rfl, rfl, rfl, rfl, rfl, rfl, (by show -2147483648 ≤ 1 ∧ 1 ≤ 2147483647; omega)⟩, rfl, rfl, rfl, rfl, rfl, rfl, rfl, rfl, rfl, rfl, rfl, rfl, rfl, rfl, rfl, rfl⟩
      · skip
        have f13_ : v12 = 1 := by omega
        have f17 : ((h 96 (10 + 4 * (6 * y + x))) = 1 ∨ (h 96 (10 + 4 * (6 * y + x))) = 2) := f13.2.1 (by omega)
        clear f13
        refine ov_blk (ls2 := [(0, ov_r 90), (1, ov_i x), (2, ov_i y), (3, ov_i way), (4, ov_i s)]) (st2 := [ov_i s, ov_i way, ov_i y, ov_i x, ov_r 90]) (pc2 := 57) b_245_51_5 rfl rfl ?_
        have w1 := ov_WT_at W (c := 6 * y + x) (by omega)
        refine ov_cV (as := [ov_i x, ov_i y, ov_i way, ov_i s]) (st := []) (d2 := d - 1) d_245_57 lk_Mo_292 rfl (Nat.le_of_ble_eq_true rfl) (c := 1) (zb_90 I1) (zs_90 I1) ⟨by decide, rfl⟩ (by omega) (c_Mo_isGreen_90 (d - 1) (by omega) U I1 x y way s (by omega) (by omega) (by omega) (by omega) (by omega) (by show 1 ≤ (h 96 (10 + 4 * (6 * y + x) + 1)); omega) (by omega)) ?_
        rintro _ _ _ ⟨v19, rfl, rfl, rfl, f18⟩
        show ov_R u d ov_m245 60 [(0, ov_r 90), (1, ov_i x), (2, ov_i y), (3, ov_i way), (4, ov_i s)] [ov_i v19] z (ov_up h 90 0 0) (P_Mo_green_90 F z h x y way s)
        have f20 : (v19 = 0 ∨ v19 = 1) ∧ (v19 = 1 → (ov_ph s ((h 96 (10 + 4 * (6 * y + x) + 2))) ((h 96 (10 + 4 * (6 * y + x) + 1))) < (h 96 (10 + 4 * (6 * y + x) + 3)) ∧ way = 0) ∨ (¬ ov_ph s ((h 96 (10 + 4 * (6 * y + x) + 2))) ((h 96 (10 + 4 * (6 * y + x) + 1))) < (h 96 (10 + 4 * (6 * y + x) + 3)) ∧ ¬ way = 0)) ∧ (v19 = 0 → (ov_ph s ((h 96 (10 + 4 * (6 * y + x) + 2))) ((h 96 (10 + 4 * (6 * y + x) + 1))) < (h 96 (10 + 4 * (6 * y + x) + 3)) ∧ ¬ way = 0) ∨ (¬ ov_ph s ((h 96 (10 + 4 * (6 * y + x) + 2))) ((h 96 (10 + 4 * (6 * y + x) + 1))) < (h 96 (10 + 4 * (6 * y + x) + 3)) ∧ way = 0)) := f18
        clear f18
        refine ov_ifeq (tgt := 67) d_245_60 (by decide) (by omega) (fun c21 => ?_) (fun c21 => ?_)
        · skip
          have f20_ : v19 = 0 := by omega
          have f22 : (ov_ph s ((h 96 (10 + 4 * (6 * y + x) + 2))) ((h 96 (10 + 4 * (6 * y + x) + 1))) < (h 96 (10 + 4 * (6 * y + x) + 3)) ∧ ¬ way = 0) ∨ (¬ ov_ph s ((h 96 (10 + 4 * (6 * y + x) + 2))) ((h 96 (10 + 4 * (6 * y + x) + 1))) < (h 96 (10 + 4 * (6 * y + x) + 3)) ∧ way = 0) := f20.2.2 (by omega)
          clear f20
          refine ov_blk (ls2 := [(0, ov_r 90), (1, ov_i x), (2, ov_i y), (3, ov_i way), (4, ov_i s), (5, ov_i 0)]) (st2 := [ov_i 0]) (pc2 := 72) b_245_67_3 rfl rfl ?_
          refine ov_ifeq (tgt := 79) d_245_72 (by decide) (by omega) (fun c23 => ?_) (fun c23 => ?_)
          · skip
            refine ov_blk (ls2 := [(0, ov_r 90), (1, ov_i x), (2, ov_i y), (3, ov_i way), (4, ov_i s), (5, ov_i 0)]) (st2 := [ov_i 0]) (pc2 := 80) b_245_79_1 rfl rfl ?_
            exact ov_reti (st := []) d_245_80 rfl ⟨_, rfl, I1, ⟨rfl, rfl, rfl, rfl, rfl, rfl, rfl, rfl, rfl, rfl, rfl, rfl, (by show -2147483648 ≤ 0 ∧ 0 ≤ 2147483647; omega)⟩, rfl, rfl, rfl, rfl, rfl, rfl, rfl, rfl, rfl, rfl, rfl, rfl, rfl, rfl, rfl, rfl⟩
          · omega
        · skip
          have f20_ : v19 = 1 := by omega
          have f24 : (ov_ph s ((h 96 (10 + 4 * (6 * y + x) + 2))) ((h 96 (10 + 4 * (6 * y + x) + 1))) < (h 96 (10 + 4 * (6 * y + x) + 3)) ∧ way = 0) ∨ (¬ ov_ph s ((h 96 (10 + 4 * (6 * y + x) + 2))) ((h 96 (10 + 4 * (6 * y + x) + 1))) < (h 96 (10 + 4 * (6 * y + x) + 3)) ∧ ¬ way = 0) := f20.2.1 (by omega)
          clear f20
          refine ov_blk (ls2 := [(0, ov_r 90), (1, ov_i x), (2, ov_i y), (3, ov_i way), (4, ov_i s)]) (st2 := [ov_i 1]) (pc2 := 64) b_245_63_1 rfl rfl ?_
          refine ov_goto (tgt := 68) d_245_64 (by decide) ?_
          refine ov_blk (ls2 := [(0, ov_r 90), (1, ov_i x), (2, ov_i y), (3, ov_i way), (4, ov_i s), (5, ov_i 1)]) (st2 := [ov_i 1]) (pc2 := 72) b_245_68_2 rfl rfl ?_
          refine ov_ifeq (tgt := 79) d_245_72 (by decide) (by omega) (fun c25 => ?_) (fun c25 => ?_)
          · omega
          · skip
            refine ov_blk (ls2 := [(0, ov_r 90), (1, ov_i x), (2, ov_i y), (3, ov_i way), (4, ov_i s), (5, ov_i 1)]) (st2 := [ov_i 1]) (pc2 := 76) b_245_75_1 rfl rfl ?_
            refine ov_goto (tgt := 80) d_245_76 (by decide) ?_
            exact ov_reti (st := []) d_245_80 rfl ⟨_, rfl, I1, ⟨rfl, rfl, rfl, rfl, rfl, rfl, rfl, rfl, rfl, rfl, rfl, rfl, (by show -2147483648 ≤ 1 ∧ 1 ≤ 2147483647; omega)⟩, rfl, rfl, rfl, rfl, rfl, rfl, rfl, rfl, rfl, rfl, rfl, rfl, rfl, rfl, rfl, rfl⟩
    · skip
      refine ov_blk (ls2 := [(0, ov_r 90), (1, ov_i x), (2, ov_i y), (3, ov_i way), (4, ov_i s)]) (st2 := [ov_i 1, ov_i way]) (pc2 := 31) b_245_29_2 rfl rfl ?_
      refine ov_icne (tgt := 38) d_245_31 (by decide) (by omega) (by omega) (fun c26 => ?_) (fun c26 => ?_)
      · skip
        refine ov_blk (ls2 := [(0, ov_r 90), (1, ov_i x), (2, ov_i y), (3, ov_i way), (4, ov_i s)]) (st2 := [ov_i 0]) (pc2 := 39) b_245_38_1 rfl rfl ?_
        refine ov_goto (tgt := 68) d_245_39 (by decide) ?_
        refine ov_blk (ls2 := [(0, ov_r 90), (1, ov_i x), (2, ov_i y), (3, ov_i way), (4, ov_i s), (5, ov_i 0)]) (st2 := [ov_i 0]) (pc2 := 72) b_245_68_2 rfl rfl ?_
        refine ov_ifeq (tgt := 79) d_245_72 (by decide) (by omega) (fun c27 => ?_) (fun c27 => ?_)
        · skip
          refine ov_blk (ls2 := [(0, ov_r 90), (1, ov_i x), (2, ov_i y), (3, ov_i way), (4, ov_i s), (5, ov_i 0)]) (st2 := [ov_i 0]) (pc2 := 80) b_245_79_1 rfl rfl ?_
          exact ov_reti (st := []) d_245_80 rfl ⟨_, rfl, I1, ⟨rfl, rfl, rfl, rfl, rfl, rfl, rfl, rfl, rfl, rfl, rfl, rfl, (by show -2147483648 ≤ 0 ∧ 0 ≤ 2147483647; omega)⟩, rfl, rfl, rfl, rfl, rfl, rfl, rfl, rfl, rfl, rfl, rfl, rfl, rfl, rfl, rfl, rfl⟩
        · omega
      · skip
        refine ov_blk (ls2 := [(0, ov_r 90), (1, ov_i x), (2, ov_i y), (3, ov_i way), (4, ov_i s)]) (st2 := [ov_i 1]) (pc2 := 35) b_245_34_1 rfl rfl ?_
        refine ov_goto (tgt := 68) d_245_35 (by decide) ?_
        refine ov_blk (ls2 := [(0, ov_r 90), (1, ov_i x), (2, ov_i y), (3, ov_i way), (4, ov_i s), (5, ov_i 1)]) (st2 := [ov_i 1]) (pc2 := 72) b_245_68_2 rfl rfl ?_
        refine ov_ifeq (tgt := 79) d_245_72 (by decide) (by omega) (fun c28 => ?_) (fun c28 => ?_)
        · omega
        · skip
          refine ov_blk (ls2 := [(0, ov_r 90), (1, ov_i x), (2, ov_i y), (3, ov_i way), (4, ov_i s), (5, ov_i 1)]) (st2 := [ov_i 1]) (pc2 := 76) b_245_75_1 rfl rfl ?_
          refine ov_goto (tgt := 80) d_245_76 (by decide) ?_
          exact ov_reti (st := []) d_245_80 rfl ⟨_, rfl, I1, ⟨rfl, rfl, rfl, rfl, rfl, rfl, rfl, rfl, rfl, rfl, rfl, rfl, (by show -2147483648 ≤ 1 ∧ 1 ≤ 2147483647; omega)⟩, rfl, rfl, rfl, rfl, rfl, rfl, rfl, rfl, rfl, rfl, rfl, rfl, rfl, rfl, rfl, rfl⟩
  · skip
    have f4_ : v3 = 0 := by omega
    clear f4
    refine ov_blk (ls2 := [(0, ov_r 90), (1, ov_i x), (2, ov_i y), (3, ov_i way), (4, ov_i s)]) (st2 := [ov_i (-1)]) (pc2 := 18) b_245_17_1 rfl rfl ?_
    exact ov_reti (st := []) d_245_18 rfl ⟨_, rfl, I1, ⟨rfl, rfl, rfl, rfl, rfl, rfl, rfl, rfl, rfl, rfl, rfl, rfl, (by show -2147483648 ≤ (-1) ∧ (-1) ≤ 2147483647; omega)⟩, rfl, rfl, rfl, rfl, rfl, rfl, rfl, rfl, rfl, rfl, rfl, rfl, rfl, rfl, rfl, rfl⟩
abbrev P_Mo_until_90 (F : ov_H × ov_Z) (z : ov_Z) (h : ov_H) (x : Int) (y : Int) (way : Int) (s : Int) : Option ov_V → ov_Z → ov_H → Prop := fun r0 z' h' => ∃ r : Int, r0 = some (ov_i r) ∧ ov_N F z' h' ∧ ((h' 90 2) = (h 90 2) ∧ (h' 90 7) = (h 90 7) ∧ (h' 90 8) = (h 90 8) ∧ (h' 90 13) = (h 90 13) ∧ (h' 90 20) = (h 90 20) ∧ (h' 90 22) = (h 90 22) ∧ (h' 90 25) = (h 90 25) ∧ (h' 90 26) = (h 90 26) ∧ (h' 90 28) = (h 90 28) ∧ (h' 90 29) = (h 90 29) ∧ (h' 90 30) = (h 90 30) ∧ (h' 90 34) = (h 90 34) ∧ -2147483648 ≤ r ∧ r ≤ 2147483647) ∧ h' 91 = h 91 ∧ h' 92 = h 92 ∧ h' 93 = h 93 ∧ h' 94 = h 94 ∧ h' 95 = h 95 ∧ h' 96 = h 96 ∧ h' 97 = h 97 ∧ h' 98 = h 98 ∧ h' 99 = h 99 ∧ h' 100 = h 100 ∧ h' 103 = h 103 ∧ h' 104 = h 104 ∧ h' 105 = h 105 ∧ h' 106 = h 106 ∧ h' 109 = h 109 ∧ h' 114 = h 114
set_option maxHeartbeats 4000000 in
theorem c_Mo_until_90 {u : ov_U} {F : ov_H × ov_Z} {z : ov_Z} {h : ov_H} (d : Nat) (hd : 4 ≤ d) (U : ov_cap u) (I : ov_N F z h) (x : Int) (y : Int) (way : Int) (s : Int) (g_x : ov_g x) (g_y : ov_g y) (g_way : ov_g way) (g_s : ov_g s) (W : ov_WT (h 96)) : ov_T u d ov_m251 [ov_r 90, ov_i x, ov_i y, ov_i way, ov_i s] z h (P_Mo_until_90 F z h x y way s) := by
  refine ov_en rfl (Nat.le_of_ble_eq_true rfl) ?_
  show ov_R u d ov_m251 0 [(0, ov_r 90), (1, ov_i x), (2, ov_i y), (3, ov_i way), (4, ov_i s)] [] z h (P_Mo_until_90 F z h x y way s)
  refine ov_blk (ls2 := [(0, ov_r 90), (1, ov_i x), (2, ov_i y), (3, ov_i way), (4, ov_i s)]) (st2 := [ov_i 0, ov_r 90]) (pc2 := 2) b_251_0_2 rfl rfl ?_
  refine ov_putf (x := 0) d_251_2 fl_Mo_1 (zb_90 I) (zs_90 I) rfl nk_0 rfl ?_
  have I1 := up_90_0 (x := 0) I (by omega)
  refine ov_blk (ls2 := [(0, ov_r 90), (1, ov_i x), (2, ov_i y), (3, ov_i way), (4, ov_i s)]) (st2 := [ov_i s, ov_i way, ov_i y, ov_i x, ov_r 90]) (pc2 := 11) b_251_5_5 rfl rfl ?_
  refine ov_cV (as := [ov_i x, ov_i y, ov_i way, ov_i s]) (st := []) (d2 := d - 1) d_251_11 lk_Mo_312 rfl (Nat.le_of_ble_eq_true rfl) (c := 1) (zb_90 I1) (zs_90 I1) ⟨by decide, rfl⟩ (by omega) (c_Mo_mayAsk_90 (d - 1) (by omega) U I1 x y way s (by omega) (by omega) (by omega) (by omega)) ?_
  rintro _ _ _ ⟨v3, rfl, rfl, rfl, f2⟩
  show ov_R u d ov_m251 14 [(0, ov_r 90), (1, ov_i x), (2, ov_i y), (3, ov_i way), (4, ov_i s)] [ov_i v3] z (ov_up h 90 0 0) (P_Mo_until_90 F z h x y way s)
  have f4 : (v3 = 0 ∨ v3 = 1) ∧ (v3 = 1 → 0 ≤ x ∧ x ≤ 5 ∧ 0 ≤ y ∧ y ≤ 8 ∧ 0 ≤ way ∧ way ≤ 1 ∧ 0 ≤ s ∧ s ≤ 1000000 ∧ ((way = 0 → x < (h 96 0) - 1) ∧ (¬ way = 0 → y < (h 96 1) - 1)) ∧ (((h 96 (10 + 4 * (6 * y + x))) = 1 ∨ (h 96 (10 + 4 * (6 * y + x))) = 2) → (way = 0 → 0 < (h 96 (10 + 4 * (6 * y + x) + 3))) ∧ (¬ way = 0 → (h 96 (10 + 4 * (6 * y + x) + 3)) < (h 96 (10 + 4 * (6 * y + x) + 1))))) := f2
  clear f2
  refine ov_ifeq (tgt := 29) d_251_14 (by decide) (by omega) (fun c5 => ?_) (fun c5 => ?_)
  · skip
    have f4_ : v3 = 0 := by omega
    clear f4
    refine ov_blk (ls2 := [(0, ov_r 90), (1, ov_i x), (2, ov_i y), (3, ov_i way), (4, ov_i s)]) (st2 := [ov_i (-1)]) (pc2 := 30) b_251_29_1 rfl rfl ?_
    exact ov_reti (st := []) d_251_30 rfl ⟨_, rfl, I1, ⟨rfl, rfl, rfl, rfl, rfl, rfl, rfl, rfl, rfl, rfl, rfl, rfl, (by show -2147483648 ≤ (-1) ∧ (-1) ≤ 2147483647; omega)⟩, rfl, rfl, rfl, rfl, rfl, rfl, rfl, rfl, rfl, rfl, rfl, rfl, rfl, rfl, rfl, rfl⟩
  · skip
    have f4_ : v3 = 1 := by omega
    have f6 : 0 ≤ x ∧ x ≤ 5 ∧ 0 ≤ y ∧ y ≤ 8 ∧ 0 ≤ way ∧ way ≤ 1 ∧ 0 ≤ s ∧ s ≤ 1000000 ∧ ((way = 0 → x < (h 96 0) - 1) ∧ (¬ way = 0 → y < (h 96 1) - 1)) ∧ (((h 96 (10 + 4 * (6 * y + x))) = 1 ∨ (h 96 (10 + 4 * (6 * y + x))) = 2) → (way = 0 → 0 < (h 96 (10 + 4 * (6 * y + x) + 3))) ∧ (¬ way = 0 → (h 96 (10 + 4 * (6 * y + x) + 3)) < (h 96 (10 + 4 * (6 * y + x) + 1)))) := f4.2 (by omega)
    clear f4
    refine ov_blk (ls2 := [(0, ov_r 90), (1, ov_i x), (2, ov_i y), (3, ov_i way), (4, ov_i s)]) (st2 := [ov_i s, ov_i way, ov_i y, ov_i x, ov_r 90]) (pc2 := 23) b_251_17_5 rfl rfl ?_
    refine ov_cV (as := [ov_i x, ov_i y, ov_i way, ov_i s]) (st := []) (d2 := d - 1) d_251_23 lk_Mo_315 rfl (Nat.le_of_ble_eq_true rfl) (c := 1) (zb_90 I1) (zs_90 I1) ⟨by decide, rfl⟩ (by omega) (c_Mo_waitFor_90 (d - 1) (by omega) U I1 x y way s (by omega) (by omega) (by omega) (by omega) (by omega) (by omega) (by omega) (by show (((h 96 (10 + 4 * (6 * y + x))) = 1 ∨ (h 96 (10 + 4 * (6 * y + x))) = 2) → (way = 0 → 0 < (h 96 (10 + 4 * (6 * y + x) + 3))) ∧ (¬ way = 0 → (h 96 (10 + 4 * (6 * y + x) + 3)) < (h 96 (10 + 4 * (6 * y + x) + 1)))); omega) W) ?_
    rintro _ _ _ ⟨v8, rfl, rfl, rfl, f7⟩
    show ov_R u d ov_m251 26 [(0, ov_r 90), (1, ov_i x), (2, ov_i y), (3, ov_i way), (4, ov_i s)] [ov_i v8] z (ov_up h 90 0 0) (P_Mo_until_90 F z h x y way s)
    have f9 : 0 ≤ v8 ∧ v8 ≤ 59 ∧ v8 = ov_wm (h 96) (6 * y + x) way s := f7
    clear f7
    refine ov_goto (tgt := 30) d_251_26 (by decide) ?_
    exact ov_reti (st := []) d_251_30 rfl ⟨_, rfl, I1, ⟨rfl, rfl, rfl, rfl, rfl, rfl, rfl, rfl, rfl, rfl, rfl, rfl, (by show -2147483648 ≤ v8 ∧ v8 ≤ 2147483647; omega)⟩, rfl, rfl, rfl, rfl, rfl, rfl, rfl, rfl, rfl, rfl, rfl, rfl, rfl, rfl, rfl, rfl⟩
abbrev P_Mo_copies_90 (F : ov_H × ov_Z) (z : ov_Z) (h : ov_H) (fr : Int) (tt : Int) (m : Int) : Option ov_V → ov_Z → ov_H → Prop := fun r0 z' h' => r0 = none ∧ ov_N F z' h' ∧ ((h' 90 2) = (h 90 2) ∧ (h' 90 7) = (h 90 7) ∧ (h' 90 8) = (h 90 8) ∧ (h' 90 13) = (h 90 13) ∧ (h' 90 20) = (h 90 20) ∧ (h' 90 22) = (h 90 22) ∧ (h' 90 25) = (h 90 25) ∧ (h' 90 26) = (h 90 26) ∧ (h' 90 28) = (h 90 28) ∧ (h' 90 29) = (h 90 29) ∧ (h' 90 30) = (h 90 30) ∧ (h' 90 34) = (h 90 34)) ∧ h' 91 = h 91 ∧ h' 92 = h 92 ∧ h' 93 = h 93 ∧ h' 94 = h 94 ∧ h' 95 = h 95 ∧ h' 96 = h 96 ∧ h' 97 = h 97 ∧ h' 98 = h 98 ∧ h' 99 = h 99 ∧ h' 100 = h 100 ∧ h' 104 = h 104 ∧ h' 105 = h 105 ∧ h' 106 = h 106 ∧ h' 109 = h 109 ∧ h' 114 = h 114 ∧ (∀ j : Int, j < 120 * tt ∨ 120 * tt + m ≤ j → (h' 103) j = (h 103) j)
set_option maxHeartbeats 4000000 in
theorem c_Mo_copies_90 {u : ov_U} {F : ov_H × ov_Z} {z : ov_Z} {h : ov_H} (d : Nat) (hd : 0 ≤ d) (U : ov_cap u) (I : ov_N F z h) (fr : Int) (tt : Int) (m : Int) (g_fr : ov_g fr) (g_tt : ov_g tt) (g_m : ov_g m) (p0 : 0 ≤ fr ∧ fr ≤ 20) (p1 : 0 ≤ tt ∧ tt ≤ 20) (p2 : 0 ≤ m ∧ m ≤ 120) : ov_T u d ov_m255 [ov_r 90, ov_i fr, ov_i tt, ov_i m] z h (P_Mo_copies_90 F z h fr tt m) := by
  refine ov_en rfl (Nat.le_of_ble_eq_true rfl) ?_
  show ov_R u d ov_m255 0 [(0, ov_r 90), (1, ov_i fr), (2, ov_i tt), (3, ov_i m)] [] z h (P_Mo_copies_90 F z h fr tt m)
  refine ov_blk (ls2 := [(0, ov_r 90), (1, ov_i fr), (2, ov_i tt), (3, ov_i m), (4, ov_i 0)]) (st2 := []) (pc2 := 3) b_255_0_2 rfl rfl ?_
  have L4 : ∀ (n1 : Nat) (x4 : Int) (z5 : ov_Z) (h6 : ov_H) (I7 : ov_N F z5 h6) (E8 : h6 91 = h 91) (E9 : h6 92 = h 92) (E10 : h6 93 = h 93) (E11 : h6 94 = h 94) (E12 : h6 95 = h 95) (E13 : h6 96 = h 96) (E14 : h6 97 = h 97) (E15 : h6 98 = h 98) (E16 : h6 99 = h 99) (E17 : h6 100 = h 100) (E18 : h6 104 = h 104) (E19 : h6 105 = h 105) (E20 : h6 106 = h 106) (E21 : h6 109 = h 109) (E22 : h6 114 = h 114) (xc : ∀ j : Int, j < 120 * tt ∨ 120 * tt + x4 ≤ j → (h6 103) j = (h 103) j) (q3 : 0 ≤ x4 ∧ x4 ≤ m ∧ (h6 90 2) = (h 90 2) ∧ (h6 90 7) = (h 90 7) ∧ (h6 90 8) = (h 90 8) ∧ (h6 90 13) = (h 90 13) ∧ (h6 90 20) = (h 90 20) ∧ (h6 90 22) = (h 90 22) ∧ (h6 90 25) = (h 90 25) ∧ (h6 90 26) = (h 90 26) ∧ (h6 90 28) = (h 90 28) ∧ (h6 90 29) = (h 90 29) ∧ (h6 90 30) = (h 90 30) ∧ (h6 90 34) = (h 90 34)), m - x4 < (n1 : Int) → ov_R u d ov_m255 3 [(0, ov_r 90), (1, ov_i fr), (2, ov_i tt), (3, ov_i m), (4, ov_i x4)] [] z5 h6 (P_Mo_copies_90 F z h fr tt m) := by
    intro n1
    induction n1 with
    | zero =>
      intro x4 z5 h6 I7 E8 E9 E10 E11 E12 E13 E14 E15 E16 E17 E18 E19 E20 E21 E22 xc q3 hn23
      exact absurd hn23 (by omega)
    | succ n1 ih2 =>
      intro x4 z5 h6 I7 E8 E9 E10 E11 E12 E13 E14 E15 E16 E17 E18 E19 E20 E21 E22 xc q3 hn23
      refine ov_blk (ls2 := [(0, ov_r 90), (1, ov_i fr), (2, ov_i tt), (3, ov_i m), (4, ov_i x4)]) (st2 := [ov_i m, ov_i x4]) (pc2 := 6) b_255_3_2 rfl rfl ?_
      refine ov_icge (tgt := 39) d_255_6 (by decide) (by omega) (by omega) (fun c24 => ?_) (fun c24 => ?_)
      · skip
        exact ov_retv (st := []) d_255_39 rfl ⟨rfl, I7, (by show (h6 90 2) = (h 90 2) ∧ (h6 90 7) = (h 90 7) ∧ (h6 90 8) = (h 90 8) ∧ (h6 90 13) = (h 90 13) ∧ (h6 90 20) = (h 90 20) ∧ (h6 90 22) = (h 90 22) ∧ (h6 90 25) = (h 90 25) ∧ (h6 90 26) = (h 90 26) ∧ (h6 90 28) = (h 90 28) ∧ (h6 90 29) = (h 90 29) ∧ (h6 90 30) = (h 90 30) ∧ (h6 90 34) = (h 90 34); omega), E8, E9, E10, E11, E12, E13, E14, E15, E16, E17, E18, E19, E20, E21, E22, (fun j hj => xc j (by omega))⟩
      · skip
        refine ov_blk (ls2 := [(0, ov_r 90), (1, ov_i fr), (2, ov_i tt), (3, ov_i m), (4, ov_i x4)]) (st2 := [ov_r 90]) (pc2 := 10) b_255_9_1 rfl rfl ?_
        refine ov_getf (v := ov_r 103) d_255_10 fl_Mo_102 (zb_90 I7) (zs_90 I7) (congrArg ov_r (rg_90_19 I7)) ?_
        refine ov_blk (ls2 := [(0, ov_r 90), (1, ov_i fr), (2, ov_i tt), (3, ov_i m), (4, ov_i x4)]) (st2 := [ov_r 90, ov_i ((120 * tt) + x4), ov_r 103]) (pc2 := 21) b_255_13_6 rfl rfl ?_
        refine ov_getf (v := ov_r 103) d_255_21 fl_Mo_102 (zb_90 I7) (zs_90 I7) (congrArg ov_r (rg_90_19 I7)) ?_
        refine ov_blk (ls2 := [(0, ov_r 90), (1, ov_i fr), (2, ov_i tt), (3, ov_i m), (4, ov_i x4)]) (st2 := [ov_i ((120 * fr) + x4), ov_r 103, ov_i ((120 * tt) + x4), ov_r 103]) (pc2 := 31) b_255_24_5 rfl rfl ?_
        refine ov_iald d_255_31 (zb_103 I7) (zs_103 I7) (by omega) ?_
        have g25 := g103 I7 ((120 * fr) + x4)
        refine ov_iast d_255_32 (zb_103 I7) (zs_103 I7) (by omega) ?_
        have gw := ra_103 I7 (120 * fr + x4)
        have I26 := ua_103 (k := ((120 * tt) + x4)) (x := (h6 103 ((120 * fr) + x4))) I7 (by refine ⟨?_, ?_, ?_, ?_, ?_, ?_⟩ <;> omega)
        refine ov_blk (ls2 := [(0, ov_r 90), (1, ov_i fr), (2, ov_i tt), (3, ov_i m), (4, ov_i (x4 + 1))]) (st2 := []) (pc2 := 36) b_255_33_1 rfl rfl ?_
        refine ov_goto (tgt := 3) d_255_36 (by decide) ?_
        exact ih2 (x4 + 1) _ _ I26 E8 E9 E10 E11 E12 E13 E14 E15 E16 E17 E18 E19 E20 E21 E22 (fun j hj => by rw [ov_up_j (by omega)]; exact xc j (by omega)) (by show 0 ≤ (x4 + 1) ∧ (x4 + 1) ≤ m ∧ (h6 90 2) = (h 90 2) ∧ (h6 90 7) = (h 90 7) ∧ (h6 90 8) = (h 90 8) ∧ (h6 90 13) = (h 90 13) ∧ (h6 90 20) = (h 90 20) ∧ (h6 90 22) = (h 90 22) ∧ (h6 90 25) = (h 90 25) ∧ (h6 90 26) = (h 90 26) ∧ (h6 90 28) = (h 90 28) ∧ (h6 90 29) = (h 90 29) ∧ (h6 90 30) = (h 90 30) ∧ (h6 90 34) = (h 90 34); omega) (by omega)
  exact L4 200 0 _ _ I rfl rfl rfl rfl rfl rfl rfl rfl rfl rfl rfl rfl rfl rfl rfl (fun j _ => rfl) (by show 0 ≤ 0 ∧ 0 ≤ m ∧ (h 90 2) = (h 90 2) ∧ (h 90 7) = (h 90 7) ∧ (h 90 8) = (h 90 8) ∧ (h 90 13) = (h 90 13) ∧ (h 90 20) = (h 90 20) ∧ (h 90 22) = (h 90 22) ∧ (h 90 25) = (h 90 25) ∧ (h 90 26) = (h 90 26) ∧ (h 90 28) = (h 90 28) ∧ (h 90 29) = (h 90 29) ∧ (h 90 30) = (h 90 30) ∧ (h 90 34) = (h 90 34); omega) (by omega)
abbrev P_Mo_begins_90 (F : ov_H × ov_Z) (z : ov_Z) (h : ov_H) : Option ov_V → ov_Z → ov_H → Prop := fun r0 z' h' => r0 = none ∧ ov_N F z' h' ∧ ((h' 90 2) = (h 90 2) ∧ (h' 90 7) = (h 90 7) ∧ (h' 90 8) = (h 90 8) ∧ (h' 90 13) = (h 90 13) ∧ (h' 90 25) = (h 90 25) ∧ (h' 90 26) = (h 90 26) ∧ (h' 90 28) = (h 90 28) ∧ (h' 90 29) = (h 90 29) ∧ (h' 90 30) = (h 90 30) ∧ (h' 90 34) = (h 90 34) ∧ (h' 90 22) = (h 90 22) + 1 ∧ (h' 100 0) = 0) ∧ h' 91 = h 91 ∧ h' 92 = h 92 ∧ h' 93 = h 93 ∧ h' 94 = h 94 ∧ h' 95 = h 95 ∧ h' 96 = h 96 ∧ h' 97 = h 97 ∧ h' 98 = h 98 ∧ h' 99 = h 99 ∧ h' 105 = h 105 ∧ h' 106 = h 106 ∧ h' 109 = h 109 ∧ h' 114 = h 114
set_option maxHeartbeats 4000000 in
theorem c_Mo_begins_90 {u : ov_U} {F : ov_H × ov_Z} {z : ov_Z} {h : ov_H} (d : Nat) (hd : 0 ≤ d) (U : ov_cap u) (I : ov_N F z h) (p0 : 0 ≤ ov_bd F ∧ ov_bd F ≤ 800000000) (p1 : 0 ≤ (h 90 22) ∧ (h 90 22) ≤ 2000000000) : ov_T u d ov_m204 [ov_r 90] z h (P_Mo_begins_90 F z h) := by
  refine ov_en rfl (Nat.le_of_ble_eq_true rfl) ?_
  show ov_R u d ov_m204 0 [(0, ov_r 90)] [] z h (P_Mo_begins_90 F z h)
  refine ov_blk (ls2 := [(0, ov_r 90), (1, ov_i 0)]) (st2 := []) (pc2 := 2) b_204_0_2 rfl rfl ?_
  have L4 : ∀ (n1 : Nat) (x1 : Int) (z5 : ov_Z) (h6 : ov_H) (I7 : ov_N F z5 h6) (E8 : h6 91 = h 91) (E9 : h6 92 = h 92) (E10 : h6 93 = h 93) (E11 : h6 94 = h 94) (E12 : h6 95 = h 95) (E13 : h6 96 = h 96) (E14 : h6 97 = h 97) (E15 : h6 98 = h 98) (E16 : h6 99 = h 99) (E17 : h6 100 = h 100) (E18 : h6 104 = h 104) (E19 : h6 105 = h 105) (E20 : h6 106 = h 106) (E21 : h6 109 = h 109) (E22 : h6 114 = h 114) (q3 : 0 ≤ x1 ∧ x1 ≤ 120 ∧ (h6 90 2) = (h 90 2) ∧ (h6 90 7) = (h 90 7) ∧ (h6 90 8) = (h 90 8) ∧ (h6 90 13) = (h 90 13) ∧ (h6 90 20) = (h 90 20) ∧ (h6 90 22) = (h 90 22) ∧ (h6 90 25) = (h 90 25) ∧ (h6 90 26) = (h 90 26) ∧ (h6 90 28) = (h 90 28) ∧ (h6 90 29) = (h 90 29) ∧ (h6 90 30) = (h 90 30) ∧ (h6 90 34) = (h 90 34)), 120 - x1 < (n1 : Int) → ov_R u d ov_m204 2 [(0, ov_r 90), (1, ov_i x1)] [] z5 h6 (P_Mo_begins_90 F z h) := by
    intro n1
    induction n1 with
    | zero =>
      intro x1 z5 h6 I7 E8 E9 E10 E11 E12 E13 E14 E15 E16 E17 E18 E19 E20 E21 E22 q3 hn23
      exact absurd hn23 (by omega)
    | succ n1 ih2 =>
      intro x1 z5 h6 I7 E8 E9 E10 E11 E12 E13 E14 E15 E16 E17 E18 E19 E20 E21 E22 q3 hn23
      refine ov_blk (ls2 := [(0, ov_r 90), (1, ov_i x1)]) (st2 := [ov_i 120, ov_i x1]) (pc2 := 5) b_204_2_2 rfl rfl ?_
      refine ov_icge (tgt := 21) d_204_5 (by decide) (by omega) (by omega) (fun c24 => ?_) (fun c24 => ?_)
      · skip
        refine ov_blk (ls2 := [(0, ov_r 90), (1, ov_i x1)]) (st2 := [ov_r 90]) (pc2 := 22) b_204_21_1 rfl rfl ?_
        refine ov_getf (v := ov_r 100) d_204_22 fl_Mo_93 (zb_90 I7) (zs_90 I7) (congrArg ov_r (rg_90_16 I7)) ?_
        refine ov_blk (ls2 := [(0, ov_r 90), (1, ov_i x1)]) (st2 := [ov_i 0, ov_i 0, ov_r 100]) (pc2 := 27) b_204_25_2 rfl rfl ?_
        refine ov_iast d_204_27 (zb_100 I7) (zs_100 I7) (by omega) ?_
        have I25 := ua_100 (k := 0) (x := 0) I7 (by refine ⟨?_, ?_, ?_, ?_⟩ <;> omega)
        refine ov_blk (ls2 := [(0, ov_r 90), (1, ov_i x1)]) (st2 := [ov_i 0, ov_r 90]) (pc2 := 30) b_204_28_2 rfl rfl ?_
        refine ov_putf (x := 0) d_204_30 fl_Mo_319 (zb_90 I25) (zs_90 I25) rfl nk_0 rfl ?_
        have I26 := up_90_20 (x := 0) I25 (by omega)
        refine ov_blk (ls2 := [(0, ov_r 90), (1, ov_i x1)]) (st2 := [ov_r 90, ov_r 90]) (pc2 := 35) b_204_33_2 rfl rfl ?_
        refine ov_getf (v := ov_i (h6 90 22)) d_204_35 fl_Mo_322 (zb_90 I26) (zs_90 I26) rfl ?_
        have g27 := rg_90_22 I7
        refine ov_blk (ls2 := [(0, ov_r 90), (1, ov_i x1)]) (st2 := [ov_i ((h6 90 22) + 1), ov_r 90]) (pc2 := 40) b_204_38_2 rfl rfl ?_
        refine ov_putf (x := ((h6 90 22) + 1)) d_204_40 fl_Mo_322 (zb_90 I26) (zs_90 I26) rfl nk_0 rfl ?_
        have I28 := up_90_22 (x := ((h6 90 22) + 1)) I26 (by omega)
        refine ov_blk (ls2 := [(0, ov_r 90), (1, ov_i 0)]) (st2 := []) (pc2 := 45) b_204_43_2 rfl rfl ?_
        have L32 : ∀ (n29 : Nat) (x1_ : Int) (z33 : ov_Z) (h34 : ov_H) (I35 : ov_N F z33 h34) (E36 : h34 91 = h 91) (E37 : h34 92 = h 92) (E38 : h34 93 = h 93) (E39 : h34 94 = h 94) (E40 : h34 95 = h 95) (E41 : h34 96 = h 96) (E42 : h34 97 = h 97) (E43 : h34 98 = h 98) (E44 : h34 99 = h 99) (E45 : h34 103 = h6 103) (E46 : h34 105 = h 105) (E47 : h34 106 = h 106) (E48 : h34 109 = h 109) (E49 : h34 114 = h 114) (q31 : 0 ≤ x1_ ∧ x1_ ≤ 4 ∧ (h34 100 0) = 0 ∧ (h34 90 2) = (h6 90 2) ∧ (h34 90 7) = (h6 90 7) ∧ (h34 90 8) = (h6 90 8) ∧ (h34 90 13) = (h6 90 13) ∧ (h34 90 20) = 0 ∧ (h34 90 22) = ((h6 90 22) + 1) ∧ (h34 90 25) = (h6 90 25) ∧ (h34 90 26) = (h6 90 26) ∧ (h34 90 28) = (h6 90 28) ∧ (h34 90 29) = (h6 90 29) ∧ (h34 90 30) = (h6 90 30) ∧ (h34 90 34) = (h6 90 34)), 4 - x1_ < (n29 : Int) → ov_R u d ov_m204 45 [(0, ov_r 90), (1, ov_i x1_)] [] z33 h34 (P_Mo_begins_90 F z h) := by
          intro n29
          induction n29 with
          | zero =>
            intro x1_ z33 h34 I35 E36 E37 E38 E39 E40 E41 E42 E43 E44 E45 E46 E47 E48 E49 q31 hn50
            exact absurd hn50 (by omega)
          | succ n29 ih30 =>
            intro x1_ z33 h34 I35 E36 E37 E38 E39 E40 E41 E42 E43 E44 E45 E46 E47 E48 E49 q31 hn50
            refine ov_blk (ls2 := [(0, ov_r 90), (1, ov_i x1_)]) (st2 := [ov_i 4, ov_i x1_]) (pc2 := 47) b_204_45_2 rfl rfl ?_
            refine ov_icge (tgt := 63) d_204_47 (by decide) (by omega) (by omega) (fun c51 => ?_) (fun c51 => ?_)
            · skip
              exact ov_retv (st := []) d_204_63 rfl ⟨rfl, I35, (by show (h34 90 2) = (h 90 2) ∧ (h34 90 7) = (h 90 7) ∧ (h34 90 8) = (h 90 8) ∧ (h34 90 13) = (h 90 13) ∧ (h34 90 25) = (h 90 25) ∧ (h34 90 26) = (h 90 26) ∧ (h34 90 28) = (h 90 28) ∧ (h34 90 29) = (h 90 29) ∧ (h34 90 30) = (h 90 30) ∧ (h34 90 34) = (h 90 34) ∧ (h34 90 22) = (h 90 22) + 1 ∧ (h34 100 0) = 0; omega), E36, E37, E38, E39, E40, E41, E42, E43, E44, E46, E47, E48, E49⟩
            · skip
              refine ov_blk (ls2 := [(0, ov_r 90), (1, ov_i x1_)]) (st2 := [ov_r 90]) (pc2 := 51) b_204_50_1 rfl rfl ?_
              refine ov_getf (v := ov_r 104) d_204_51 fl_Mo_105 (zb_90 I35) (zs_90 I35) (congrArg ov_r (rg_90_21 I35)) ?_
              refine ov_blk (ls2 := [(0, ov_r 90), (1, ov_i x1_)]) (st2 := [ov_i 0, ov_i x1_, ov_r 104]) (pc2 := 56) b_204_54_2 rfl rfl ?_
              refine ov_zast d_204_56 (zb_104 I35) (zs_104 I35) (by omega) (by omega) ?_
              have I52 := ua_104 (k := x1_) (x := 0) I35 (by omega)
              refine ov_blk (ls2 := [(0, ov_r 90), (1, ov_i (x1_ + 1))]) (st2 := []) (pc2 := 60) b_204_57_1 rfl rfl ?_
              refine ov_goto (tgt := 45) d_204_60 (by decide) ?_
              exact ih30 (x1_ + 1) _ _ I52 E36 E37 E38 E39 E40 E41 E42 E43 E44 E45 E46 E47 E48 E49 (by show 0 ≤ (x1_ + 1) ∧ (x1_ + 1) ≤ 4 ∧ (h34 100 0) = 0 ∧ (h34 90 2) = (h6 90 2) ∧ (h34 90 7) = (h6 90 7) ∧ (h34 90 8) = (h6 90 8) ∧ (h34 90 13) = (h6 90 13) ∧ (h34 90 20) = 0 ∧ (h34 90 22) = ((h6 90 22) + 1) ∧ (h34 90 25) = (h6 90 25) ∧ (h34 90 26) = (h6 90 26) ∧ (h34 90 28) = (h6 90 28) ∧ (h34 90 29) = (h6 90 29) ∧ (h34 90 30) = (h6 90 30) ∧ (h34 90 34) = (h6 90 34); omega) (by omega)
        exact L32 5 0 _ _ I28 E8 E9 E10 E11 E12 E13 E14 E15 E16 rfl E19 E20 E21 E22 (by show 0 ≤ 0 ∧ 0 ≤ 4 ∧ 0 = 0 ∧ (h6 90 2) = (h6 90 2) ∧ (h6 90 7) = (h6 90 7) ∧ (h6 90 8) = (h6 90 8) ∧ (h6 90 13) = (h6 90 13) ∧ 0 = 0 ∧ ((h6 90 22) + 1) = ((h6 90 22) + 1) ∧ (h6 90 25) = (h6 90 25) ∧ (h6 90 26) = (h6 90 26) ∧ (h6 90 28) = (h6 90 28) ∧ (h6 90 29) = (h6 90 29) ∧ (h6 90 30) = (h6 90 30) ∧ (h6 90 34) = (h6 90 34); omega) (by omega)
      · skip
        refine ov_blk (ls2 := [(0, ov_r 90), (1, ov_i x1)]) (st2 := [ov_r 90]) (pc2 := 9) b_204_8_1 rfl rfl ?_
        refine ov_getf (v := ov_r 103) d_204_9 fl_Mo_102 (zb_90 I7) (zs_90 I7) (congrArg ov_r (rg_90_19 I7)) ?_
        refine ov_blk (ls2 := [(0, ov_r 90), (1, ov_i x1)]) (st2 := [ov_i 0, ov_i x1, ov_r 103]) (pc2 := 14) b_204_12_2 rfl rfl ?_
        refine ov_iast d_204_14 (zb_103 I7) (zs_103 I7) (by omega) ?_
        have I53 := ua_103 (k := x1) (x := 0) I7 (by refine ⟨?_, ?_, ?_, ?_, ?_, ?_⟩ <;> omega)
        refine ov_blk (ls2 := [(0, ov_r 90), (1, ov_i (x1 + 1))]) (st2 := []) (pc2 := 18) b_204_15_1 rfl rfl ?_
        refine ov_goto (tgt := 2) d_204_18 (by decide) ?_
        exact ih2 (x1 + 1) _ _ I53 E8 E9 E10 E11 E12 E13 E14 E15 E16 E17 E18 E19 E20 E21 E22 (by show 0 ≤ (x1 + 1) ∧ (x1 + 1) ≤ 120 ∧ (h6 90 2) = (h 90 2) ∧ (h6 90 7) = (h 90 7) ∧ (h6 90 8) = (h 90 8) ∧ (h6 90 13) = (h 90 13) ∧ (h6 90 20) = (h 90 20) ∧ (h6 90 22) = (h 90 22) ∧ (h6 90 25) = (h 90 25) ∧ (h6 90 26) = (h 90 26) ∧ (h6 90 28) = (h 90 28) ∧ (h6 90 29) = (h 90 29) ∧ (h6 90 30) = (h 90 30) ∧ (h6 90 34) = (h 90 34); omega) (by omega)
  exact L4 121 0 _ _ I rfl rfl rfl rfl rfl rfl rfl rfl rfl rfl rfl rfl rfl rfl rfl (by show 0 ≤ 0 ∧ 0 ≤ 120 ∧ (h 90 2) = (h 90 2) ∧ (h 90 7) = (h 90 7) ∧ (h 90 8) = (h 90 8) ∧ (h 90 13) = (h 90 13) ∧ (h 90 20) = (h 90 20) ∧ (h 90 22) = (h 90 22) ∧ (h 90 25) = (h 90 25) ∧ (h 90 26) = (h 90 26) ∧ (h 90 28) = (h 90 28) ∧ (h 90 29) = (h 90 29) ∧ (h 90 30) = (h 90 30) ∧ (h 90 34) = (h 90 34); omega) (by omega)
abbrev P_Mo_keeps_90 (F : ov_H × ov_Z) (z : ov_Z) (h : ov_H) : Option ov_V → ov_Z → ov_H → Prop := fun r0 z' h' => r0 = none ∧ ov_N F z' h' ∧ ((h' 90 2) = (h 90 2) ∧ (h' 90 7) = (h 90 7) ∧ (h' 90 8) = (h 90 8) ∧ (h' 90 13) = (h 90 13) ∧ (h' 90 22) = (h 90 22) ∧ (h' 90 25) = (h 90 25) ∧ (h' 90 26) = (h 90 26) ∧ (h' 90 28) = (h 90 28) ∧ (h' 90 29) = (h 90 29) ∧ (h' 90 30) = (h 90 30) ∧ (h' 90 34) = (h 90 34)) ∧ h' 91 = h 91 ∧ h' 92 = h 92 ∧ h' 93 = h 93 ∧ h' 94 = h 94 ∧ h' 95 = h 95 ∧ h' 96 = h 96 ∧ h' 97 = h 97 ∧ h' 98 = h 98 ∧ h' 99 = h 99 ∧ h' 100 = h 100 ∧ h' 104 = h 104 ∧ h' 105 = h 105 ∧ h' 106 = h 106 ∧ h' 109 = h 109 ∧ h' 114 = h 114 ∧ (∀ j : Int, j < 600 → (h' 103) j = (h 103) j)
set_option maxHeartbeats 4000000 in
theorem c_Mo_keeps_90 {u : ov_U} {F : ov_H × ov_Z} {z : ov_Z} {h : ov_H} (d : Nat) (hd : 1 ≤ d) (U : ov_cap u) (I : ov_N F z h) : ov_T u d ov_m254 [ov_r 90] z h (P_Mo_keeps_90 F z h) := by
  refine ov_en rfl (Nat.le_of_ble_eq_true rfl) ?_
  show ov_R u d ov_m254 0 [(0, ov_r 90)] [] z h (P_Mo_keeps_90 F z h)
  refine ov_blk (ls2 := [(0, ov_r 90)]) (st2 := [ov_r 90]) (pc2 := 1) b_254_0_1 rfl rfl ?_
  refine ov_getf (v := ov_i (h 90 20)) d_254_1 fl_Mo_319 (zb_90 I) (zs_90 I) rfl ?_
  have g1 := rg_90_20 I
  refine ov_blk (ls2 := [(0, ov_r 90)]) (st2 := [ov_i 16, ov_i (h 90 20)]) (pc2 := 6) b_254_4_1 rfl rfl ?_
  refine ov_icne (tgt := 47) d_254_6 (by decide) (by omega) (by omega) (fun c2 => ?_) (fun c2 => ?_)
  · skip
    refine ov_blk (ls2 := [(0, ov_r 90)]) (st2 := [ov_r 90, ov_i 5, ov_i 0, ov_r 90]) (pc2 := 51) b_254_47_4 rfl rfl ?_
    refine ov_getf (v := ov_i (h 90 20)) d_254_51 fl_Mo_319 (zb_90 I) (zs_90 I) rfl ?_
    refine ov_blk (ls2 := [(0, ov_r 90)]) (st2 := [ov_i 58, ov_i (5 + (h 90 20)), ov_i 0, ov_r 90]) (pc2 := 57) b_254_54_2 rfl rfl ?_
    refine ov_cV (as := [ov_i 0, ov_i (5 + (h 90 20)), ov_i 58]) (st := []) (d2 := d - 1) d_254_57 lk_Mo_325 rfl (Nat.le_of_ble_eq_true rfl) (c := 1) (zb_90 I) (zs_90 I) ⟨by decide, rfl⟩ (by omega) (c_Mo_copies_90 (d - 1) (by omega) U I 0 (5 + (h 90 20)) 58 (by omega) (by omega) (by omega) (by omega) (by omega) (by omega)) ?_
    rintro _ z21 h22 ⟨rfl, I23, f4, e5, e6, e7, e8, e9, e10, e11, e12, e13, e14, e15, e16, e17, e18, e19, y20⟩
    have E24 : h22 91 = h 91 := e5
    have E25 : h22 92 = h 92 := e6
    have E26 : h22 93 = h 93 := e7
    have E27 : h22 94 = h 94 := e8
    have E28 : h22 95 = h 95 := e9
    have E29 : h22 96 = h 96 := e10
    have E30 : h22 97 = h 97 := e11
    have E31 : h22 98 = h 98 := e12
    have E32 : h22 99 = h 99 := e13
    have E33 : h22 100 = h 100 := e14
    have E34 : h22 104 = h 104 := e15
    have E35 : h22 105 = h 105 := e16
    have E36 : h22 106 = h 106 := e17
    have E37 : h22 109 = h 109 := e18
    have E38 : h22 114 = h 114 := e19
    show ov_R u d ov_m254 60 [(0, ov_r 90)] [] z21 h22 (P_Mo_keeps_90 F z h)
    have f39 : (h22 90 2) = (h 90 2) ∧ (h22 90 7) = (h 90 7) ∧ (h22 90 8) = (h 90 8) ∧ (h22 90 13) = (h 90 13) ∧ (h22 90 20) = (h 90 20) ∧ (h22 90 22) = (h 90 22) ∧ (h22 90 25) = (h 90 25) ∧ (h22 90 26) = (h 90 26) ∧ (h22 90 28) = (h 90 28) ∧ (h22 90 29) = (h 90 29) ∧ (h22 90 30) = (h 90 30) ∧ (h22 90 34) = (h 90 34) := f4
    clear f4
    have y20_ : ∀ j : Int, j < 120 * (5 + (h 90 20)) ∨ 120 * (5 + (h 90 20)) + (58 : Int) ≤ j → (h22 103) j = (h 103) j := y20
    refine ov_blk (ls2 := [(0, ov_r 90)]) (st2 := [ov_r 90, ov_r 90]) (pc2 := 62) b_254_60_2 rfl rfl ?_
    refine ov_getf (v := ov_i (h22 90 20)) d_254_62 fl_Mo_319 (zb_90 I23) (zs_90 I23) rfl ?_
    have g40 := rg_90_20 I23
    refine ov_blk (ls2 := [(0, ov_r 90)]) (st2 := [ov_i ((h22 90 20) + 1), ov_r 90]) (pc2 := 67) b_254_65_2 rfl rfl ?_
    refine ov_putf (x := ((h22 90 20) + 1)) d_254_67 fl_Mo_319 (zb_90 I23) (zs_90 I23) rfl nk_0 rfl ?_
    have I41 := up_90_20 (x := ((h22 90 20) + 1)) I23 (by omega)
    have xk0 : ∀ j : Int, j < 600 → (ov_up h22 90 20 ((h22 90 20) + 1)) 103 j = h 103 j := fun j hj => by show h22 103 j = _; rw [y20_ j (by omega)]
    exact ov_retv (st := []) d_254_70 rfl ⟨rfl, I41, (by show (h22 90 2) = (h 90 2) ∧ (h22 90 7) = (h 90 7) ∧ (h22 90 8) = (h 90 8) ∧ (h22 90 13) = (h 90 13) ∧ (h22 90 22) = (h 90 22) ∧ (h22 90 25) = (h 90 25) ∧ (h22 90 26) = (h 90 26) ∧ (h22 90 28) = (h 90 28) ∧ (h22 90 29) = (h 90 29) ∧ (h22 90 30) = (h 90 30) ∧ (h22 90 34) = (h 90 34); omega), E24, E25, E26, E27, E28, E29, E30, E31, E32, E33, E34, E35, E36, E37, E38, xk0⟩
  · skip
    refine ov_blk (ls2 := [(0, ov_r 90), (1, ov_i 1)]) (st2 := []) (pc2 := 11) b_254_9_2 rfl rfl ?_
    have L45 : ∀ (n42 : Nat) (x1 : Int) (z46 : ov_Z) (h47 : ov_H) (I48 : ov_N F z46 h47) (E49 : h47 91 = h 91) (E50 : h47 92 = h 92) (E51 : h47 93 = h 93) (E52 : h47 94 = h 94) (E53 : h47 95 = h 95) (E54 : h47 96 = h 96) (E55 : h47 97 = h 97) (E56 : h47 98 = h 98) (E57 : h47 99 = h 99) (E58 : h47 100 = h 100) (E59 : h47 104 = h 104) (E60 : h47 105 = h 105) (E61 : h47 106 = h 106) (E62 : h47 109 = h 109) (E63 : h47 114 = h 114) (xl : ∀ j : Int, j < 600 → (h47 103) j = (h 103) j) (q44 : 1 ≤ x1 ∧ x1 ≤ 16 ∧ (h47 90 20) = 16 ∧ (h47 90 2) = (h 90 2) ∧ (h47 90 7) = (h 90 7) ∧ (h47 90 8) = (h 90 8) ∧ (h47 90 13) = (h 90 13) ∧ (h47 90 20) = (h 90 20) ∧ (h47 90 22) = (h 90 22) ∧ (h47 90 25) = (h 90 25) ∧ (h47 90 26) = (h 90 26) ∧ (h47 90 28) = (h 90 28) ∧ (h47 90 29) = (h 90 29) ∧ (h47 90 30) = (h 90 30) ∧ (h47 90 34) = (h 90 34)), 16 - x1 < (n42 : Int) → ov_R u d ov_m254 11 [(0, ov_r 90), (1, ov_i x1)] [] z46 h47 (P_Mo_keeps_90 F z h) := by
      intro n42
      induction n42 with
      | zero =>
        intro x1 z46 h47 I48 E49 E50 E51 E52 E53 E54 E55 E56 E57 E58 E59 E60 E61 E62 E63 xl q44 hn64
        exact absurd hn64 (by omega)
      | succ n42 ih43 =>
        intro x1 z46 h47 I48 E49 E50 E51 E52 E53 E54 E55 E56 E57 E58 E59 E60 E61 E62 E63 xl q44 hn64
        refine ov_blk (ls2 := [(0, ov_r 90), (1, ov_i x1)]) (st2 := [ov_i 16, ov_i x1]) (pc2 := 14) b_254_11_2 rfl rfl ?_
        refine ov_icge (tgt := 37) d_254_14 (by decide) (by omega) (by omega) (fun c65 => ?_) (fun c65 => ?_)
        · skip
          refine ov_blk (ls2 := [(0, ov_r 90), (1, ov_i x1)]) (st2 := [ov_r 90, ov_r 90]) (pc2 := 39) b_254_37_2 rfl rfl ?_
          refine ov_getf (v := ov_i (h47 90 20)) d_254_39 fl_Mo_319 (zb_90 I48) (zs_90 I48) rfl ?_
          have g66 := rg_90_20 I48
          refine ov_blk (ls2 := [(0, ov_r 90), (1, ov_i x1)]) (st2 := [ov_i ((h47 90 20) - 1), ov_r 90]) (pc2 := 44) b_254_42_2 rfl rfl ?_
          refine ov_putf (x := ((h47 90 20) - 1)) d_254_44 fl_Mo_319 (zb_90 I48) (zs_90 I48) rfl nk_0 rfl ?_
          have I67 := up_90_20 (x := ((h47 90 20) - 1)) I48 (by omega)
          refine ov_blk (ls2 := [(0, ov_r 90), (1, ov_i x1)]) (st2 := [ov_r 90, ov_i 5, ov_i 0, ov_r 90]) (pc2 := 51) b_254_47_4 rfl rfl ?_
          refine ov_getf (v := ov_i ((h47 90 20) - 1)) d_254_51 fl_Mo_319 (zb_90 I67) (zs_90 I67) rfl ?_
          refine ov_blk (ls2 := [(0, ov_r 90), (1, ov_i x1)]) (st2 := [ov_i 58, ov_i (5 + ((h47 90 20) - 1)), ov_i 0, ov_r 90]) (pc2 := 57) b_254_54_2 rfl rfl ?_
          refine ov_cV (as := [ov_i 0, ov_i (5 + ((h47 90 20) - 1)), ov_i 58]) (st := []) (d2 := d - 1) d_254_57 lk_Mo_325 rfl (Nat.le_of_ble_eq_true rfl) (c := 1) (zb_90 I67) (zs_90 I67) ⟨by decide, rfl⟩ (by omega) (c_Mo_copies_90 (d - 1) (by omega) U I67 0 (5 + ((h47 90 20) - 1)) 58 (by omega) (by omega) (by omega) (by omega) (by omega) (by omega)) ?_
          rintro _ z85 h86 ⟨rfl, I87, f68, e69, e70, e71, e72, e73, e74, e75, e76, e77, e78, e79, e80, e81, e82, e83, y84⟩
          have E88 : h86 91 = h 91 := Eq.trans e69 E49
          have E89 : h86 92 = h 92 := Eq.trans e70 E50
          have E90 : h86 93 = h 93 := Eq.trans e71 E51
          have E91 : h86 94 = h 94 := Eq.trans e72 E52
          have E92 : h86 95 = h 95 := Eq.trans e73 E53
          have E93 : h86 96 = h 96 := Eq.trans e74 E54
          have E94 : h86 97 = h 97 := Eq.trans e75 E55
          have E95 : h86 98 = h 98 := Eq.trans e76 E56
          have E96 : h86 99 = h 99 := Eq.trans e77 E57
          have E97 : h86 100 = h 100 := Eq.trans e78 E58
          have E98 : h86 104 = h 104 := Eq.trans e79 E59
          have E99 : h86 105 = h 105 := Eq.trans e80 E60
          have E100 : h86 106 = h 106 := Eq.trans e81 E61
          have E101 : h86 109 = h 109 := Eq.trans e82 E62
          have E102 : h86 114 = h 114 := Eq.trans e83 E63
          show ov_R u d ov_m254 60 [(0, ov_r 90), (1, ov_i x1)] [] z85 h86 (P_Mo_keeps_90 F z h)
          have f103 : (h86 90 2) = (h47 90 2) ∧ (h86 90 7) = (h47 90 7) ∧ (h86 90 8) = (h47 90 8) ∧ (h86 90 13) = (h47 90 13) ∧ (h86 90 20) = ((h47 90 20) - 1) ∧ (h86 90 22) = (h47 90 22) ∧ (h86 90 25) = (h47 90 25) ∧ (h86 90 26) = (h47 90 26) ∧ (h86 90 28) = (h47 90 28) ∧ (h86 90 29) = (h47 90 29) ∧ (h86 90 30) = (h47 90 30) ∧ (h86 90 34) = (h47 90 34) := f68
          clear f68
          have y84_ : ∀ j : Int, j < 120 * (5 + ((h47 90 20) - 1)) ∨ 120 * (5 + ((h47 90 20) - 1)) + (58 : Int) ≤ j → (h86 103) j = (h47 103) j := y84
          refine ov_blk (ls2 := [(0, ov_r 90), (1, ov_i x1)]) (st2 := [ov_r 90, ov_r 90]) (pc2 := 62) b_254_60_2 rfl rfl ?_
          refine ov_getf (v := ov_i (h86 90 20)) d_254_62 fl_Mo_319 (zb_90 I87) (zs_90 I87) rfl ?_
          have g104 := rg_90_20 I87
          refine ov_blk (ls2 := [(0, ov_r 90), (1, ov_i x1)]) (st2 := [ov_i ((h86 90 20) + 1), ov_r 90]) (pc2 := 67) b_254_65_2 rfl rfl ?_
          refine ov_putf (x := ((h86 90 20) + 1)) d_254_67 fl_Mo_319 (zb_90 I87) (zs_90 I87) rfl nk_0 rfl ?_
          have I105 := up_90_20 (x := ((h86 90 20) + 1)) I87 (by omega)
          have xk0 : ∀ j : Int, j < 600 → (ov_up h86 90 20 ((h86 90 20) + 1)) 103 j = h 103 j := fun j hj => by show h86 103 j = _; rw [y84_ j (by omega)]; exact xl j hj
          exact ov_retv (st := []) d_254_70 rfl ⟨rfl, I105, (by show (h86 90 2) = (h 90 2) ∧ (h86 90 7) = (h 90 7) ∧ (h86 90 8) = (h 90 8) ∧ (h86 90 13) = (h 90 13) ∧ (h86 90 22) = (h 90 22) ∧ (h86 90 25) = (h 90 25) ∧ (h86 90 26) = (h 90 26) ∧ (h86 90 28) = (h 90 28) ∧ (h86 90 29) = (h 90 29) ∧ (h86 90 30) = (h 90 30) ∧ (h86 90 34) = (h 90 34); omega), E88, E89, E90, E91, E92, E93, E94, E95, E96, E97, E98, E99, E100, E101, E102, xk0⟩
        · skip
          refine ov_blk (ls2 := [(0, ov_r 90), (1, ov_i x1)]) (st2 := [ov_i 58, ov_i ((5 + x1) - 1), ov_i (5 + x1), ov_r 90]) (pc2 := 28) b_254_17_10 rfl rfl ?_
          refine ov_cV (as := [ov_i (5 + x1), ov_i ((5 + x1) - 1), ov_i 58]) (st := []) (d2 := d - 1) d_254_28 lk_Mo_325 rfl (Nat.le_of_ble_eq_true rfl) (c := 1) (zb_90 I48) (zs_90 I48) ⟨by decide, rfl⟩ (by omega) (c_Mo_copies_90 (d - 1) (by omega) U I48 (5 + x1) ((5 + x1) - 1) 58 (by omega) (by omega) (by omega) (by omega) (by omega) (by omega)) ?_
          rintro _ z123 h124 ⟨rfl, I125, f106, e107, e108, e109, e110, e111, e112, e113, e114, e115, e116, e117, e118, e119, e120, e121, y122⟩
          have E126 : h124 91 = h 91 := Eq.trans e107 E49
          have E127 : h124 92 = h 92 := Eq.trans e108 E50
          have E128 : h124 93 = h 93 := Eq.trans e109 E51
          have E129 : h124 94 = h 94 := Eq.trans e110 E52
          have E130 : h124 95 = h 95 := Eq.trans e111 E53
          have E131 : h124 96 = h 96 := Eq.trans e112 E54
          have E132 : h124 97 = h 97 := Eq.trans e113 E55
          have E133 : h124 98 = h 98 := Eq.trans e114 E56
          have E134 : h124 99 = h 99 := Eq.trans e115 E57
          have E135 : h124 100 = h 100 := Eq.trans e116 E58
          have E136 : h124 104 = h 104 := Eq.trans e117 E59
          have E137 : h124 105 = h 105 := Eq.trans e118 E60
          have E138 : h124 106 = h 106 := Eq.trans e119 E61
          have E139 : h124 109 = h 109 := Eq.trans e120 E62
          have E140 : h124 114 = h 114 := Eq.trans e121 E63
          show ov_R u d ov_m254 31 [(0, ov_r 90), (1, ov_i x1)] [] z123 h124 (P_Mo_keeps_90 F z h)
          have f141 : (h124 90 2) = (h47 90 2) ∧ (h124 90 7) = (h47 90 7) ∧ (h124 90 8) = (h47 90 8) ∧ (h124 90 13) = (h47 90 13) ∧ (h124 90 20) = (h47 90 20) ∧ (h124 90 22) = (h47 90 22) ∧ (h124 90 25) = (h47 90 25) ∧ (h124 90 26) = (h47 90 26) ∧ (h124 90 28) = (h47 90 28) ∧ (h124 90 29) = (h47 90 29) ∧ (h124 90 30) = (h47 90 30) ∧ (h124 90 34) = (h47 90 34) := f106
          clear f106
          have y122_ : ∀ j : Int, j < 120 * ((5 + x1) - 1) ∨ 120 * ((5 + x1) - 1) + (58 : Int) ≤ j → (h124 103) j = (h47 103) j := y122
          refine ov_blk (ls2 := [(0, ov_r 90), (1, ov_i (x1 + 1))]) (st2 := []) (pc2 := 34) b_254_31_1 rfl rfl ?_
          refine ov_goto (tgt := 11) d_254_34 (by decide) ?_
          have xl2 : ∀ j : Int, j < 600 → (h124 103) j = h 103 j := fun j hj => by rw [y122_ j (by omega)]; exact xl j hj
          exact ih43 (x1 + 1) _ _ I125 E126 E127 E128 E129 E130 E131 E132 E133 E134 E135 E136 E137 E138 E139 E140 xl2 (by show 1 ≤ (x1 + 1) ∧ (x1 + 1) ≤ 16 ∧ (h124 90 20) = 16 ∧ (h124 90 2) = (h 90 2) ∧ (h124 90 7) = (h 90 7) ∧ (h124 90 8) = (h 90 8) ∧ (h124 90 13) = (h 90 13) ∧ (h124 90 20) = (h 90 20) ∧ (h124 90 22) = (h 90 22) ∧ (h124 90 25) = (h 90 25) ∧ (h124 90 26) = (h 90 26) ∧ (h124 90 28) = (h 90 28) ∧ (h124 90 29) = (h 90 29) ∧ (h124 90 30) = (h 90 30) ∧ (h124 90 34) = (h 90 34); omega) (by omega)
    exact L45 17 1 _ _ I rfl rfl rfl rfl rfl rfl rfl rfl rfl rfl rfl rfl rfl rfl rfl (fun j _ => rfl) (by show 1 ≤ 1 ∧ 1 ≤ 16 ∧ (h 90 20) = 16 ∧ (h 90 2) = (h 90 2) ∧ (h 90 7) = (h 90 7) ∧ (h 90 8) = (h 90 8) ∧ (h 90 13) = (h 90 13) ∧ (h 90 20) = (h 90 20) ∧ (h 90 22) = (h 90 22) ∧ (h 90 25) = (h 90 25) ∧ (h 90 26) = (h 90 26) ∧ (h 90 28) = (h 90 28) ∧ (h 90 29) = (h 90 29) ∧ (h 90 30) = (h 90 30) ∧ (h 90 34) = (h 90 34); omega) (by omega)
abbrev P_Mo_go_90 (F : ov_H × ov_Z) (z : ov_Z) (h : ov_H) (way : Int) (run : Int) : Option ov_V → ov_Z → ov_H → Prop := fun r0 z' h' => ∃ r : Int, r0 = some (ov_i r) ∧ ov_N F z' h' ∧ ((h' 90 2) = (h 90 2) ∧ (h' 90 7) = (h 90 7) ∧ (h' 90 8) = (h 90 8) ∧ (h' 90 13) = (h 90 13) ∧ (h' 90 22) = (h 90 22) ∧ (h' 90 25) = (h 90 25) ∧ (h' 90 26) = (h 90 26) ∧ (h' 90 28) = (h 90 28) ∧ (h' 90 29) = (h 90 29) ∧ (h' 90 30) = (h 90 30) ∧ (h' 90 34) = (h 90 34) ∧ -2147483648 ≤ r ∧ r ≤ 2147483647) ∧ h' 91 = h 91 ∧ h' 92 = h 92 ∧ h' 93 = h 93 ∧ h' 94 = h 94 ∧ h' 95 = h 95 ∧ h' 96 = h 96 ∧ h' 97 = h 97 ∧ h' 98 = h 98 ∧ h' 99 = h 99 ∧ h' 100 = h 100 ∧ h' 104 = h 104 ∧ h' 105 = h 105 ∧ h' 106 = h 106 ∧ h' 109 = h 109 ∧ h' 114 = h 114 ∧ (∀ j : Int, 4 ≤ j → j ≤ 57 → (h' 103) j = (h 103) j)
set_option maxHeartbeats 4000000 in
theorem c_Mo_go_90 {u : ov_U} {F : ov_H × ov_Z} {z : ov_Z} {h : ov_H} (d : Nat) (hd : 3 ≤ d) (U : ov_cap u) (I : ov_N F z h) (way : Int) (run : Int) (g_way : ov_g way) (g_run : run = 0 ∨ run = 1) (p0 : (h 103 2) ≤ ov_bd F - 1000) (p1 : 0 ≤ ov_bd F ∧ ov_bd F ≤ 800000000) (W : ov_WT (h 96)) : ov_T u d ov_m253 [ov_r 90, ov_i way, ov_i run] z h (P_Mo_go_90 F z h way run) := by
  refine ov_en rfl (Nat.le_of_ble_eq_true rfl) ?_
  show ov_R u d ov_m253 0 [(0, ov_r 90), (1, ov_i way), (2, ov_i run)] [] z h (P_Mo_go_90 F z h way run)
  have t0 := t96_0 I
  have t1 := t96_1 I
  refine ov_blk (ls2 := [(0, ov_r 90), (1, ov_i way), (2, ov_i run)]) (st2 := [ov_i 0, ov_r 90]) (pc2 := 2) b_253_0_2 rfl rfl ?_
  refine ov_putf (x := 0) d_253_2 fl_Mo_1 (zb_90 I) (zs_90 I) rfl nk_0 rfl ?_
  have I1 := up_90_0 (x := 0) I (by omega)
  refine ov_blk (ls2 := [(0, ov_r 90), (1, ov_i way), (2, ov_i run)]) (st2 := [ov_r 90]) (pc2 := 6) b_253_5_1 rfl rfl ?_
  refine ov_getf (v := ov_r 103) d_253_6 fl_Mo_102 (zb_90 I1) (zs_90 I1) (congrArg ov_r (rg_90_19 I1)) ?_
  refine ov_blk (ls2 := [(0, ov_r 90), (1, ov_i way), (2, ov_i run)]) (st2 := [ov_i 0, ov_r 103]) (pc2 := 10) b_253_9_1 rfl rfl ?_
  refine ov_iald d_253_10 (zb_103 I1) (zs_103 I1) (by omega) ?_
  show ov_R u d ov_m253 11 [(0, ov_r 90), (1, ov_i way), (2, ov_i run)] [ov_i (h 103 0)] z (ov_up h 90 0 0) (P_Mo_go_90 F z h way run)
  have g2 := s103_0 I
  refine ov_blk (ls2 := [(0, ov_r 90), (1, ov_i way), (2, ov_i run), (3, ov_i (h 103 0))]) (st2 := [ov_r 90]) (pc2 := 13) b_253_11_2 rfl rfl ?_
  refine ov_getf (v := ov_r 103) d_253_13 fl_Mo_102 (zb_90 I1) (zs_90 I1) (congrArg ov_r (rg_90_19 I1)) ?_
  refine ov_blk (ls2 := [(0, ov_r 90), (1, ov_i way), (2, ov_i run), (3, ov_i (h 103 0))]) (st2 := [ov_i 1, ov_r 103]) (pc2 := 17) b_253_16_1 rfl rfl ?_
  refine ov_iald d_253_17 (zb_103 I1) (zs_103 I1) (by omega) ?_
  show ov_R u d ov_m253 18 [(0, ov_r 90), (1, ov_i way), (2, ov_i run), (3, ov_i (h 103 0))] [ov_i (h 103 1)] z (ov_up h 90 0 0) (P_Mo_go_90 F z h way run)
  have g3 := s103_1 I
  refine ov_blk (ls2 := [(0, ov_r 90), (1, ov_i way), (2, ov_i run), (3, ov_i (h 103 0)), (4, ov_i (h 103 1))]) (st2 := [ov_i 1, ov_i 0, ov_i way]) (pc2 := 23) b_253_18_4 rfl rfl ?_
  refine ov_cS (as := [ov_i way, ov_i 0, ov_i 1]) (st := []) (d2 := d - 1) d_253_23 lk_Mo_299 rfl (Nat.le_of_ble_eq_true rfl) (by omega) (c_Mo_within (d - 1) (by omega) U I1 way 0 1 (by omega) (by omega) (by omega)) ?_
  rintro _ _ _ ⟨v5, rfl, rfl, rfl, f4⟩
  show ov_R u d ov_m253 26 [(0, ov_r 90), (1, ov_i way), (2, ov_i run), (3, ov_i (h 103 0)), (4, ov_i (h 103 1))] [ov_i v5] z (ov_up h 90 0 0) (P_Mo_go_90 F z h way run)
  have f6 : (v5 = 0 ∨ v5 = 1) ∧ (v5 = 1 → (0 : Int) ≤ way ∧ way ≤ (1 : Int)) ∧ (v5 = 0 → way < (0 : Int) ∨ (1 : Int) < way) := f4
  clear f4
  refine ov_ifeq (tgt := 70) d_253_26 (by decide) (by omega) (fun c7 => ?_) (fun c7 => ?_)
  · skip
    have f6_ : v5 = 0 := by omega
    have f8 : way < (0 : Int) ∨ (1 : Int) < way := f6.2.2 (by omega)
    clear f6
    refine ov_blk (ls2 := [(0, ov_r 90), (1, ov_i way), (2, ov_i run), (3, ov_i (h 103 0)), (4, ov_i (h 103 1))]) (st2 := [ov_i (-1)]) (pc2 := 71) b_253_70_1 rfl rfl ?_
    exact ov_reti (st := []) d_253_71 rfl ⟨_, rfl, I1, ⟨rfl, rfl, rfl, rfl, rfl, rfl, rfl, rfl, rfl, rfl, rfl, (by show -2147483648 ≤ (-1) ∧ (-1) ≤ 2147483647; omega)⟩, rfl, rfl, rfl, rfl, rfl, rfl, rfl, rfl, rfl, rfl, rfl, rfl, rfl, rfl, rfl, (fun j h1 h2 => rfl)⟩
  · skip
    have f6_ : v5 = 1 := by omega
    have f9 : (0 : Int) ≤ way ∧ way ≤ (1 : Int) := f6.2.1 (by omega)
    clear f6
    refine ov_blk (ls2 := [(0, ov_r 90), (1, ov_i way), (2, ov_i run), (3, ov_i (h 103 0)), (4, ov_i (h 103 1))]) (st2 := [ov_i way, ov_i (h 103 1), ov_i (h 103 0), ov_r 90]) (pc2 := 34) b_253_29_4 rfl rfl ?_
    refine ov_cV (as := [ov_i (h 103 0), ov_i (h 103 1), ov_i way]) (st := []) (d2 := d - 1) d_253_34 lk_Mo_309 rfl (Nat.le_of_ble_eq_true rfl) (c := 1) (zb_90 I1) (zs_90 I1) ⟨by decide, rfl⟩ (by omega) (c_Mo_canGo_90 (d - 1) (by omega) U I1 (h 103 0) (h 103 1) way (by omega) (by omega) (by omega) (by omega) (by omega)) ?_
    rintro _ _ _ ⟨v11, rfl, rfl, rfl, f10⟩
    show ov_R u d ov_m253 37 [(0, ov_r 90), (1, ov_i way), (2, ov_i run), (3, ov_i (h 103 0)), (4, ov_i (h 103 1))] [ov_i v11] z (ov_up h 90 0 0) (P_Mo_go_90 F z h way run)
    have f12 : (v11 = 0 ∨ v11 = 1) ∧ v11 = ov_cgi (h 96) (h 103 0) (h 103 1) way ∧ (v11 = 1 → ((way = 0 → (h 103 0) < (h 96 0) - 1) ∧ (¬ way = 0 → (h 103 1) < (h 96 1) - 1)) ∧ (((h 96 (10 + 4 * (6 * (h 103 1) + (h 103 0)))) = 1 ∨ (h 96 (10 + 4 * (6 * (h 103 1) + (h 103 0)))) = 2) → (way = 0 → 0 < (h 96 (10 + 4 * (6 * (h 103 1) + (h 103 0)) + 3))) ∧ (¬ way = 0 → (h 96 (10 + 4 * (6 * (h 103 1) + (h 103 0)) + 3)) < (h 96 (10 + 4 * (6 * (h 103 1) + (h 103 0)) + 1))))) := f10
    clear f10
    refine ov_ifeq (tgt := 70) d_253_37 (by decide) (by omega) (fun c13 => ?_) (fun c13 => ?_)
    · skip
      have f12_ : v11 = 0 := by omega
      have f14 : v11 = ov_cgi (h 96) (h 103 0) (h 103 1) way := f12.2.1
      clear f12
      refine ov_blk (ls2 := [(0, ov_r 90), (1, ov_i way), (2, ov_i run), (3, ov_i (h 103 0)), (4, ov_i (h 103 1))]) (st2 := [ov_i (-1)]) (pc2 := 71) b_253_70_1 rfl rfl ?_
      exact ov_reti (st := []) d_253_71 rfl ⟨_, rfl, I1, ⟨rfl, rfl, rfl, rfl, rfl, rfl, rfl, rfl, rfl, rfl, rfl, (by show -2147483648 ≤ (-1) ∧ (-1) ≤ 2147483647; omega)⟩, rfl, rfl, rfl, rfl, rfl, rfl, rfl, rfl, rfl, rfl, rfl, rfl, rfl, rfl, rfl, (fun j h1 h2 => rfl)⟩
    · skip
      have f12_ : v11 = 1 := by omega
      have f15 : v11 = ov_cgi (h 96) (h 103 0) (h 103 1) way := f12.2.1
      have f16 : ((way = 0 → (h 103 0) < (h 96 0) - 1) ∧ (¬ way = 0 → (h 103 1) < (h 96 1) - 1)) ∧ (((h 96 (10 + 4 * (6 * (h 103 1) + (h 103 0)))) = 1 ∨ (h 96 (10 + 4 * (6 * (h 103 1) + (h 103 0)))) = 2) → (way = 0 → 0 < (h 96 (10 + 4 * (6 * (h 103 1) + (h 103 0)) + 3))) ∧ (¬ way = 0 → (h 96 (10 + 4 * (6 * (h 103 1) + (h 103 0)) + 3)) < (h 96 (10 + 4 * (6 * (h 103 1) + (h 103 0)) + 1)))) := f12.2.2 (by omega)
      clear f12
      refine ov_blk (ls2 := [(0, ov_r 90), (1, ov_i way), (2, ov_i run), (3, ov_i (h 103 0)), (4, ov_i (h 103 1))]) (st2 := [ov_i run]) (pc2 := 41) b_253_40_1 rfl rfl ?_
      refine ov_ifeq (tgt := 72) d_253_41 (by decide) (by omega) (fun c17 => ?_) (fun c17 => ?_)
      · skip
        refine ov_blk (ls2 := [(0, ov_r 90), (1, ov_i way), (2, ov_i run), (3, ov_i (h 103 0)), (4, ov_i (h 103 1))]) (st2 := [ov_r 90]) (pc2 := 73) b_253_72_1 rfl rfl ?_
        refine ov_cV (as := []) (st := []) (d2 := d - 1) d_253_73 lk_Mo_329 rfl (Nat.le_of_ble_eq_true rfl) (c := 1) (zb_90 I1) (zs_90 I1) ⟨by decide, rfl⟩ (by omega) (c_Mo_keeps_90 (d - 1) (by omega) U I1) ?_
        rintro _ z35 h36 ⟨rfl, I37, f18, e19, e20, e21, e22, e23, e24, e25, e26, e27, e28, e29, e30, e31, e32, e33, y34⟩
        have E38 : h36 91 = h 91 := e19
        have E39 : h36 92 = h 92 := e20
        have E40 : h36 93 = h 93 := e21
        have E41 : h36 94 = h 94 := e22
        have E42 : h36 95 = h 95 := e23
        have E43 : h36 96 = h 96 := e24
        have E44 : h36 97 = h 97 := e25
        have E45 : h36 98 = h 98 := e26
        have E46 : h36 99 = h 99 := e27
        have E47 : h36 100 = h 100 := e28
        have E48 : h36 104 = h 104 := e29
        have E49 : h36 105 = h 105 := e30
        have E50 : h36 106 = h 106 := e31
        have E51 : h36 109 = h 109 := e32
        have E52 : h36 114 = h 114 := e33
        show ov_R u d ov_m253 76 [(0, ov_r 90), (1, ov_i way), (2, ov_i run), (3, ov_i (h 103 0)), (4, ov_i (h 103 1))] [] z35 h36 (P_Mo_go_90 F z h way run)
        have f53 : (h36 90 2) = (h 90 2) ∧ (h36 90 7) = (h 90 7) ∧ (h36 90 8) = (h 90 8) ∧ (h36 90 13) = (h 90 13) ∧ (h36 90 22) = (h 90 22) ∧ (h36 90 25) = (h 90 25) ∧ (h36 90 26) = (h 90 26) ∧ (h36 90 28) = (h 90 28) ∧ (h36 90 29) = (h 90 29) ∧ (h36 90 30) = (h 90 30) ∧ (h36 90 34) = (h 90 34) := f18
        clear f18
        have y34_ : ∀ j : Int, j < 600 → (h36 103) j = (h 103) j := y34
        have xg0 := y34_ 0 (by decide)
        have xg1 := y34_ 1 (by decide)
        have xg2 := y34_ 2 (by decide)
        have xg3 := y34_ 3 (by decide)
        refine ov_blk (ls2 := [(0, ov_r 90), (1, ov_i way), (2, ov_i run), (3, ov_i (h 103 0)), (4, ov_i (h 103 1))]) (st2 := [ov_r 90]) (pc2 := 77) b_253_76_1 rfl rfl ?_
        refine ov_getf (v := ov_r 103) d_253_77 fl_Mo_102 (zb_90 I37) (zs_90 I37) (congrArg ov_r (rg_90_19 I37)) ?_
        refine ov_blk (ls2 := [(0, ov_r 90), (1, ov_i way), (2, ov_i run), (3, ov_i (h 103 0)), (4, ov_i (h 103 1))]) (st2 := [ov_i 2, ov_r 103, ov_i 2, ov_r 103]) (pc2 := 82) b_253_80_2 rfl rfl ?_
        refine ov_iald d_253_82 (zb_103 I37) (zs_103 I37) (by omega) ?_
        have g54 := s103_2 I37
        refine ov_blk (ls2 := [(0, ov_r 90), (1, ov_i way), (2, ov_i run), (3, ov_i (h 103 0)), (4, ov_i (h 103 1))]) (st2 := [ov_r 90, ov_i way, ov_i (h 103 1), ov_i (h 103 0), ov_r 90, ov_i (h36 103 2), ov_i 2, ov_r 103]) (pc2 := 89) b_253_83_5 rfl rfl ?_
        refine ov_getf (v := ov_r 103) d_253_89 fl_Mo_102 (zb_90 I37) (zs_90 I37) (congrArg ov_r (rg_90_19 I37)) ?_
        refine ov_blk (ls2 := [(0, ov_r 90), (1, ov_i way), (2, ov_i run), (3, ov_i (h 103 0)), (4, ov_i (h 103 1))]) (st2 := [ov_i 2, ov_r 103, ov_i way, ov_i (h 103 1), ov_i (h 103 0), ov_r 90, ov_i (h36 103 2), ov_i 2, ov_r 103]) (pc2 := 93) b_253_92_1 rfl rfl ?_
        refine ov_iald d_253_93 (zb_103 I37) (zs_103 I37) (by omega) ?_
        have cf56 : h36 96 (10 + 4 * (6 * (h 103 1) + (h 103 0))) = h 96 (10 + 4 * (6 * (h 103 1) + (h 103 0))) := congrFun E43 (10 + 4 * (6 * (h 103 1) + (h 103 0)))
        have cf57 : h36 96 (10 + 4 * (6 * (h 103 1) + (h 103 0)) + 3) = h 96 (10 + 4 * (6 * (h 103 1) + (h 103 0)) + 3) := congrFun E43 (10 + 4 * (6 * (h 103 1) + (h 103 0)) + 3)
        have cf58 : h36 96 (10 + 4 * (6 * (h 103 1) + (h 103 0)) + 1) = h 96 (10 + 4 * (6 * (h 103 1) + (h 103 0)) + 1) := congrFun E43 (10 + 4 * (6 * (h 103 1) + (h 103 0)) + 1)
        refine ov_cV (as := [ov_i (h 103 0), ov_i (h 103 1), ov_i way, ov_i (h36 103 2)]) (st := [ov_i (h36 103 2), ov_i 2, ov_r 103]) (d2 := d - 1) d_253_94 lk_Mo_315 rfl (Nat.le_of_ble_eq_true rfl) (c := 1) (zb_90 I37) (zs_90 I37) ⟨by decide, rfl⟩ (by omega) (c_Mo_waitFor_90 (d - 1) (by omega) U I37 (h 103 0) (h 103 1) way (h36 103 2) (by omega) (by omega) (by omega) (by omega) (by omega) (by omega) (by omega) (by show (((h36 96 (10 + 4 * (6 * (h 103 1) + (h 103 0)))) = 1 ∨ (h36 96 (10 + 4 * (6 * (h 103 1) + (h 103 0)))) = 2) → (way = 0 → 0 < (h36 96 (10 + 4 * (6 * (h 103 1) + (h 103 0)) + 3))) ∧ (¬ way = 0 → (h36 96 (10 + 4 * (6 * (h 103 1) + (h 103 0)) + 3)) < (h36 96 (10 + 4 * (6 * (h 103 1) + (h 103 0)) + 1)))); omega) (by rw [show h36 96 = h 96 from E43]; exact W)) ?_
        rintro _ _ _ ⟨v60, rfl, rfl, rfl, f59⟩
        show ov_R u d ov_m253 97 [(0, ov_r 90), (1, ov_i way), (2, ov_i run), (3, ov_i (h 103 0)), (4, ov_i (h 103 1))] [ov_i v60, ov_i (h36 103 2), ov_i 2, ov_r 103] z35 h36 (P_Mo_go_90 F z h way run)
        rw [show h36 96 = h 96 from E43] at f59
        have f61 : 0 ≤ v60 ∧ v60 ≤ 59 ∧ v60 = ov_wm (h 96) (6 * (h 103 1) + (h 103 0)) way (h36 103 2) := f59
        clear f59
        refine ov_blk (ls2 := [(0, ov_r 90), (1, ov_i way), (2, ov_i run), (3, ov_i (h 103 0)), (4, ov_i (h 103 1))]) (st2 := [ov_i run, ov_i v60, ov_i (h36 103 2), ov_i 2, ov_r 103]) (pc2 := 98) b_253_97_1 rfl rfl ?_
        refine ov_ifeq (tgt := 108) d_253_98 (by decide) (by omega) (fun c62 => ?_) (fun c62 => ?_)
        · skip
          refine ov_blk (ls2 := [(0, ov_r 90), (1, ov_i way), (2, ov_i run), (3, ov_i (h 103 0)), (4, ov_i (h 103 1))]) (st2 := [ov_r 90, ov_i v60, ov_i (h36 103 2), ov_i 2, ov_r 103]) (pc2 := 109) b_253_108_1 rfl rfl ?_
          refine ov_getf (v := ov_r 96) d_253_109 fl_Mo_81 (zb_90 I37) (zs_90 I37) (congrArg ov_r (rg_90_10 I37)) ?_
          refine ov_blk (ls2 := [(0, ov_r 90), (1, ov_i way), (2, ov_i run), (3, ov_i (h 103 0)), (4, ov_i (h 103 1))]) (st2 := [ov_i 2, ov_r 96, ov_i v60, ov_i (h36 103 2), ov_i 2, ov_r 103]) (pc2 := 113) b_253_112_1 rfl rfl ?_
          refine ov_iald d_253_113 (zb_96 I37) (zs_96 I37) (by omega) ?_
          rw [show h36 96 = h 96 from E43]
          have g63 := t96_2 I
          refine ov_blk (ls2 := [(0, ov_r 90), (1, ov_i way), (2, ov_i run), (3, ov_i (h 103 0)), (4, ov_i (h 103 1))]) (st2 := [ov_i (v60 + (h 96 2)), ov_i (h36 103 2), ov_i 2, ov_r 103]) (pc2 := 115) b_253_114_1 rfl rfl ?_
          refine ov_havw (fun w64 gw64 qw64 => ?_)
          refine ov_blk (ls2 := [(0, ov_r 90), (1, ov_i way), (2, ov_i run), (3, ov_i (h 103 0)), (4, ov_i (h 103 1))]) (st2 := [ov_i ((h36 103 2) + w64), ov_i 2, ov_r 103]) (pc2 := 116) b_253_115_1 rfl rfl ?_
          refine ov_havw (fun w65 gw65 qw65 => ?_)
          refine ov_iast d_253_116 (zb_103 I37) (zs_103 I37) (by omega) ?_
          have I66 := ua_103 (k := 2) (x := w65) I37 (by refine ⟨?_, ?_, ?_, ?_, ?_, ?_⟩ <;> omega)
          refine ov_blk (ls2 := [(0, ov_r 90), (1, ov_i way), (2, ov_i run), (3, ov_i (h 103 0)), (4, ov_i (h 103 1))]) (st2 := [ov_r 90]) (pc2 := 118) b_253_117_1 rfl rfl ?_
          refine ov_getf (v := ov_r 103) d_253_118 fl_Mo_102 (zb_90 I66) (zs_90 I66) (congrArg ov_r (rg_90_19 I66)) ?_
          refine ov_blk (ls2 := [(0, ov_r 90), (1, ov_i way), (2, ov_i run), (3, ov_i (h 103 0)), (4, ov_i (h 103 1))]) (st2 := [ov_i 0, ov_r 103, ov_i 0, ov_r 103]) (pc2 := 123) b_253_121_2 rfl rfl ?_
          refine ov_iald d_253_123 (zb_103 I66) (zs_103 I66) (by omega) ?_
          show ov_R u d ov_m253 124 [(0, ov_r 90), (1, ov_i way), (2, ov_i run), (3, ov_i (h 103 0)), (4, ov_i (h 103 1))] [ov_i (h36 103 0), ov_i 0, ov_r 103] z35 (ov_up h36 103 2 w65) (P_Mo_go_90 F z h way run)
          have g67 := s103_0 I37
          refine ov_blk (ls2 := [(0, ov_r 90), (1, ov_i way), (2, ov_i run), (3, ov_i (h 103 0)), (4, ov_i (h 103 1))]) (st2 := [ov_i ((h36 103 0) + (1 - way)), ov_i 0, ov_r 103]) (pc2 := 128) b_253_124_4 rfl rfl ?_
          refine ov_havw (fun w68 gw68 qw68 => ?_)
          refine ov_iast d_253_128 (zb_103 I66) (zs_103 I66) (by omega) ?_
          have I69 := ua_103 (k := 0) (x := w68) I66 (by refine ⟨?_, ?_, ?_, ?_, ?_, ?_⟩ <;> omega)
          refine ov_blk (ls2 := [(0, ov_r 90), (1, ov_i way), (2, ov_i run), (3, ov_i (h 103 0)), (4, ov_i (h 103 1))]) (st2 := [ov_r 90]) (pc2 := 130) b_253_129_1 rfl rfl ?_
          refine ov_getf (v := ov_r 103) d_253_130 fl_Mo_102 (zb_90 I69) (zs_90 I69) (congrArg ov_r (rg_90_19 I69)) ?_
          refine ov_blk (ls2 := [(0, ov_r 90), (1, ov_i way), (2, ov_i run), (3, ov_i (h 103 0)), (4, ov_i (h 103 1))]) (st2 := [ov_i 1, ov_r 103, ov_i 1, ov_r 103]) (pc2 := 135) b_253_133_2 rfl rfl ?_
          refine ov_iald d_253_135 (zb_103 I69) (zs_103 I69) (by omega) ?_
          show ov_R u d ov_m253 136 [(0, ov_r 90), (1, ov_i way), (2, ov_i run), (3, ov_i (h 103 0)), (4, ov_i (h 103 1))] [ov_i (h36 103 1), ov_i 1, ov_r 103] z35 (ov_up (ov_up h36 103 2 w65) 103 0 w68) (P_Mo_go_90 F z h way run)
          have g70 := s103_1 I37
          refine ov_blk (ls2 := [(0, ov_r 90), (1, ov_i way), (2, ov_i run), (3, ov_i (h 103 0)), (4, ov_i (h 103 1))]) (st2 := [ov_i ((h36 103 1) + way), ov_i 1, ov_r 103]) (pc2 := 138) b_253_136_2 rfl rfl ?_
          refine ov_havw (fun w71 gw71 qw71 => ?_)
          refine ov_iast d_253_138 (zb_103 I69) (zs_103 I69) (by omega) ?_
          have I72 := ua_103 (k := 1) (x := w71) I69 (by refine ⟨?_, ?_, ?_, ?_, ?_, ?_⟩ <;> omega)
          refine ov_blk (ls2 := [(0, ov_r 90), (1, ov_i way), (2, ov_i run), (3, ov_i (h 103 0)), (4, ov_i (h 103 1))]) (st2 := [ov_r 90]) (pc2 := 140) b_253_139_1 rfl rfl ?_
          refine ov_getf (v := ov_r 103) d_253_140 fl_Mo_102 (zb_90 I72) (zs_90 I72) (congrArg ov_r (rg_90_19 I72)) ?_
          refine ov_blk (ls2 := [(0, ov_r 90), (1, ov_i way), (2, ov_i run), (3, ov_i (h 103 0)), (4, ov_i (h 103 1))]) (st2 := [ov_i 3, ov_r 103, ov_i 3, ov_r 103]) (pc2 := 145) b_253_143_2 rfl rfl ?_
          refine ov_iald d_253_145 (zb_103 I72) (zs_103 I72) (by omega) ?_
          show ov_R u d ov_m253 146 [(0, ov_r 90), (1, ov_i way), (2, ov_i run), (3, ov_i (h 103 0)), (4, ov_i (h 103 1))] [ov_i (h36 103 3), ov_i 3, ov_r 103] z35 (ov_up (ov_up (ov_up h36 103 2 w65) 103 0 w68) 103 1 w71) (P_Mo_go_90 F z h way run)
          have g73 := g103 I37 3
          refine ov_blk (ls2 := [(0, ov_r 90), (1, ov_i way), (2, ov_i run), (3, ov_i (h 103 0)), (4, ov_i (h 103 1))]) (st2 := [ov_i run, ov_i (h36 103 3), ov_i 3, ov_r 103]) (pc2 := 147) b_253_146_1 rfl rfl ?_
          refine ov_ifeq (tgt := 154) d_253_147 (by decide) (by omega) (fun c74 => ?_) (fun c74 => ?_)
          · skip
            refine ov_blk (ls2 := [(0, ov_r 90), (1, ov_i way), (2, ov_i run), (3, ov_i (h 103 0)), (4, ov_i (h 103 1))]) (st2 := [ov_i ((h36 103 3) + 0), ov_i 3, ov_r 103]) (pc2 := 156) b_253_154_2 rfl rfl ?_
            refine ov_havw (fun w75 gw75 qw75 => ?_)
            refine ov_iast d_253_156 (zb_103 I72) (zs_103 I72) (by omega) ?_
            have I76 := ua_103 (k := 3) (x := w75) I72 (by refine ⟨?_, ?_, ?_, ?_, ?_, ?_⟩ <;> omega)
            refine ov_blk (ls2 := [(0, ov_r 90), (1, ov_i way), (2, ov_i run), (3, ov_i (h 103 0)), (4, ov_i (h 103 1))]) (st2 := [ov_r 90]) (pc2 := 158) b_253_157_1 rfl rfl ?_
            refine ov_getf (v := ov_r 103) d_253_158 fl_Mo_102 (zb_90 I76) (zs_90 I76) (congrArg ov_r (rg_90_19 I76)) ?_
            refine ov_blk (ls2 := [(0, ov_r 90), (1, ov_i way), (2, ov_i run), (3, ov_i (h 103 0)), (4, ov_i (h 103 1))]) (st2 := [ov_i 2, ov_r 103]) (pc2 := 162) b_253_161_1 rfl rfl ?_
            refine ov_iald d_253_162 (zb_103 I76) (zs_103 I76) (by omega) ?_
            show ov_R u d ov_m253 163 [(0, ov_r 90), (1, ov_i way), (2, ov_i run), (3, ov_i (h 103 0)), (4, ov_i (h 103 1))] [ov_i w65] z35 (ov_up (ov_up (ov_up (ov_up h36 103 2 w65) 103 0 w68) 103 1 w71) 103 3 w75) (P_Mo_go_90 F z h way run)
            exact ov_reti (st := []) d_253_163 rfl ⟨_, rfl, I76, (by show (h36 90 2) = (h 90 2) ∧ (h36 90 7) = (h 90 7) ∧ (h36 90 8) = (h 90 8) ∧ (h36 90 13) = (h 90 13) ∧ (h36 90 22) = (h 90 22) ∧ (h36 90 25) = (h 90 25) ∧ (h36 90 26) = (h 90 26) ∧ (h36 90 28) = (h 90 28) ∧ (h36 90 29) = (h 90 29) ∧ (h36 90 30) = (h 90 30) ∧ (h36 90 34) = (h 90 34) ∧ -2147483648 ≤ w65 ∧ w65 ≤ 2147483647; omega), E38, E39, E40, E41, E42, E43, E44, E45, E46, E47, E48, E49, E50, E51, E52, (fun j h1 h2 => by show (ov_up (ov_up (ov_up (ov_up h36 103 2 w65) 103 0 w68) 103 1 w71) 103 3 w75) 103 j = h 103 j; rw [ov_up_j (by omega)]; rw [ov_up_j (by omega)]; rw [ov_up_j (by omega)]; rw [ov_up_j (by omega)]; exact y34_ j (by omega))⟩
          · omega
        · omega
      · skip
        refine ov_blk (ls2 := [(0, ov_r 90), (1, ov_i way), (2, ov_i run), (3, ov_i (h 103 0)), (4, ov_i (h 103 1))]) (st2 := [ov_r 90]) (pc2 := 45) b_253_44_1 rfl rfl ?_
        refine ov_getf (v := ov_r 96) d_253_45 fl_Mo_81 (zb_90 I1) (zs_90 I1) (congrArg ov_r (rg_90_10 I1)) ?_
        refine ov_blk (ls2 := [(0, ov_r 90), (1, ov_i way), (2, ov_i run), (3, ov_i (h 103 0)), (4, ov_i (h 103 1))]) (st2 := [ov_i 6, ov_r 96]) (pc2 := 50) b_253_48_1 rfl rfl ?_
        refine ov_iald d_253_50 (zb_96 I1) (zs_96 I1) (by omega) ?_
        show ov_R u d ov_m253 51 [(0, ov_r 90), (1, ov_i way), (2, ov_i run), (3, ov_i (h 103 0)), (4, ov_i (h 103 1))] [ov_i (h 96 6)] z (ov_up h 90 0 0) (P_Mo_go_90 F z h way run)
        have g77 := t96_6 I
        refine ov_blk (ls2 := [(0, ov_r 90), (1, ov_i way), (2, ov_i run), (3, ov_i (h 103 0)), (4, ov_i (h 103 1))]) (st2 := [ov_i 1, ov_i (h 96 6)]) (pc2 := 52) b_253_51_1 rfl rfl ?_
        refine ov_iceq (tgt := 70) d_253_52 (by decide) (by omega) (by omega) (fun c78 => ?_) (fun c78 => ?_)
        · skip
          refine ov_blk (ls2 := [(0, ov_r 90), (1, ov_i way), (2, ov_i run), (3, ov_i (h 103 0)), (4, ov_i (h 103 1))]) (st2 := [ov_i (-1)]) (pc2 := 71) b_253_70_1 rfl rfl ?_
          exact ov_reti (st := []) d_253_71 rfl ⟨_, rfl, I1, ⟨rfl, rfl, rfl, rfl, rfl, rfl, rfl, rfl, rfl, rfl, rfl, (by show -2147483648 ≤ (-1) ∧ (-1) ≤ 2147483647; omega)⟩, rfl, rfl, rfl, rfl, rfl, rfl, rfl, rfl, rfl, rfl, rfl, rfl, rfl, rfl, rfl, (fun j h1 h2 => rfl)⟩
        · skip
          refine ov_blk (ls2 := [(0, ov_r 90), (1, ov_i way), (2, ov_i run), (3, ov_i (h 103 0)), (4, ov_i (h 103 1))]) (st2 := [ov_r 90]) (pc2 := 56) b_253_55_1 rfl rfl ?_
          refine ov_getf (v := ov_r 103) d_253_56 fl_Mo_102 (zb_90 I1) (zs_90 I1) (congrArg ov_r (rg_90_19 I1)) ?_
          refine ov_blk (ls2 := [(0, ov_r 90), (1, ov_i way), (2, ov_i run), (3, ov_i (h 103 0)), (4, ov_i (h 103 1))]) (st2 := [ov_i 3, ov_r 103]) (pc2 := 60) b_253_59_1 rfl rfl ?_
          refine ov_iald d_253_60 (zb_103 I1) (zs_103 I1) (by omega) ?_
          show ov_R u d ov_m253 61 [(0, ov_r 90), (1, ov_i way), (2, ov_i run), (3, ov_i (h 103 0)), (4, ov_i (h 103 1))] [ov_i (h 103 3)] z (ov_up h 90 0 0) (P_Mo_go_90 F z h way run)
          have g79 := g103 I 3
          refine ov_blk (ls2 := [(0, ov_r 90), (1, ov_i way), (2, ov_i run), (3, ov_i (h 103 0)), (4, ov_i (h 103 1))]) (st2 := [ov_r 90, ov_i (h 103 3)]) (pc2 := 62) b_253_61_1 rfl rfl ?_
          refine ov_getf (v := ov_r 96) d_253_62 fl_Mo_81 (zb_90 I1) (zs_90 I1) (congrArg ov_r (rg_90_10 I1)) ?_
          refine ov_blk (ls2 := [(0, ov_r 90), (1, ov_i way), (2, ov_i run), (3, ov_i (h 103 0)), (4, ov_i (h 103 1))]) (st2 := [ov_i 5, ov_r 96, ov_i (h 103 3)]) (pc2 := 66) b_253_65_1 rfl rfl ?_
          refine ov_iald d_253_66 (zb_96 I1) (zs_96 I1) (by omega) ?_
          show ov_R u d ov_m253 67 [(0, ov_r 90), (1, ov_i way), (2, ov_i run), (3, ov_i (h 103 0)), (4, ov_i (h 103 1))] [ov_i (h 96 5), ov_i (h 103 3)] z (ov_up h 90 0 0) (P_Mo_go_90 F z h way run)
          have g80 := t96_5 I
          refine ov_icne (tgt := 72) d_253_67 (by decide) (by omega) (by omega) (fun c81 => ?_) (fun c81 => ?_)
          · skip
            refine ov_blk (ls2 := [(0, ov_r 90), (1, ov_i way), (2, ov_i run), (3, ov_i (h 103 0)), (4, ov_i (h 103 1))]) (st2 := [ov_r 90]) (pc2 := 73) b_253_72_1 rfl rfl ?_
            refine ov_cV (as := []) (st := []) (d2 := d - 1) d_253_73 lk_Mo_329 rfl (Nat.le_of_ble_eq_true rfl) (c := 1) (zb_90 I1) (zs_90 I1) ⟨by decide, rfl⟩ (by omega) (c_Mo_keeps_90 (d - 1) (by omega) U I1) ?_
            rintro _ z99 h100 ⟨rfl, I101, f82, e83, e84, e85, e86, e87, e88, e89, e90, e91, e92, e93, e94, e95, e96, e97, y98⟩
            have E102 : h100 91 = h 91 := e83
            have E103 : h100 92 = h 92 := e84
            have E104 : h100 93 = h 93 := e85
            have E105 : h100 94 = h 94 := e86
            have E106 : h100 95 = h 95 := e87
            have E107 : h100 96 = h 96 := e88
            have E108 : h100 97 = h 97 := e89
            have E109 : h100 98 = h 98 := e90
            have E110 : h100 99 = h 99 := e91
            have E111 : h100 100 = h 100 := e92
            have E112 : h100 104 = h 104 := e93
            have E113 : h100 105 = h 105 := e94
            have E114 : h100 106 = h 106 := e95
            have E115 : h100 109 = h 109 := e96
            have E116 : h100 114 = h 114 := e97
            show ov_R u d ov_m253 76 [(0, ov_r 90), (1, ov_i way), (2, ov_i run), (3, ov_i (h 103 0)), (4, ov_i (h 103 1))] [] z99 h100 (P_Mo_go_90 F z h way run)
            have f117 : (h100 90 2) = (h 90 2) ∧ (h100 90 7) = (h 90 7) ∧ (h100 90 8) = (h 90 8) ∧ (h100 90 13) = (h 90 13) ∧ (h100 90 22) = (h 90 22) ∧ (h100 90 25) = (h 90 25) ∧ (h100 90 26) = (h 90 26) ∧ (h100 90 28) = (h 90 28) ∧ (h100 90 29) = (h 90 29) ∧ (h100 90 30) = (h 90 30) ∧ (h100 90 34) = (h 90 34) := f82
            clear f82
            have y98_ : ∀ j : Int, j < 600 → (h100 103) j = (h 103) j := y98
            have xg0 := y98_ 0 (by decide)
            have xg1 := y98_ 1 (by decide)
            have xg2 := y98_ 2 (by decide)
            have xg3 := y98_ 3 (by decide)
            refine ov_blk (ls2 := [(0, ov_r 90), (1, ov_i way), (2, ov_i run), (3, ov_i (h 103 0)), (4, ov_i (h 103 1))]) (st2 := [ov_r 90]) (pc2 := 77) b_253_76_1 rfl rfl ?_
            refine ov_getf (v := ov_r 103) d_253_77 fl_Mo_102 (zb_90 I101) (zs_90 I101) (congrArg ov_r (rg_90_19 I101)) ?_
            refine ov_blk (ls2 := [(0, ov_r 90), (1, ov_i way), (2, ov_i run), (3, ov_i (h 103 0)), (4, ov_i (h 103 1))]) (st2 := [ov_i 2, ov_r 103, ov_i 2, ov_r 103]) (pc2 := 82) b_253_80_2 rfl rfl ?_
            refine ov_iald d_253_82 (zb_103 I101) (zs_103 I101) (by omega) ?_
            have g118 := s103_2 I101
            refine ov_blk (ls2 := [(0, ov_r 90), (1, ov_i way), (2, ov_i run), (3, ov_i (h 103 0)), (4, ov_i (h 103 1))]) (st2 := [ov_r 90, ov_i way, ov_i (h 103 1), ov_i (h 103 0), ov_r 90, ov_i (h100 103 2), ov_i 2, ov_r 103]) (pc2 := 89) b_253_83_5 rfl rfl ?_
            refine ov_getf (v := ov_r 103) d_253_89 fl_Mo_102 (zb_90 I101) (zs_90 I101) (congrArg ov_r (rg_90_19 I101)) ?_
            refine ov_blk (ls2 := [(0, ov_r 90), (1, ov_i way), (2, ov_i run), (3, ov_i (h 103 0)), (4, ov_i (h 103 1))]) (st2 := [ov_i 2, ov_r 103, ov_i way, ov_i (h 103 1), ov_i (h 103 0), ov_r 90, ov_i (h100 103 2), ov_i 2, ov_r 103]) (pc2 := 93) b_253_92_1 rfl rfl ?_
            refine ov_iald d_253_93 (zb_103 I101) (zs_103 I101) (by omega) ?_
            have cf120 : h100 96 (10 + 4 * (6 * (h 103 1) + (h 103 0))) = h 96 (10 + 4 * (6 * (h 103 1) + (h 103 0))) := congrFun E107 (10 + 4 * (6 * (h 103 1) + (h 103 0)))
            have cf121 : h100 96 (10 + 4 * (6 * (h 103 1) + (h 103 0)) + 3) = h 96 (10 + 4 * (6 * (h 103 1) + (h 103 0)) + 3) := congrFun E107 (10 + 4 * (6 * (h 103 1) + (h 103 0)) + 3)
            have cf122 : h100 96 (10 + 4 * (6 * (h 103 1) + (h 103 0)) + 1) = h 96 (10 + 4 * (6 * (h 103 1) + (h 103 0)) + 1) := congrFun E107 (10 + 4 * (6 * (h 103 1) + (h 103 0)) + 1)
            refine ov_cV (as := [ov_i (h 103 0), ov_i (h 103 1), ov_i way, ov_i (h100 103 2)]) (st := [ov_i (h100 103 2), ov_i 2, ov_r 103]) (d2 := d - 1) d_253_94 lk_Mo_315 rfl (Nat.le_of_ble_eq_true rfl) (c := 1) (zb_90 I101) (zs_90 I101) ⟨by decide, rfl⟩ (by omega) (c_Mo_waitFor_90 (d - 1) (by omega) U I101 (h 103 0) (h 103 1) way (h100 103 2) (by omega) (by omega) (by omega) (by omega) (by omega) (by omega) (by omega) (by show (((h100 96 (10 + 4 * (6 * (h 103 1) + (h 103 0)))) = 1 ∨ (h100 96 (10 + 4 * (6 * (h 103 1) + (h 103 0)))) = 2) → (way = 0 → 0 < (h100 96 (10 + 4 * (6 * (h 103 1) + (h 103 0)) + 3))) ∧ (¬ way = 0 → (h100 96 (10 + 4 * (6 * (h 103 1) + (h 103 0)) + 3)) < (h100 96 (10 + 4 * (6 * (h 103 1) + (h 103 0)) + 1)))); omega) (by rw [show h100 96 = h 96 from E107]; exact W)) ?_
            rintro _ _ _ ⟨v124, rfl, rfl, rfl, f123⟩
            show ov_R u d ov_m253 97 [(0, ov_r 90), (1, ov_i way), (2, ov_i run), (3, ov_i (h 103 0)), (4, ov_i (h 103 1))] [ov_i v124, ov_i (h100 103 2), ov_i 2, ov_r 103] z99 h100 (P_Mo_go_90 F z h way run)
            rw [show h100 96 = h 96 from E107] at f123
            have f125 : 0 ≤ v124 ∧ v124 ≤ 59 ∧ v124 = ov_wm (h 96) (6 * (h 103 1) + (h 103 0)) way (h100 103 2) := f123
            clear f123
            refine ov_blk (ls2 := [(0, ov_r 90), (1, ov_i way), (2, ov_i run), (3, ov_i (h 103 0)), (4, ov_i (h 103 1))]) (st2 := [ov_i run, ov_i v124, ov_i (h100 103 2), ov_i 2, ov_r 103]) (pc2 := 98) b_253_97_1 rfl rfl ?_
            refine ov_ifeq (tgt := 108) d_253_98 (by decide) (by omega) (fun c126 => ?_) (fun c126 => ?_)
            · omega
            · skip
              refine ov_blk (ls2 := [(0, ov_r 90), (1, ov_i way), (2, ov_i run), (3, ov_i (h 103 0)), (4, ov_i (h 103 1))]) (st2 := [ov_r 90, ov_i v124, ov_i (h100 103 2), ov_i 2, ov_r 103]) (pc2 := 102) b_253_101_1 rfl rfl ?_
              refine ov_cV (as := []) (st := [ov_i v124, ov_i (h100 103 2), ov_i 2, ov_r 103]) (d2 := d - 1) d_253_102 lk_Mo_332 rfl (Nat.le_of_ble_eq_true rfl) (c := 1) (zb_90 I101) (zs_90 I101) ⟨by decide, rfl⟩ (by omega) (c_Mo_runTime_90 (d - 1) (by omega) U I101) ?_
              rintro _ _ _ ⟨v128, rfl, rfl, rfl, f127⟩
              show ov_R u d ov_m253 105 [(0, ov_r 90), (1, ov_i way), (2, ov_i run), (3, ov_i (h 103 0)), (4, ov_i (h 103 1))] [ov_i v128, ov_i v124, ov_i (h100 103 2), ov_i 2, ov_r 103] z99 h100 (P_Mo_go_90 F z h way run)
              have f129 : 0 ≤ v128 ∧ v128 ≤ 30 := f127
              clear f127
              refine ov_goto (tgt := 114) d_253_105 (by decide) ?_
              refine ov_blk (ls2 := [(0, ov_r 90), (1, ov_i way), (2, ov_i run), (3, ov_i (h 103 0)), (4, ov_i (h 103 1))]) (st2 := [ov_i (v124 + v128), ov_i (h100 103 2), ov_i 2, ov_r 103]) (pc2 := 115) b_253_114_1 rfl rfl ?_
              refine ov_havw (fun w130 gw130 qw130 => ?_)
              refine ov_blk (ls2 := [(0, ov_r 90), (1, ov_i way), (2, ov_i run), (3, ov_i (h 103 0)), (4, ov_i (h 103 1))]) (st2 := [ov_i ((h100 103 2) + w130), ov_i 2, ov_r 103]) (pc2 := 116) b_253_115_1 rfl rfl ?_
              refine ov_havw (fun w131 gw131 qw131 => ?_)
              refine ov_iast d_253_116 (zb_103 I101) (zs_103 I101) (by omega) ?_
              have I132 := ua_103 (k := 2) (x := w131) I101 (by refine ⟨?_, ?_, ?_, ?_, ?_, ?_⟩ <;> omega)
              refine ov_blk (ls2 := [(0, ov_r 90), (1, ov_i way), (2, ov_i run), (3, ov_i (h 103 0)), (4, ov_i (h 103 1))]) (st2 := [ov_r 90]) (pc2 := 118) b_253_117_1 rfl rfl ?_
              refine ov_getf (v := ov_r 103) d_253_118 fl_Mo_102 (zb_90 I132) (zs_90 I132) (congrArg ov_r (rg_90_19 I132)) ?_
              refine ov_blk (ls2 := [(0, ov_r 90), (1, ov_i way), (2, ov_i run), (3, ov_i (h 103 0)), (4, ov_i (h 103 1))]) (st2 := [ov_i 0, ov_r 103, ov_i 0, ov_r 103]) (pc2 := 123) b_253_121_2 rfl rfl ?_
              refine ov_iald d_253_123 (zb_103 I132) (zs_103 I132) (by omega) ?_
              show ov_R u d ov_m253 124 [(0, ov_r 90), (1, ov_i way), (2, ov_i run), (3, ov_i (h 103 0)), (4, ov_i (h 103 1))] [ov_i (h100 103 0), ov_i 0, ov_r 103] z99 (ov_up h100 103 2 w131) (P_Mo_go_90 F z h way run)
              have g133 := s103_0 I101
              refine ov_blk (ls2 := [(0, ov_r 90), (1, ov_i way), (2, ov_i run), (3, ov_i (h 103 0)), (4, ov_i (h 103 1))]) (st2 := [ov_i ((h100 103 0) + (1 - way)), ov_i 0, ov_r 103]) (pc2 := 128) b_253_124_4 rfl rfl ?_
              refine ov_havw (fun w134 gw134 qw134 => ?_)
              refine ov_iast d_253_128 (zb_103 I132) (zs_103 I132) (by omega) ?_
              have I135 := ua_103 (k := 0) (x := w134) I132 (by refine ⟨?_, ?_, ?_, ?_, ?_, ?_⟩ <;> omega)
              refine ov_blk (ls2 := [(0, ov_r 90), (1, ov_i way), (2, ov_i run), (3, ov_i (h 103 0)), (4, ov_i (h 103 1))]) (st2 := [ov_r 90]) (pc2 := 130) b_253_129_1 rfl rfl ?_
              refine ov_getf (v := ov_r 103) d_253_130 fl_Mo_102 (zb_90 I135) (zs_90 I135) (congrArg ov_r (rg_90_19 I135)) ?_
              refine ov_blk (ls2 := [(0, ov_r 90), (1, ov_i way), (2, ov_i run), (3, ov_i (h 103 0)), (4, ov_i (h 103 1))]) (st2 := [ov_i 1, ov_r 103, ov_i 1, ov_r 103]) (pc2 := 135) b_253_133_2 rfl rfl ?_
              refine ov_iald d_253_135 (zb_103 I135) (zs_103 I135) (by omega) ?_
              show ov_R u d ov_m253 136 [(0, ov_r 90), (1, ov_i way), (2, ov_i run), (3, ov_i (h 103 0)), (4, ov_i (h 103 1))] [ov_i (h100 103 1), ov_i 1, ov_r 103] z99 (ov_up (ov_up h100 103 2 w131) 103 0 w134) (P_Mo_go_90 F z h way run)
              have g136 := s103_1 I101
              refine ov_blk (ls2 := [(0, ov_r 90), (1, ov_i way), (2, ov_i run), (3, ov_i (h 103 0)), (4, ov_i (h 103 1))]) (st2 := [ov_i ((h100 103 1) + way), ov_i 1, ov_r 103]) (pc2 := 138) b_253_136_2 rfl rfl ?_
              refine ov_havw (fun w137 gw137 qw137 => ?_)
              refine ov_iast d_253_138 (zb_103 I135) (zs_103 I135) (by omega) ?_
              have I138 := ua_103 (k := 1) (x := w137) I135 (by refine ⟨?_, ?_, ?_, ?_, ?_, ?_⟩ <;> omega)
              refine ov_blk (ls2 := [(0, ov_r 90), (1, ov_i way), (2, ov_i run), (3, ov_i (h 103 0)), (4, ov_i (h 103 1))]) (st2 := [ov_r 90]) (pc2 := 140) b_253_139_1 rfl rfl ?_
              refine ov_getf (v := ov_r 103) d_253_140 fl_Mo_102 (zb_90 I138) (zs_90 I138) (congrArg ov_r (rg_90_19 I138)) ?_
              refine ov_blk (ls2 := [(0, ov_r 90), (1, ov_i way), (2, ov_i run), (3, ov_i (h 103 0)), (4, ov_i (h 103 1))]) (st2 := [ov_i 3, ov_r 103, ov_i 3, ov_r 103]) (pc2 := 145) b_253_143_2 rfl rfl ?_
              refine ov_iald d_253_145 (zb_103 I138) (zs_103 I138) (by omega) ?_
              show ov_R u d ov_m253 146 [(0, ov_r 90), (1, ov_i way), (2, ov_i run), (3, ov_i (h 103 0)), (4, ov_i (h 103 1))] [ov_i (h100 103 3), ov_i 3, ov_r 103] z99 (ov_up (ov_up (ov_up h100 103 2 w131) 103 0 w134) 103 1 w137) (P_Mo_go_90 F z h way run)
              have g139 := g103 I101 3
              refine ov_blk (ls2 := [(0, ov_r 90), (1, ov_i way), (2, ov_i run), (3, ov_i (h 103 0)), (4, ov_i (h 103 1))]) (st2 := [ov_i run, ov_i (h100 103 3), ov_i 3, ov_r 103]) (pc2 := 147) b_253_146_1 rfl rfl ?_
              refine ov_ifeq (tgt := 154) d_253_147 (by decide) (by omega) (fun c140 => ?_) (fun c140 => ?_)
              · omega
              · skip
                refine ov_blk (ls2 := [(0, ov_r 90), (1, ov_i way), (2, ov_i run), (3, ov_i (h 103 0)), (4, ov_i (h 103 1))]) (st2 := [ov_i 1, ov_i (h100 103 3), ov_i 3, ov_r 103]) (pc2 := 151) b_253_150_1 rfl rfl ?_
                refine ov_goto (tgt := 155) d_253_151 (by decide) ?_
                refine ov_blk (ls2 := [(0, ov_r 90), (1, ov_i way), (2, ov_i run), (3, ov_i (h 103 0)), (4, ov_i (h 103 1))]) (st2 := [ov_i ((h100 103 3) + 1), ov_i 3, ov_r 103]) (pc2 := 156) b_253_155_1 rfl rfl ?_
                refine ov_havw (fun w141 gw141 qw141 => ?_)
                refine ov_iast d_253_156 (zb_103 I138) (zs_103 I138) (by omega) ?_
                have I142 := ua_103 (k := 3) (x := w141) I138 (by refine ⟨?_, ?_, ?_, ?_, ?_, ?_⟩ <;> omega)
                refine ov_blk (ls2 := [(0, ov_r 90), (1, ov_i way), (2, ov_i run), (3, ov_i (h 103 0)), (4, ov_i (h 103 1))]) (st2 := [ov_r 90]) (pc2 := 158) b_253_157_1 rfl rfl ?_
                refine ov_getf (v := ov_r 103) d_253_158 fl_Mo_102 (zb_90 I142) (zs_90 I142) (congrArg ov_r (rg_90_19 I142)) ?_
                refine ov_blk (ls2 := [(0, ov_r 90), (1, ov_i way), (2, ov_i run), (3, ov_i (h 103 0)), (4, ov_i (h 103 1))]) (st2 := [ov_i 2, ov_r 103]) (pc2 := 162) b_253_161_1 rfl rfl ?_
                refine ov_iald d_253_162 (zb_103 I142) (zs_103 I142) (by omega) ?_
                show ov_R u d ov_m253 163 [(0, ov_r 90), (1, ov_i way), (2, ov_i run), (3, ov_i (h 103 0)), (4, ov_i (h 103 1))] [ov_i w131] z99 (ov_up (ov_up (ov_up (ov_up h100 103 2 w131) 103 0 w134) 103 1 w137) 103 3 w141) (P_Mo_go_90 F z h way run)
                exact ov_reti (st := []) d_253_163 rfl ⟨_, rfl, I142, (by show (h100 90 2) = (h 90 2) ∧ (h100 90 7) = (h 90 7) ∧ (h100 90 8) = (h 90 8) ∧ (h100 90 13) = (h 90 13) ∧ (h100 90 22) = (h 90 22) ∧ (h100 90 25) = (h 90 25) ∧ (h100 90 26) = (h 90 26) ∧ (h100 90 28) = (h 90 28) ∧ (h100 90 29) = (h 90 29) ∧ (h100 90 30) = (h 90 30) ∧ (h100 90 34) = (h 90 34) ∧ -2147483648 ≤ w131 ∧ w131 ≤ 2147483647; omega), E102, E103, E104, E105, E106, E107, E108, E109, E110, E111, E112, E113, E114, E115, E116, (fun j h1 h2 => by show (ov_up (ov_up (ov_up (ov_up h100 103 2 w131) 103 0 w134) 103 1 w137) 103 3 w141) 103 j = h 103 j; rw [ov_up_j (by omega)]; rw [ov_up_j (by omega)]; rw [ov_up_j (by omega)]; rw [ov_up_j (by omega)]; exact y98_ j (by omega))⟩
          · skip
            refine ov_blk (ls2 := [(0, ov_r 90), (1, ov_i way), (2, ov_i run), (3, ov_i (h 103 0)), (4, ov_i (h 103 1))]) (st2 := [ov_i (-1)]) (pc2 := 71) b_253_70_1 rfl rfl ?_
            exact ov_reti (st := []) d_253_71 rfl ⟨_, rfl, I1, ⟨rfl, rfl, rfl, rfl, rfl, rfl, rfl, rfl, rfl, rfl, rfl, (by show -2147483648 ≤ (-1) ∧ (-1) ≤ 2147483647; omega)⟩, rfl, rfl, rfl, rfl, rfl, rfl, rfl, rfl, rfl, rfl, rfl, rfl, rfl, rfl, rfl, (fun j h1 h2 => rfl)⟩
abbrev P_Mo_stay_90 (F : ov_H × ov_Z) (z : ov_Z) (h : ov_H) (m : Int) : Option ov_V → ov_Z → ov_H → Prop := fun r0 z' h' => ∃ r : Int, r0 = some (ov_i r) ∧ ov_N F z' h' ∧ ((h' 90 2) = (h 90 2) ∧ (h' 90 7) = (h 90 7) ∧ (h' 90 8) = (h 90 8) ∧ (h' 90 13) = (h 90 13) ∧ (h' 90 22) = (h 90 22) ∧ (h' 90 25) = (h 90 25) ∧ (h' 90 26) = (h 90 26) ∧ (h' 90 28) = (h 90 28) ∧ (h' 90 29) = (h 90 29) ∧ (h' 90 30) = (h 90 30) ∧ (h' 90 34) = (h 90 34) ∧ -2147483648 ≤ r ∧ r ≤ 2147483647) ∧ h' 91 = h 91 ∧ h' 92 = h 92 ∧ h' 93 = h 93 ∧ h' 94 = h 94 ∧ h' 95 = h 95 ∧ h' 96 = h 96 ∧ h' 97 = h 97 ∧ h' 98 = h 98 ∧ h' 99 = h 99 ∧ h' 100 = h 100 ∧ h' 104 = h 104 ∧ h' 105 = h 105 ∧ h' 106 = h 106 ∧ h' 109 = h 109 ∧ h' 114 = h 114 ∧ (∀ j : Int, 4 ≤ j → j ≤ 57 → (h' 103) j = (h 103) j)
set_option maxHeartbeats 4000000 in
theorem c_Mo_stay_90 {u : ov_U} {F : ov_H × ov_Z} {z : ov_Z} {h : ov_H} (d : Nat) (hd : 2 ≤ d) (U : ov_cap u) (I : ov_N F z h) (m : Int) (g_m : ov_g m) (p0 : (h 103 2) ≤ ov_bd F - 1000) (p1 : 0 ≤ ov_bd F ∧ ov_bd F ≤ 800000000) : ov_T u d ov_m257 [ov_r 90, ov_i m] z h (P_Mo_stay_90 F z h m) := by
  refine ov_en rfl (Nat.le_of_ble_eq_true rfl) ?_
  show ov_R u d ov_m257 0 [(0, ov_r 90), (1, ov_i m)] [] z h (P_Mo_stay_90 F z h m)
  refine ov_blk (ls2 := [(0, ov_r 90), (1, ov_i m)]) (st2 := [ov_i 0, ov_r 90]) (pc2 := 2) b_257_0_2 rfl rfl ?_
  refine ov_putf (x := 0) d_257_2 fl_Mo_1 (zb_90 I) (zs_90 I) rfl nk_0 rfl ?_
  have I1 := up_90_0 (x := 0) I (by omega)
  refine ov_blk (ls2 := [(0, ov_r 90), (1, ov_i m)]) (st2 := [ov_i 1000, ov_i 1, ov_i m]) (pc2 := 10) b_257_5_3 rfl rfl ?_
  refine ov_cS (as := [ov_i m, ov_i 1, ov_i 1000]) (st := []) (d2 := d - 1) d_257_10 lk_Mo_299 rfl (Nat.le_of_ble_eq_true rfl) (by omega) (c_Mo_within (d - 1) (by omega) U I1 m 1 1000 (by omega) (by omega) (by omega)) ?_
  rintro _ _ _ ⟨v3, rfl, rfl, rfl, f2⟩
  show ov_R u d ov_m257 13 [(0, ov_r 90), (1, ov_i m)] [ov_i v3] z (ov_up h 90 0 0) (P_Mo_stay_90 F z h m)
  have f4 : (v3 = 0 ∨ v3 = 1) ∧ (v3 = 1 → (1 : Int) ≤ m ∧ m ≤ (1000 : Int)) ∧ (v3 = 0 → m < (1 : Int) ∨ (1000 : Int) < m) := f2
  clear f2
  refine ov_ifne (tgt := 18) d_257_13 (by decide) (by omega) (fun c5 => ?_) (fun c5 => ?_)
  · skip
    have f4_ : v3 = 1 := by omega
    have f6 : (1 : Int) ≤ m ∧ m ≤ (1000 : Int) := f4.2.1 (by omega)
    clear f4
    refine ov_blk (ls2 := [(0, ov_r 90), (1, ov_i m)]) (st2 := [ov_r 90]) (pc2 := 19) b_257_18_1 rfl rfl ?_
    refine ov_cV (as := []) (st := []) (d2 := d - 1) d_257_19 lk_Mo_329 rfl (Nat.le_of_ble_eq_true rfl) (c := 1) (zb_90 I1) (zs_90 I1) ⟨by decide, rfl⟩ (by omega) (c_Mo_keeps_90 (d - 1) (by omega) U I1) ?_
    rintro _ z24 h25 ⟨rfl, I26, f7, e8, e9, e10, e11, e12, e13, e14, e15, e16, e17, e18, e19, e20, e21, e22, y23⟩
    have E27 : h25 91 = h 91 := e8
    have E28 : h25 92 = h 92 := e9
    have E29 : h25 93 = h 93 := e10
    have E30 : h25 94 = h 94 := e11
    have E31 : h25 95 = h 95 := e12
    have E32 : h25 96 = h 96 := e13
    have E33 : h25 97 = h 97 := e14
    have E34 : h25 98 = h 98 := e15
    have E35 : h25 99 = h 99 := e16
    have E36 : h25 100 = h 100 := e17
    have E37 : h25 104 = h 104 := e18
    have E38 : h25 105 = h 105 := e19
    have E39 : h25 106 = h 106 := e20
    have E40 : h25 109 = h 109 := e21
    have E41 : h25 114 = h 114 := e22
    show ov_R u d ov_m257 22 [(0, ov_r 90), (1, ov_i m)] [] z24 h25 (P_Mo_stay_90 F z h m)
    have f42 : (h25 90 2) = (h 90 2) ∧ (h25 90 7) = (h 90 7) ∧ (h25 90 8) = (h 90 8) ∧ (h25 90 13) = (h 90 13) ∧ (h25 90 22) = (h 90 22) ∧ (h25 90 25) = (h 90 25) ∧ (h25 90 26) = (h 90 26) ∧ (h25 90 28) = (h 90 28) ∧ (h25 90 29) = (h 90 29) ∧ (h25 90 30) = (h 90 30) ∧ (h25 90 34) = (h 90 34) := f7
    clear f7
    have y23_ : ∀ j : Int, j < 600 → (h25 103) j = (h 103) j := y23
    have xg0 := y23_ 0 (by decide)
    have xg1 := y23_ 1 (by decide)
    have xg2 := y23_ 2 (by decide)
    have xg3 := y23_ 3 (by decide)
    refine ov_blk (ls2 := [(0, ov_r 90), (1, ov_i m)]) (st2 := [ov_r 90]) (pc2 := 23) b_257_22_1 rfl rfl ?_
    refine ov_getf (v := ov_r 103) d_257_23 fl_Mo_102 (zb_90 I26) (zs_90 I26) (congrArg ov_r (rg_90_19 I26)) ?_
    refine ov_blk (ls2 := [(0, ov_r 90), (1, ov_i m)]) (st2 := [ov_i 2, ov_r 103, ov_i 2, ov_r 103]) (pc2 := 28) b_257_26_2 rfl rfl ?_
    refine ov_iald d_257_28 (zb_103 I26) (zs_103 I26) (by omega) ?_
    have g43 := s103_2 I26
    refine ov_blk (ls2 := [(0, ov_r 90), (1, ov_i m)]) (st2 := [ov_i ((h25 103 2) + m), ov_i 2, ov_r 103]) (pc2 := 31) b_257_29_2 rfl rfl ?_
    refine ov_iast d_257_31 (zb_103 I26) (zs_103 I26) (by omega) ?_
    have I44 := ua_103 (k := 2) (x := ((h25 103 2) + m)) I26 (by refine ⟨?_, ?_, ?_, ?_, ?_, ?_⟩ <;> omega)
    refine ov_blk (ls2 := [(0, ov_r 90), (1, ov_i m)]) (st2 := [ov_r 90]) (pc2 := 33) b_257_32_1 rfl rfl ?_
    refine ov_getf (v := ov_r 103) d_257_33 fl_Mo_102 (zb_90 I44) (zs_90 I44) (congrArg ov_r (rg_90_19 I44)) ?_
    refine ov_blk (ls2 := [(0, ov_r 90), (1, ov_i m)]) (st2 := [ov_i 2, ov_r 103]) (pc2 := 37) b_257_36_1 rfl rfl ?_
    refine ov_iald d_257_37 (zb_103 I44) (zs_103 I44) (by omega) ?_
    show ov_R u d ov_m257 38 [(0, ov_r 90), (1, ov_i m)] [ov_i ((h25 103 2) + m)] z24 (ov_up h25 103 2 ((h25 103 2) + m)) (P_Mo_stay_90 F z h m)
    exact ov_reti (st := []) d_257_38 rfl ⟨_, rfl, I44, (by show (h25 90 2) = (h 90 2) ∧ (h25 90 7) = (h 90 7) ∧ (h25 90 8) = (h 90 8) ∧ (h25 90 13) = (h 90 13) ∧ (h25 90 22) = (h 90 22) ∧ (h25 90 25) = (h 90 25) ∧ (h25 90 26) = (h 90 26) ∧ (h25 90 28) = (h 90 28) ∧ (h25 90 29) = (h 90 29) ∧ (h25 90 30) = (h 90 30) ∧ (h25 90 34) = (h 90 34) ∧ -2147483648 ≤ ((h25 103 2) + m) ∧ ((h25 103 2) + m) ≤ 2147483647; omega), E27, E28, E29, E30, E31, E32, E33, E34, E35, E36, E37, E38, E39, E40, E41, (fun j h1 h2 => by show (ov_up h25 103 2 ((h25 103 2) + m)) 103 j = h 103 j; rw [ov_up_j (by omega)]; exact y23_ j (by omega))⟩
  · skip
    have f4_ : v3 = 0 := by omega
    have f45 : m < (1 : Int) ∨ (1000 : Int) < m := f4.2.2 (by omega)
    clear f4
    refine ov_blk (ls2 := [(0, ov_r 90), (1, ov_i m)]) (st2 := [ov_i (-1)]) (pc2 := 17) b_257_16_1 rfl rfl ?_
    exact ov_reti (st := []) d_257_17 rfl ⟨_, rfl, I1, ⟨rfl, rfl, rfl, rfl, rfl, rfl, rfl, rfl, rfl, rfl, rfl, (by show -2147483648 ≤ (-1) ∧ (-1) ≤ 2147483647; omega)⟩, rfl, rfl, rfl, rfl, rfl, rfl, rfl, rfl, rfl, rfl, rfl, rfl, rfl, rfl, rfl, (fun j h1 h2 => rfl)⟩
abbrev P_Mo_look_90 (F : ov_H × ov_Z) (z : ov_Z) (h : ov_H) : Option ov_V → ov_Z → ov_H → Prop := fun r0 z' h' => ∃ r : Int, r0 = some (ov_i r) ∧ ov_N F z' h' ∧ ((h' 90 2) = (h 90 2) ∧ (h' 90 7) = (h 90 7) ∧ (h' 90 8) = (h 90 8) ∧ (h' 90 13) = (h 90 13) ∧ (h' 90 25) = (h 90 25) ∧ (h' 90 26) = (h 90 26) ∧ (h' 90 28) = (h 90 28) ∧ (h' 90 29) = (h 90 29) ∧ (h' 90 30) = (h 90 30) ∧ (h' 90 34) = (h 90 34) ∧ (r = 0 ∨ r = 1) ∧ (h 90 22) ≤ (h' 90 22) ∧ (h' 90 22) ≤ (h 90 22) + 1) ∧ h' 91 = h 91 ∧ h' 92 = h 92 ∧ h' 93 = h 93 ∧ h' 94 = h 94 ∧ h' 95 = h 95 ∧ h' 96 = h 96 ∧ h' 97 = h 97 ∧ h' 98 = h 98 ∧ h' 99 = h 99 ∧ h' 100 = h 100 ∧ h' 104 = h 104 ∧ h' 105 = h 105 ∧ h' 106 = h 106 ∧ h' 109 = h 109 ∧ h' 114 = h 114 ∧ (((h' 90 22) = (h 90 22) ∧ (h' 103) = (h 103)) ∨ (h' 90 22) = (h 90 22) + 1)
set_option maxHeartbeats 4000000 in
theorem c_Mo_look_90 {u : ov_U} {F : ov_H × ov_Z} {z : ov_Z} {h : ov_H} (d : Nat) (hd : 2 ≤ d) (U : ov_cap u) (I : ov_N F z h) (p0 : 0 ≤ (h 90 22) ∧ (h 90 22) ≤ 2000000000) : ov_T u d ov_m258 [ov_r 90] z h (P_Mo_look_90 F z h) := by
  refine ov_en rfl (Nat.le_of_ble_eq_true rfl) ?_
  show ov_R u d ov_m258 0 [(0, ov_r 90)] [] z h (P_Mo_look_90 F z h)
  refine ov_blk (ls2 := [(0, ov_r 90)]) (st2 := [ov_i 0, ov_r 90]) (pc2 := 2) b_258_0_2 rfl rfl ?_
  refine ov_putf (x := 0) d_258_2 fl_Mo_1 (zb_90 I) (zs_90 I) rfl nk_0 rfl ?_
  have I1 := up_90_0 (x := 0) I (by omega)
  refine ov_blk (ls2 := [(0, ov_r 90)]) (st2 := [ov_r 90]) (pc2 := 6) b_258_5_1 rfl rfl ?_
  refine ov_getf (v := ov_r 103) d_258_6 fl_Mo_102 (zb_90 I1) (zs_90 I1) (congrArg ov_r (rg_90_19 I1)) ?_
  refine ov_blk (ls2 := [(0, ov_r 90)]) (st2 := [ov_i 0, ov_r 103]) (pc2 := 10) b_258_9_1 rfl rfl ?_
  refine ov_iald d_258_10 (zb_103 I1) (zs_103 I1) (by omega) ?_
  show ov_R u d ov_m258 11 [(0, ov_r 90)] [ov_i (h 103 0)] z (ov_up h 90 0 0) (P_Mo_look_90 F z h)
  have g2 := s103_0 I
  refine ov_blk (ls2 := [(0, ov_r 90), (1, ov_i (h 103 0))]) (st2 := [ov_r 90]) (pc2 := 13) b_258_11_2 rfl rfl ?_
  refine ov_getf (v := ov_r 103) d_258_13 fl_Mo_102 (zb_90 I1) (zs_90 I1) (congrArg ov_r (rg_90_19 I1)) ?_
  refine ov_blk (ls2 := [(0, ov_r 90), (1, ov_i (h 103 0))]) (st2 := [ov_i 1, ov_r 103]) (pc2 := 17) b_258_16_1 rfl rfl ?_
  refine ov_iald d_258_17 (zb_103 I1) (zs_103 I1) (by omega) ?_
  show ov_R u d ov_m258 18 [(0, ov_r 90), (1, ov_i (h 103 0))] [ov_i (h 103 1)] z (ov_up h 90 0 0) (P_Mo_look_90 F z h)
  have g3 := s103_1 I
  refine ov_blk (ls2 := [(0, ov_r 90), (1, ov_i (h 103 0)), (2, ov_i (h 103 1))]) (st2 := [ov_i (h 103 1), ov_i (h 103 0), ov_r 90]) (pc2 := 22) b_258_18_4 rfl rfl ?_
  refine ov_cV (as := [ov_i (h 103 0), ov_i (h 103 1)]) (st := []) (d2 := d - 1) d_258_22 lk_Mo_282 rfl (Nat.le_of_ble_eq_true rfl) (c := 1) (zb_90 I1) (zs_90 I1) ⟨by decide, rfl⟩ (by omega) (c_Mo_kindAt_90 (d - 1) (by omega) U I1 (h 103 0) (h 103 1) (by omega) (by omega) (by omega)) ?_
  rintro _ _ _ ⟨v5, rfl, rfl, rfl, f4⟩
  show ov_R u d ov_m258 25 [(0, ov_r 90), (1, ov_i (h 103 0)), (2, ov_i (h 103 1))] [ov_i v5] z (ov_up h 90 0 0) (P_Mo_look_90 F z h)
  have f6 : v5 = (h 96 (10 + 4 * (6 * (h 103 1) + (h 103 0)))) - 1 ∧ -1 ≤ v5 ∧ v5 ≤ 3 := f4
  clear f4
  refine ov_blk (ls2 := [(0, ov_r 90), (1, ov_i (h 103 0)), (2, ov_i (h 103 1))]) (st2 := [ov_i 1, ov_i v5]) (pc2 := 26) b_258_25_1 rfl rfl ?_
  refine ov_icne (tgt := 38) d_258_26 (by decide) (by omega) (by omega) (fun c7 => ?_) (fun c7 => ?_)
  · skip
    refine ov_blk (ls2 := [(0, ov_r 90), (1, ov_i (h 103 0)), (2, ov_i (h 103 1))]) (st2 := [ov_i 0]) (pc2 := 39) b_258_38_1 rfl rfl ?_
    exact ov_retz (st := []) d_258_39 rfl (by omega) ⟨_, rfl, I1, ⟨rfl, rfl, rfl, rfl, rfl, rfl, rfl, rfl, rfl, rfl, (by show (0 = 0 ∨ 0 = 1) ∧ (h 90 22) ≤ (h 90 22) ∧ (h 90 22) ≤ (h 90 22) + 1; omega)⟩, rfl, rfl, rfl, rfl, rfl, rfl, rfl, rfl, rfl, rfl, rfl, rfl, rfl, rfl, rfl, (Or.inl ⟨rfl, rfl⟩)⟩
  · skip
    refine ov_blk (ls2 := [(0, ov_r 90), (1, ov_i (h 103 0)), (2, ov_i (h 103 1))]) (st2 := [ov_i (h 103 1), ov_i (h 103 0), ov_r 90]) (pc2 := 32) b_258_29_3 rfl rfl ?_
    refine ov_cV (as := [ov_i (h 103 0), ov_i (h 103 1)]) (st := []) (d2 := d - 1) d_258_32 lk_Mo_302 rfl (Nat.le_of_ble_eq_true rfl) (c := 1) (zb_90 I1) (zs_90 I1) ⟨by decide, rfl⟩ (by omega) (c_Mo_isKnown_90 (d - 1) (by omega) U I1 (h 103 0) (h 103 1) (by omega) (by omega) (by omega)) ?_
    rintro _ _ _ ⟨v9, rfl, rfl, rfl, f8⟩
    show ov_R u d ov_m258 35 [(0, ov_r 90), (1, ov_i (h 103 0)), (2, ov_i (h 103 1))] [ov_i v9] z (ov_up h 90 0 0) (P_Mo_look_90 F z h)
    have f10 : (v9 = 0 ∨ v9 = 1) ∧ (v9 = 1 → ((h 96 (10 + 4 * (6 * (h 103 1) + (h 103 0)))) = 2 ∧ (h 103 (4 + 6 * (h 103 1) + (h 103 0))) = 1)) ∧ (v9 = 0 → ¬ ((h 96 (10 + 4 * (6 * (h 103 1) + (h 103 0)))) = 2 ∧ (h 103 (4 + 6 * (h 103 1) + (h 103 0))) = 1)) := f8
    clear f8
    refine ov_ifeq (tgt := 40) d_258_35 (by decide) (by omega) (fun c11 => ?_) (fun c11 => ?_)
    · skip
      have f10_ : v9 = 0 := by omega
      have f12 : ¬ ((h 96 (10 + 4 * (6 * (h 103 1) + (h 103 0)))) = 2 ∧ (h 103 (4 + 6 * (h 103 1) + (h 103 0))) = 1) := f10.2.2 (by omega)
      clear f10
      refine ov_blk (ls2 := [(0, ov_r 90), (1, ov_i (h 103 0)), (2, ov_i (h 103 1))]) (st2 := [ov_r 90]) (pc2 := 41) b_258_40_1 rfl rfl ?_
      refine ov_cV (as := []) (st := []) (d2 := d - 1) d_258_41 lk_Mo_329 rfl (Nat.le_of_ble_eq_true rfl) (c := 1) (zb_90 I1) (zs_90 I1) ⟨by decide, rfl⟩ (by omega) (c_Mo_keeps_90 (d - 1) (by omega) U I1) ?_
      rintro _ z30 h31 ⟨rfl, I32, f13, e14, e15, e16, e17, e18, e19, e20, e21, e22, e23, e24, e25, e26, e27, e28, y29⟩
      have E33 : h31 91 = h 91 := e14
      have E34 : h31 92 = h 92 := e15
      have E35 : h31 93 = h 93 := e16
      have E36 : h31 94 = h 94 := e17
      have E37 : h31 95 = h 95 := e18
      have E38 : h31 96 = h 96 := e19
      have E39 : h31 97 = h 97 := e20
      have E40 : h31 98 = h 98 := e21
      have E41 : h31 99 = h 99 := e22
      have E42 : h31 100 = h 100 := e23
      have E43 : h31 104 = h 104 := e24
      have E44 : h31 105 = h 105 := e25
      have E45 : h31 106 = h 106 := e26
      have E46 : h31 109 = h 109 := e27
      have E47 : h31 114 = h 114 := e28
      show ov_R u d ov_m258 44 [(0, ov_r 90), (1, ov_i (h 103 0)), (2, ov_i (h 103 1))] [] z30 h31 (P_Mo_look_90 F z h)
      have f48 : (h31 90 2) = (h 90 2) ∧ (h31 90 7) = (h 90 7) ∧ (h31 90 8) = (h 90 8) ∧ (h31 90 13) = (h 90 13) ∧ (h31 90 22) = (h 90 22) ∧ (h31 90 25) = (h 90 25) ∧ (h31 90 26) = (h 90 26) ∧ (h31 90 28) = (h 90 28) ∧ (h31 90 29) = (h 90 29) ∧ (h31 90 30) = (h 90 30) ∧ (h31 90 34) = (h 90 34) := f13
      clear f13
      have y29_ : ∀ j : Int, j < 600 → (h31 103) j = (h 103) j := y29
      refine ov_blk (ls2 := [(0, ov_r 90), (1, ov_i (h 103 0)), (2, ov_i (h 103 1))]) (st2 := [ov_r 90]) (pc2 := 45) b_258_44_1 rfl rfl ?_
      refine ov_getf (v := ov_r 103) d_258_45 fl_Mo_102 (zb_90 I32) (zs_90 I32) (congrArg ov_r (rg_90_19 I32)) ?_
      refine ov_blk (ls2 := [(0, ov_r 90), (1, ov_i (h 103 0)), (2, ov_i (h 103 1))]) (st2 := [ov_i 1, ov_i ((4 + (6 * (h 103 1))) + (h 103 0)), ov_r 103]) (pc2 := 57) b_258_48_8 rfl rfl ?_
      refine ov_iast d_258_57 (zb_103 I32) (zs_103 I32) (by omega) ?_
      have I49 := ua_103 (k := ((4 + (6 * (h 103 1))) + (h 103 0))) (x := 1) I32 (by refine ⟨?_, ?_, ?_, ?_, ?_, ?_⟩ <;> omega)
      refine ov_blk (ls2 := [(0, ov_r 90), (1, ov_i (h 103 0)), (2, ov_i (h 103 1))]) (st2 := [ov_r 90, ov_r 90]) (pc2 := 60) b_258_58_2 rfl rfl ?_
      refine ov_getf (v := ov_i (h31 90 22)) d_258_60 fl_Mo_322 (zb_90 I49) (zs_90 I49) rfl ?_
      have g50 := rg_90_22 I32
      refine ov_blk (ls2 := [(0, ov_r 90), (1, ov_i (h 103 0)), (2, ov_i (h 103 1))]) (st2 := [ov_i ((h31 90 22) + 1), ov_r 90]) (pc2 := 65) b_258_63_2 rfl rfl ?_
      refine ov_putf (x := ((h31 90 22) + 1)) d_258_65 fl_Mo_322 (zb_90 I49) (zs_90 I49) rfl nk_0 rfl ?_
      have I51 := up_90_22 (x := ((h31 90 22) + 1)) I49 (by omega)
      refine ov_blk (ls2 := [(0, ov_r 90), (1, ov_i (h 103 0)), (2, ov_i (h 103 1))]) (st2 := [ov_i 1]) (pc2 := 69) b_258_68_1 rfl rfl ?_
      exact ov_retz (st := []) d_258_69 rfl (by omega) ⟨_, rfl, I51, (by show (h31 90 2) = (h 90 2) ∧ (h31 90 7) = (h 90 7) ∧ (h31 90 8) = (h 90 8) ∧ (h31 90 13) = (h 90 13) ∧ (h31 90 25) = (h 90 25) ∧ (h31 90 26) = (h 90 26) ∧ (h31 90 28) = (h 90 28) ∧ (h31 90 29) = (h 90 29) ∧ (h31 90 30) = (h 90 30) ∧ (h31 90 34) = (h 90 34) ∧ (1 = 0 ∨ 1 = 1) ∧ (h 90 22) ≤ ((h31 90 22) + 1) ∧ ((h31 90 22) + 1) ≤ (h 90 22) + 1; omega), E33, E34, E35, E36, E37, E38, E39, E40, E41, E42, E43, E44, E45, E46, E47, (Or.inr (by show ((h31 90 22) + 1) = h 90 22 + 1; omega))⟩
    · skip
      have f10_ : v9 = 1 := by omega
      have f52 : ((h 96 (10 + 4 * (6 * (h 103 1) + (h 103 0)))) = 2 ∧ (h 103 (4 + 6 * (h 103 1) + (h 103 0))) = 1) := f10.2.1 (by omega)
      clear f10
      refine ov_blk (ls2 := [(0, ov_r 90), (1, ov_i (h 103 0)), (2, ov_i (h 103 1))]) (st2 := [ov_i 0]) (pc2 := 39) b_258_38_1 rfl rfl ?_
      exact ov_retz (st := []) d_258_39 rfl (by omega) ⟨_, rfl, I1, ⟨rfl, rfl, rfl, rfl, rfl, rfl, rfl, rfl, rfl, rfl, (by show (0 = 0 ∨ 0 = 1) ∧ (h 90 22) ≤ (h 90 22) ∧ (h 90 22) ≤ (h 90 22) + 1; omega)⟩, rfl, rfl, rfl, rfl, rfl, rfl, rfl, rfl, rfl, rfl, rfl, rfl, rfl, rfl, rfl, (Or.inl ⟨rfl, rfl⟩)⟩
abbrev P_Mo_undo_90 (F : ov_H × ov_Z) (z : ov_Z) (h : ov_H) : Option ov_V → ov_Z → ov_H → Prop := fun r0 z' h' => ∃ r : Int, r0 = some (ov_i r) ∧ ov_N F z' h' ∧ ((h' 90 2) = (h 90 2) ∧ (h' 90 7) = (h 90 7) ∧ (h' 90 8) = (h 90 8) ∧ (h' 90 13) = (h 90 13) ∧ (h' 90 25) = (h 90 25) ∧ (h' 90 26) = (h 90 26) ∧ (h' 90 28) = (h 90 28) ∧ (h' 90 29) = (h 90 29) ∧ (h' 90 30) = (h 90 30) ∧ (h' 90 34) = (h 90 34) ∧ (r = 0 ∨ r = 1) ∧ (h 90 22) ≤ (h' 90 22) ∧ (h' 90 22) ≤ (h 90 22) + 1) ∧ h' 91 = h 91 ∧ h' 92 = h 92 ∧ h' 93 = h 93 ∧ h' 94 = h 94 ∧ h' 95 = h 95 ∧ h' 96 = h 96 ∧ h' 97 = h 97 ∧ h' 98 = h 98 ∧ h' 99 = h 99 ∧ h' 100 = h 100 ∧ h' 104 = h 104 ∧ h' 105 = h 105 ∧ h' 106 = h 106 ∧ h' 109 = h 109 ∧ h' 114 = h 114 ∧ (((h' 90 22) = (h 90 22) ∧ (h' 103) = (h 103)) ∨ (h' 90 22) = (h 90 22) + 1)
set_option maxHeartbeats 4000000 in
theorem c_Mo_undo_90 {u : ov_U} {F : ov_H × ov_Z} {z : ov_Z} {h : ov_H} (d : Nat) (hd : 1 ≤ d) (U : ov_cap u) (I : ov_N F z h) (p0 : 0 ≤ (h 90 22) ∧ (h 90 22) ≤ 2000000000) : ov_T u d ov_m259 [ov_r 90] z h (P_Mo_undo_90 F z h) := by
  refine ov_en rfl (Nat.le_of_ble_eq_true rfl) ?_
  show ov_R u d ov_m259 0 [(0, ov_r 90)] [] z h (P_Mo_undo_90 F z h)
  refine ov_blk (ls2 := [(0, ov_r 90)]) (st2 := [ov_i 0, ov_r 90]) (pc2 := 2) b_259_0_2 rfl rfl ?_
  refine ov_putf (x := 0) d_259_2 fl_Mo_1 (zb_90 I) (zs_90 I) rfl nk_0 rfl ?_
  have I1 := up_90_0 (x := 0) I (by omega)
  refine ov_blk (ls2 := [(0, ov_r 90)]) (st2 := [ov_r 90]) (pc2 := 6) b_259_5_1 rfl rfl ?_
  refine ov_getf (v := ov_i (h 90 20)) d_259_6 fl_Mo_319 (zb_90 I1) (zs_90 I1) rfl ?_
  have g2 := rg_90_20 I
  refine ov_ifne (tgt := 14) d_259_9 (by decide) (by omega) (fun c3 => ?_) (fun c3 => ?_)
  · skip
    refine ov_blk (ls2 := [(0, ov_r 90)]) (st2 := [ov_r 90, ov_r 90]) (pc2 := 16) b_259_14_2 rfl rfl ?_
    refine ov_getf (v := ov_i (h 90 20)) d_259_16 fl_Mo_319 (zb_90 I1) (zs_90 I1) rfl ?_
    refine ov_blk (ls2 := [(0, ov_r 90)]) (st2 := [ov_i ((h 90 20) - 1), ov_r 90]) (pc2 := 21) b_259_19_2 rfl rfl ?_
    refine ov_putf (x := ((h 90 20) - 1)) d_259_21 fl_Mo_319 (zb_90 I1) (zs_90 I1) rfl nk_0 rfl ?_
    have I5 := up_90_20 (x := ((h 90 20) - 1)) I1 (by omega)
    refine ov_blk (ls2 := [(0, ov_r 90)]) (st2 := [ov_r 90, ov_i 5, ov_r 90]) (pc2 := 27) b_259_24_3 rfl rfl ?_
    refine ov_getf (v := ov_i ((h 90 20) - 1)) d_259_27 fl_Mo_319 (zb_90 I5) (zs_90 I5) rfl ?_
    refine ov_blk (ls2 := [(0, ov_r 90)]) (st2 := [ov_i 58, ov_i 0, ov_i (5 + ((h 90 20) - 1)), ov_r 90]) (pc2 := 34) b_259_30_3 rfl rfl ?_
    refine ov_cV (as := [ov_i (5 + ((h 90 20) - 1)), ov_i 0, ov_i 58]) (st := []) (d2 := d - 1) d_259_34 lk_Mo_325 rfl (Nat.le_of_ble_eq_true rfl) (c := 1) (zb_90 I5) (zs_90 I5) ⟨by decide, rfl⟩ (by omega) (c_Mo_copies_90 (d - 1) (by omega) U I5 (5 + ((h 90 20) - 1)) 0 58 (by omega) (by omega) (by omega) (by omega) (by omega) (by omega)) ?_
    rintro _ z23 h24 ⟨rfl, I25, f6, e7, e8, e9, e10, e11, e12, e13, e14, e15, e16, e17, e18, e19, e20, e21, y22⟩
    have E26 : h24 91 = h 91 := e7
    have E27 : h24 92 = h 92 := e8
    have E28 : h24 93 = h 93 := e9
    have E29 : h24 94 = h 94 := e10
    have E30 : h24 95 = h 95 := e11
    have E31 : h24 96 = h 96 := e12
    have E32 : h24 97 = h 97 := e13
    have E33 : h24 98 = h 98 := e14
    have E34 : h24 99 = h 99 := e15
    have E35 : h24 100 = h 100 := e16
    have E36 : h24 104 = h 104 := e17
    have E37 : h24 105 = h 105 := e18
    have E38 : h24 106 = h 106 := e19
    have E39 : h24 109 = h 109 := e20
    have E40 : h24 114 = h 114 := e21
    show ov_R u d ov_m259 37 [(0, ov_r 90)] [] z23 h24 (P_Mo_undo_90 F z h)
    have f41 : (h24 90 2) = (h 90 2) ∧ (h24 90 7) = (h 90 7) ∧ (h24 90 8) = (h 90 8) ∧ (h24 90 13) = (h 90 13) ∧ (h24 90 20) = ((h 90 20) - 1) ∧ (h24 90 22) = (h 90 22) ∧ (h24 90 25) = (h 90 25) ∧ (h24 90 26) = (h 90 26) ∧ (h24 90 28) = (h 90 28) ∧ (h24 90 29) = (h 90 29) ∧ (h24 90 30) = (h 90 30) ∧ (h24 90 34) = (h 90 34) := f6
    clear f6
    have y22_ : ∀ j : Int, j < 120 * (0 : Int) ∨ 120 * (0 : Int) + (58 : Int) ≤ j → (h24 103) j = (h 103) j := y22
    refine ov_blk (ls2 := [(0, ov_r 90)]) (st2 := [ov_r 90, ov_r 90]) (pc2 := 39) b_259_37_2 rfl rfl ?_
    refine ov_getf (v := ov_i (h24 90 22)) d_259_39 fl_Mo_322 (zb_90 I25) (zs_90 I25) rfl ?_
    have g42 := rg_90_22 I25
    refine ov_blk (ls2 := [(0, ov_r 90)]) (st2 := [ov_i ((h24 90 22) + 1), ov_r 90]) (pc2 := 44) b_259_42_2 rfl rfl ?_
    refine ov_putf (x := ((h24 90 22) + 1)) d_259_44 fl_Mo_322 (zb_90 I25) (zs_90 I25) rfl nk_0 rfl ?_
    have I43 := up_90_22 (x := ((h24 90 22) + 1)) I25 (by omega)
    refine ov_blk (ls2 := [(0, ov_r 90)]) (st2 := [ov_i 1]) (pc2 := 48) b_259_47_1 rfl rfl ?_
    exact ov_retz (st := []) d_259_48 rfl (by omega) ⟨_, rfl, I43, (by show (h24 90 2) = (h 90 2) ∧ (h24 90 7) = (h 90 7) ∧ (h24 90 8) = (h 90 8) ∧ (h24 90 13) = (h 90 13) ∧ (h24 90 25) = (h 90 25) ∧ (h24 90 26) = (h 90 26) ∧ (h24 90 28) = (h 90 28) ∧ (h24 90 29) = (h 90 29) ∧ (h24 90 30) = (h 90 30) ∧ (h24 90 34) = (h 90 34) ∧ (1 = 0 ∨ 1 = 1) ∧ (h 90 22) ≤ ((h24 90 22) + 1) ∧ ((h24 90 22) + 1) ≤ (h 90 22) + 1; omega), E26, E27, E28, E29, E30, E31, E32, E33, E34, E35, E36, E37, E38, E39, E40, (Or.inr (by show ((h24 90 22) + 1) = h 90 22 + 1; omega))⟩
  · skip
    refine ov_blk (ls2 := [(0, ov_r 90)]) (st2 := [ov_i 0]) (pc2 := 13) b_259_12_1 rfl rfl ?_
    exact ov_retz (st := []) d_259_13 rfl (by omega) ⟨_, rfl, I1, ⟨rfl, rfl, rfl, rfl, rfl, rfl, rfl, rfl, rfl, rfl, (by show (0 = 0 ∨ 0 = 1) ∧ (h 90 22) ≤ (h 90 22) ∧ (h 90 22) ≤ (h 90 22) + 1; omega)⟩, rfl, rfl, rfl, rfl, rfl, rfl, rfl, rfl, rfl, rfl, rfl, rfl, rfl, rfl, rfl, (Or.inl ⟨rfl, rfl⟩)⟩

theorem b_244_0_3 : ov_ds ov_m244.2.1 0 [.aload_n 0, .iload_n 1, .iload_n 2] = true := by decide +kernel
theorem d_244_3 : decode ov_m244.2.1 3 = .ok (.invokevirtual 282, 3) := by decide +kernel
theorem b_244_6_1 : ov_ds ov_m244.2.1 6 [.iconst 1] = true := by decide +kernel
theorem d_244_7 : decode ov_m244.2.1 7 = .ok (.if_icmp .ne 24, 3) := by decide +kernel
theorem b_244_31_1 : ov_ds ov_m244.2.1 31 [.iconst 0] = true := by decide +kernel
theorem d_244_32 : decode ov_m244.2.1 32 = .ok (.ireturn, 1) := by decide +kernel
theorem b_244_10_1 : ov_ds ov_m244.2.1 10 [.aload_n 0] = true := by decide +kernel
theorem d_244_11 : decode ov_m244.2.1 11 = .ok (.getfield 102, 3) := by decide +kernel
theorem b_244_14_7 : ov_ds ov_m244.2.1 14 [.iconst 4, .bipush 6, .iload_n 2, .imul, .iadd, .iload_n 1, .iadd] = true := by decide +kernel
theorem d_244_22 : decode ov_m244.2.1 22 = .ok (.iaload, 1) := by decide +kernel
theorem b_244_23_1 : ov_ds ov_m244.2.1 23 [.iconst 1] = true := by decide +kernel
theorem d_244_24 : decode ov_m244.2.1 24 = .ok (.if_icmp .ne 7, 3) := by decide +kernel
theorem b_244_27_1 : ov_ds ov_m244.2.1 27 [.iconst 1] = true := by decide +kernel
theorem d_244_28 : decode ov_m244.2.1 28 = .ok (.goto 4, 3) := by decide +kernel
theorem b_256_0_1 : ov_ds ov_m256.2.1 0 [.aload_n 0] = true := by decide +kernel
theorem d_256_1 : decode ov_m256.2.1 1 = .ok (.getfield 81, 3) := by decide +kernel
theorem b_256_4_1 : ov_ds ov_m256.2.1 4 [.iconst 3] = true := by decide +kernel
theorem d_256_5 : decode ov_m256.2.1 5 = .ok (.iaload, 1) := by decide +kernel
theorem d_256_6 : decode ov_m256.2.1 6 = .ok (.ifCond .ge 12, 3) := by decide +kernel
theorem b_256_18_1 : ov_ds ov_m256.2.1 18 [.aload_n 0] = true := by decide +kernel
theorem d_256_19 : decode ov_m256.2.1 19 = .ok (.getfield 81, 3) := by decide +kernel
theorem b_256_22_1 : ov_ds ov_m256.2.1 22 [.iconst 3] = true := by decide +kernel
theorem d_256_23 : decode ov_m256.2.1 23 = .ok (.iaload, 1) := by decide +kernel
theorem d_256_24 : decode ov_m256.2.1 24 = .ok (.ireturn, 1) := by decide +kernel
theorem b_256_9_1 : ov_ds ov_m256.2.1 9 [.aload_n 0] = true := by decide +kernel
theorem d_256_10 : decode ov_m256.2.1 10 = .ok (.getfield 81, 3) := by decide +kernel
theorem b_256_13_1 : ov_ds ov_m256.2.1 13 [.iconst 2] = true := by decide +kernel
theorem d_256_14 : decode ov_m256.2.1 14 = .ok (.iaload, 1) := by decide +kernel
theorem d_256_15 : decode ov_m256.2.1 15 = .ok (.goto 9, 3) := by decide +kernel
theorem b_291_0_1 : ov_ds ov_m291.2.1 0 [.aload_n 0] = true := by decide +kernel
theorem d_291_1 : decode ov_m291.2.1 1 = .ok (.getfield 81, 3) := by decide +kernel
theorem b_291_4_1 : ov_ds ov_m291.2.1 4 [.iconst 4] = true := by decide +kernel
theorem d_291_5 : decode ov_m291.2.1 5 = .ok (.iaload, 1) := by decide +kernel
theorem d_291_6 : decode ov_m291.2.1 6 = .ok (.ifCond .ge 12, 3) := by decide +kernel
theorem b_291_18_1 : ov_ds ov_m291.2.1 18 [.aload_n 0] = true := by decide +kernel
theorem d_291_19 : decode ov_m291.2.1 19 = .ok (.getfield 81, 3) := by decide +kernel
theorem b_291_22_1 : ov_ds ov_m291.2.1 22 [.iconst 4] = true := by decide +kernel
theorem d_291_23 : decode ov_m291.2.1 23 = .ok (.iaload, 1) := by decide +kernel
theorem d_291_24 : decode ov_m291.2.1 24 = .ok (.ireturn, 1) := by decide +kernel
theorem b_291_9_1 : ov_ds ov_m291.2.1 9 [.aload_n 0] = true := by decide +kernel
theorem d_291_10 : decode ov_m291.2.1 10 = .ok (.getfield 81, 3) := by decide +kernel
theorem b_291_13_1 : ov_ds ov_m291.2.1 13 [.iconst 2] = true := by decide +kernel
theorem d_291_14 : decode ov_m291.2.1 14 = .ok (.iaload, 1) := by decide +kernel
theorem d_291_15 : decode ov_m291.2.1 15 = .ok (.goto 9, 3) := by decide +kernel
theorem b_239_0_2 : ov_ds ov_m239.2.1 0 [.aload_n 0, .iconst 0] = true := by decide +kernel
theorem d_239_2 : decode ov_m239.2.1 2 = .ok (.putfield 1, 3) := by decide +kernel
theorem b_239_5_3 : ov_ds ov_m239.2.1 5 [.aload_n 0, .iload_n 1, .iload_n 2] = true := by decide +kernel
theorem d_239_8 : decode ov_m239.2.1 8 = .ok (.invokevirtual 296, 3) := by decide +kernel
theorem d_239_11 : decode ov_m239.2.1 11 = .ok (.ifCond .eq 26, 3) := by decide +kernel
theorem b_239_37_1 : ov_ds ov_m239.2.1 37 [.iconst (-1)] = true := by decide +kernel
theorem d_239_38 : decode ov_m239.2.1 38 = .ok (.ireturn, 1) := by decide +kernel
theorem b_239_14_3 : ov_ds ov_m239.2.1 14 [.iload_n 3, .iconst 0, .iconst 5] = true := by decide +kernel
theorem d_239_17 : decode ov_m239.2.1 17 = .ok (.invokestatic 299, 3) := by decide +kernel
theorem d_239_20 : decode ov_m239.2.1 20 = .ok (.ifCond .eq 17, 3) := by decide +kernel
theorem b_239_23_2 : ov_ds ov_m239.2.1 23 [.iload_n 3, .iconst 5] = true := by decide +kernel
theorem d_239_25 : decode ov_m239.2.1 25 = .ok (.if_icmp .ge 14, 3) := by decide +kernel
theorem b_239_39_2 : ov_ds ov_m239.2.1 39 [.iload_n 3, .iconst 5] = true := by decide +kernel
theorem d_239_41 : decode ov_m239.2.1 41 = .ok (.if_icmp .ne 19, 3) := by decide +kernel
theorem b_239_60_1 : ov_ds ov_m239.2.1 60 [.iload_n 3] = true := by decide +kernel
theorem d_239_61 : decode ov_m239.2.1 61 = .ok (.ifCond .ne 12, 3) := by decide +kernel
theorem b_239_73_2 : ov_ds ov_m239.2.1 73 [.iload_n 3, .iconst 4] = true := by decide +kernel
theorem d_239_75 : decode ov_m239.2.1 75 = .ok (.if_icmp .ge 13, 3) := by decide +kernel
theorem b_239_88_3 : ov_ds ov_m239.2.1 88 [.aload_n 0, .iload_n 1, .iload_n 2] = true := by decide +kernel
theorem d_239_91 : decode ov_m239.2.1 91 = .ok (.invokevirtual 302, 3) := by decide +kernel
theorem d_239_94 : decode ov_m239.2.1 94 = .ok (.ifCond .eq 7, 3) := by decide +kernel
theorem b_239_101_1 : ov_ds ov_m239.2.1 101 [.iconst 0] = true := by decide +kernel
theorem d_239_102 : decode ov_m239.2.1 102 = .ok (.ireturn, 1) := by decide +kernel
theorem b_239_97_1 : ov_ds ov_m239.2.1 97 [.iconst 1] = true := by decide +kernel
theorem d_239_98 : decode ov_m239.2.1 98 = .ok (.goto 4, 3) := by decide +kernel
theorem b_239_44_1 : ov_ds ov_m239.2.1 44 [.aload_n 0] = true := by decide +kernel
theorem d_239_45 : decode ov_m239.2.1 45 = .ok (.getfield 81, 3) := by decide +kernel
theorem b_239_48_7 : ov_ds ov_m239.2.1 48 [.sipush 226, .bipush 6, .iload_n 2, .imul, .iadd, .iload_n 1, .iadd] = true := by decide +kernel
theorem d_239_58 : decode ov_m239.2.1 58 = .ok (.iaload, 1) := by decide +kernel
theorem d_239_59 : decode ov_m239.2.1 59 = .ok (.ireturn, 1) := by decide +kernel
theorem b_239_28_3 : ov_ds ov_m239.2.1 28 [.aload_n 0, .iload_n 1, .iload_n 2] = true := by decide +kernel
theorem d_239_31 : decode ov_m239.2.1 31 = .ok (.invokevirtual 282, 3) := by decide +kernel
theorem d_239_34 : decode ov_m239.2.1 34 = .ok (.ifCond .ge 5, 3) := by decide +kernel
theorem b_239_78_4 : ov_ds ov_m239.2.1 78 [.aload_n 0, .iload_n 1, .iload_n 2, .iload_n 3] = true := by decide +kernel
theorem d_239_82 : decode ov_m239.2.1 82 = .ok (.invokevirtual 289, 3) := by decide +kernel
theorem d_239_85 : decode ov_m239.2.1 85 = .ok (.goto 17, 3) := by decide +kernel
theorem b_239_64_3 : ov_ds ov_m239.2.1 64 [.aload_n 0, .iload_n 1, .iload_n 2] = true := by decide +kernel
theorem d_239_67 : decode ov_m239.2.1 67 = .ok (.invokevirtual 282, 3) := by decide +kernel
theorem d_239_70 : decode ov_m239.2.1 70 = .ok (.goto 32, 3) := by decide +kernel
theorem b_246_0_3 : ov_ds ov_m246.2.1 0 [.aload_n 0, .iload_n 1, .iload_n 2] = true := by decide +kernel
theorem d_246_3 : decode ov_m246.2.1 3 = .ok (.invokevirtual 296, 3) := by decide +kernel
theorem d_246_6 : decode ov_m246.2.1 6 = .ok (.ifCond .eq 35, 3) := by decide +kernel
theorem b_246_41_1 : ov_ds ov_m246.2.1 41 [.iconst 0] = true := by decide +kernel
theorem d_246_42 : decode ov_m246.2.1 42 = .ok (.ireturn, 1) := by decide +kernel
theorem b_246_9_3 : ov_ds ov_m246.2.1 9 [.iload_n 3, .iconst 0, .iconst 1] = true := by decide +kernel
theorem d_246_12 : decode ov_m246.2.1 12 = .ok (.invokestatic 299, 3) := by decide +kernel
theorem d_246_15 : decode ov_m246.2.1 15 = .ok (.ifCond .eq 26, 3) := by decide +kernel
theorem b_246_18_2 : ov_ds ov_m246.2.1 18 [.aload_n 0, .iload 4] = true := by decide +kernel
theorem d_246_21 : decode ov_m246.2.1 21 = .ok (.invokevirtual 306, 3) := by decide +kernel
theorem d_246_24 : decode ov_m246.2.1 24 = .ok (.ifCond .eq 17, 3) := by decide +kernel
theorem b_246_27_4 : ov_ds ov_m246.2.1 27 [.aload_n 0, .iload_n 1, .iload_n 2, .iload_n 3] = true := by decide +kernel
theorem d_246_31 : decode ov_m246.2.1 31 = .ok (.invokevirtual 309, 3) := by decide +kernel
theorem d_246_34 : decode ov_m246.2.1 34 = .ok (.ifCond .eq 7, 3) := by decide +kernel
theorem b_246_37_1 : ov_ds ov_m246.2.1 37 [.iconst 1] = true := by decide +kernel
theorem d_246_38 : decode ov_m246.2.1 38 = .ok (.goto 4, 3) := by decide +kernel
theorem b_245_0_2 : ov_ds ov_m245.2.1 0 [.aload_n 0, .iconst 0] = true := by decide +kernel
theorem d_245_2 : decode ov_m245.2.1 2 = .ok (.putfield 1, 3) := by decide +kernel
theorem b_245_5_5 : ov_ds ov_m245.2.1 5 [.aload_n 0, .iload_n 1, .iload_n 2, .iload_n 3, .iload 4] = true := by decide +kernel
theorem d_245_11 : decode ov_m245.2.1 11 = .ok (.invokevirtual 312, 3) := by decide +kernel
theorem d_245_14 : decode ov_m245.2.1 14 = .ok (.ifCond .ne 5, 3) := by decide +kernel
theorem b_245_19_3 : ov_ds ov_m245.2.1 19 [.aload_n 0, .iload_n 1, .iload_n 2] = true := by decide +kernel
theorem d_245_22 : decode ov_m245.2.1 22 = .ok (.invokevirtual 282, 3) := by decide +kernel
theorem b_245_25_1 : ov_ds ov_m245.2.1 25 [.iconst 2] = true := by decide +kernel
theorem d_245_26 : decode ov_m245.2.1 26 = .ok (.if_icmp .ne 16, 3) := by decide +kernel
theorem b_245_42_3 : ov_ds ov_m245.2.1 42 [.aload_n 0, .iload_n 1, .iload_n 2] = true := by decide +kernel
theorem d_245_45 : decode ov_m245.2.1 45 = .ok (.invokevirtual 285, 3) := by decide +kernel
theorem d_245_48 : decode ov_m245.2.1 48 = .ok (.ifCond .eq 15, 3) := by decide +kernel
theorem b_245_63_1 : ov_ds ov_m245.2.1 63 [.iconst 1] = true := by decide +kernel
theorem d_245_64 : decode ov_m245.2.1 64 = .ok (.goto 4, 3) := by decide +kernel
theorem b_245_68_2 : ov_ds ov_m245.2.1 68 [.istore 5, .iload 5] = true := by decide +kernel
theorem d_245_72 : decode ov_m245.2.1 72 = .ok (.ifCond .eq 7, 3) := by decide +kernel
theorem b_245_75_1 : ov_ds ov_m245.2.1 75 [.iconst 1] = true := by decide +kernel
theorem d_245_76 : decode ov_m245.2.1 76 = .ok (.goto 4, 3) := by decide +kernel
theorem d_245_80 : decode ov_m245.2.1 80 = .ok (.ireturn, 1) := by decide +kernel
theorem b_245_51_5 : ov_ds ov_m245.2.1 51 [.aload_n 0, .iload_n 1, .iload_n 2, .iload_n 3, .iload 4] = true := by decide +kernel
theorem d_245_57 : decode ov_m245.2.1 57 = .ok (.invokevirtual 292, 3) := by decide +kernel
theorem d_245_60 : decode ov_m245.2.1 60 = .ok (.ifCond .eq 7, 3) := by decide +kernel
theorem b_245_67_3 : ov_ds ov_m245.2.1 67 [.iconst 0, .istore 5, .iload 5] = true := by decide +kernel
theorem b_245_79_1 : ov_ds ov_m245.2.1 79 [.iconst 0] = true := by decide +kernel
theorem b_245_29_2 : ov_ds ov_m245.2.1 29 [.iload_n 3, .iconst 1] = true := by decide +kernel
theorem d_245_31 : decode ov_m245.2.1 31 = .ok (.if_icmp .ne 7, 3) := by decide +kernel
theorem b_245_38_1 : ov_ds ov_m245.2.1 38 [.iconst 0] = true := by decide +kernel
theorem d_245_39 : decode ov_m245.2.1 39 = .ok (.goto 29, 3) := by decide +kernel
theorem b_245_34_1 : ov_ds ov_m245.2.1 34 [.iconst 1] = true := by decide +kernel
theorem d_245_35 : decode ov_m245.2.1 35 = .ok (.goto 33, 3) := by decide +kernel
theorem b_245_17_1 : ov_ds ov_m245.2.1 17 [.iconst (-1)] = true := by decide +kernel
theorem d_245_18 : decode ov_m245.2.1 18 = .ok (.ireturn, 1) := by decide +kernel
theorem b_251_0_2 : ov_ds ov_m251.2.1 0 [.aload_n 0, .iconst 0] = true := by decide +kernel
theorem d_251_2 : decode ov_m251.2.1 2 = .ok (.putfield 1, 3) := by decide +kernel
theorem b_251_5_5 : ov_ds ov_m251.2.1 5 [.aload_n 0, .iload_n 1, .iload_n 2, .iload_n 3, .iload 4] = true := by decide +kernel
theorem d_251_11 : decode ov_m251.2.1 11 = .ok (.invokevirtual 312, 3) := by decide +kernel
theorem d_251_14 : decode ov_m251.2.1 14 = .ok (.ifCond .eq 15, 3) := by decide +kernel
theorem b_251_29_1 : ov_ds ov_m251.2.1 29 [.iconst (-1)] = true := by decide +kernel
theorem d_251_30 : decode ov_m251.2.1 30 = .ok (.ireturn, 1) := by decide +kernel
theorem b_251_17_5 : ov_ds ov_m251.2.1 17 [.aload_n 0, .iload_n 1, .iload_n 2, .iload_n 3, .iload 4] = true := by decide +kernel
theorem d_251_23 : decode ov_m251.2.1 23 = .ok (.invokevirtual 315, 3) := by decide +kernel
theorem d_251_26 : decode ov_m251.2.1 26 = .ok (.goto 4, 3) := by decide +kernel
theorem b_255_0_2 : ov_ds ov_m255.2.1 0 [.iconst 0, .istore 4] = true := by decide +kernel
theorem b_255_3_2 : ov_ds ov_m255.2.1 3 [.iload 4, .iload_n 3] = true := by decide +kernel
theorem d_255_6 : decode ov_m255.2.1 6 = .ok (.if_icmp .ge 33, 3) := by decide +kernel
theorem d_255_39 : decode ov_m255.2.1 39 = .ok (.return_, 1) := by decide +kernel
theorem b_255_9_1 : ov_ds ov_m255.2.1 9 [.aload_n 0] = true := by decide +kernel
theorem d_255_10 : decode ov_m255.2.1 10 = .ok (.getfield 102, 3) := by decide +kernel
theorem b_255_13_6 : ov_ds ov_m255.2.1 13 [.bipush 120, .iload_n 2, .imul, .iload 4, .iadd, .aload_n 0] = true := by decide +kernel
theorem d_255_21 : decode ov_m255.2.1 21 = .ok (.getfield 102, 3) := by decide +kernel
theorem b_255_24_5 : ov_ds ov_m255.2.1 24 [.bipush 120, .iload_n 1, .imul, .iload 4, .iadd] = true := by decide +kernel
theorem d_255_31 : decode ov_m255.2.1 31 = .ok (.iaload, 1) := by decide +kernel
theorem d_255_32 : decode ov_m255.2.1 32 = .ok (.iastore, 1) := by decide +kernel
theorem b_255_33_1 : ov_ds ov_m255.2.1 33 [.iinc 4 1] = true := by decide +kernel
theorem d_255_36 : decode ov_m255.2.1 36 = .ok (.goto (-33), 3) := by decide +kernel
theorem b_204_0_2 : ov_ds ov_m204.2.1 0 [.iconst 0, .istore_n 1] = true := by decide +kernel
theorem b_204_2_2 : ov_ds ov_m204.2.1 2 [.iload_n 1, .bipush 120] = true := by decide +kernel
theorem d_204_5 : decode ov_m204.2.1 5 = .ok (.if_icmp .ge 16, 3) := by decide +kernel
theorem b_204_21_1 : ov_ds ov_m204.2.1 21 [.aload_n 0] = true := by decide +kernel
theorem d_204_22 : decode ov_m204.2.1 22 = .ok (.getfield 93, 3) := by decide +kernel
theorem b_204_25_2 : ov_ds ov_m204.2.1 25 [.iconst 0, .iconst 0] = true := by decide +kernel
theorem d_204_27 : decode ov_m204.2.1 27 = .ok (.iastore, 1) := by decide +kernel
theorem b_204_28_2 : ov_ds ov_m204.2.1 28 [.aload_n 0, .iconst 0] = true := by decide +kernel
theorem d_204_30 : decode ov_m204.2.1 30 = .ok (.putfield 319, 3) := by decide +kernel
theorem b_204_33_2 : ov_ds ov_m204.2.1 33 [.aload_n 0, .dup] = true := by decide +kernel
theorem d_204_35 : decode ov_m204.2.1 35 = .ok (.getfield 322, 3) := by decide +kernel
theorem b_204_38_2 : ov_ds ov_m204.2.1 38 [.iconst 1, .iadd] = true := by decide +kernel
theorem d_204_40 : decode ov_m204.2.1 40 = .ok (.putfield 322, 3) := by decide +kernel
theorem b_204_43_2 : ov_ds ov_m204.2.1 43 [.iconst 0, .istore_n 1] = true := by decide +kernel
theorem b_204_45_2 : ov_ds ov_m204.2.1 45 [.iload_n 1, .iconst 4] = true := by decide +kernel
theorem d_204_47 : decode ov_m204.2.1 47 = .ok (.if_icmp .ge 16, 3) := by decide +kernel
theorem d_204_63 : decode ov_m204.2.1 63 = .ok (.return_, 1) := by decide +kernel
theorem b_204_50_1 : ov_ds ov_m204.2.1 50 [.aload_n 0] = true := by decide +kernel
theorem d_204_51 : decode ov_m204.2.1 51 = .ok (.getfield 105, 3) := by decide +kernel
theorem b_204_54_2 : ov_ds ov_m204.2.1 54 [.iload_n 1, .iconst 0] = true := by decide +kernel
theorem d_204_56 : decode ov_m204.2.1 56 = .ok (.bastore, 1) := by decide +kernel
theorem b_204_57_1 : ov_ds ov_m204.2.1 57 [.iinc 1 1] = true := by decide +kernel
theorem d_204_60 : decode ov_m204.2.1 60 = .ok (.goto (-15), 3) := by decide +kernel
theorem b_204_8_1 : ov_ds ov_m204.2.1 8 [.aload_n 0] = true := by decide +kernel
theorem d_204_9 : decode ov_m204.2.1 9 = .ok (.getfield 102, 3) := by decide +kernel
theorem b_204_12_2 : ov_ds ov_m204.2.1 12 [.iload_n 1, .iconst 0] = true := by decide +kernel
theorem d_204_14 : decode ov_m204.2.1 14 = .ok (.iastore, 1) := by decide +kernel
theorem b_204_15_1 : ov_ds ov_m204.2.1 15 [.iinc 1 1] = true := by decide +kernel
theorem d_204_18 : decode ov_m204.2.1 18 = .ok (.goto (-16), 3) := by decide +kernel
theorem b_254_0_1 : ov_ds ov_m254.2.1 0 [.aload_n 0] = true := by decide +kernel
theorem d_254_1 : decode ov_m254.2.1 1 = .ok (.getfield 319, 3) := by decide +kernel
theorem b_254_4_1 : ov_ds ov_m254.2.1 4 [.bipush 16] = true := by decide +kernel
theorem d_254_6 : decode ov_m254.2.1 6 = .ok (.if_icmp .ne 41, 3) := by decide +kernel
theorem b_254_47_4 : ov_ds ov_m254.2.1 47 [.aload_n 0, .iconst 0, .iconst 5, .aload_n 0] = true := by decide +kernel
theorem d_254_51 : decode ov_m254.2.1 51 = .ok (.getfield 319, 3) := by decide +kernel
theorem b_254_54_2 : ov_ds ov_m254.2.1 54 [.iadd, .bipush 58] = true := by decide +kernel
theorem d_254_57 : decode ov_m254.2.1 57 = .ok (.invokevirtual 325, 3) := by decide +kernel
theorem b_254_60_2 : ov_ds ov_m254.2.1 60 [.aload_n 0, .dup] = true := by decide +kernel
theorem d_254_62 : decode ov_m254.2.1 62 = .ok (.getfield 319, 3) := by decide +kernel
theorem b_254_65_2 : ov_ds ov_m254.2.1 65 [.iconst 1, .iadd] = true := by decide +kernel
theorem d_254_67 : decode ov_m254.2.1 67 = .ok (.putfield 319, 3) := by decide +kernel
theorem d_254_70 : decode ov_m254.2.1 70 = .ok (.return_, 1) := by decide +kernel
theorem b_254_9_2 : ov_ds ov_m254.2.1 9 [.iconst 1, .istore_n 1] = true := by decide +kernel
theorem b_254_11_2 : ov_ds ov_m254.2.1 11 [.iload_n 1, .bipush 16] = true := by decide +kernel
theorem d_254_14 : decode ov_m254.2.1 14 = .ok (.if_icmp .ge 23, 3) := by decide +kernel
theorem b_254_37_2 : ov_ds ov_m254.2.1 37 [.aload_n 0, .dup] = true := by decide +kernel
theorem d_254_39 : decode ov_m254.2.1 39 = .ok (.getfield 319, 3) := by decide +kernel
theorem b_254_42_2 : ov_ds ov_m254.2.1 42 [.iconst 1, .isub] = true := by decide +kernel
theorem d_254_44 : decode ov_m254.2.1 44 = .ok (.putfield 319, 3) := by decide +kernel
theorem b_254_17_10 : ov_ds ov_m254.2.1 17 [.aload_n 0, .iconst 5, .iload_n 1, .iadd, .iconst 5, .iload_n 1, .iadd, .iconst 1, .isub, .bipush 58] = true := by decide +kernel
theorem d_254_28 : decode ov_m254.2.1 28 = .ok (.invokevirtual 325, 3) := by decide +kernel
theorem b_254_31_1 : ov_ds ov_m254.2.1 31 [.iinc 1 1] = true := by decide +kernel
theorem d_254_34 : decode ov_m254.2.1 34 = .ok (.goto (-23), 3) := by decide +kernel
theorem b_253_0_2 : ov_ds ov_m253.2.1 0 [.aload_n 0, .iconst 0] = true := by decide +kernel
theorem d_253_2 : decode ov_m253.2.1 2 = .ok (.putfield 1, 3) := by decide +kernel
theorem b_253_5_1 : ov_ds ov_m253.2.1 5 [.aload_n 0] = true := by decide +kernel
theorem d_253_6 : decode ov_m253.2.1 6 = .ok (.getfield 102, 3) := by decide +kernel
theorem b_253_9_1 : ov_ds ov_m253.2.1 9 [.iconst 0] = true := by decide +kernel
theorem d_253_10 : decode ov_m253.2.1 10 = .ok (.iaload, 1) := by decide +kernel
theorem b_253_11_2 : ov_ds ov_m253.2.1 11 [.istore_n 3, .aload_n 0] = true := by decide +kernel
theorem d_253_13 : decode ov_m253.2.1 13 = .ok (.getfield 102, 3) := by decide +kernel
theorem b_253_16_1 : ov_ds ov_m253.2.1 16 [.iconst 1] = true := by decide +kernel
theorem d_253_17 : decode ov_m253.2.1 17 = .ok (.iaload, 1) := by decide +kernel
theorem b_253_18_4 : ov_ds ov_m253.2.1 18 [.istore 4, .iload_n 1, .iconst 0, .iconst 1] = true := by decide +kernel
theorem d_253_23 : decode ov_m253.2.1 23 = .ok (.invokestatic 299, 3) := by decide +kernel
theorem d_253_26 : decode ov_m253.2.1 26 = .ok (.ifCond .eq 44, 3) := by decide +kernel
theorem b_253_70_1 : ov_ds ov_m253.2.1 70 [.iconst (-1)] = true := by decide +kernel
theorem d_253_71 : decode ov_m253.2.1 71 = .ok (.ireturn, 1) := by decide +kernel
theorem b_253_29_4 : ov_ds ov_m253.2.1 29 [.aload_n 0, .iload_n 3, .iload 4, .iload_n 1] = true := by decide +kernel
theorem d_253_34 : decode ov_m253.2.1 34 = .ok (.invokevirtual 309, 3) := by decide +kernel
theorem d_253_37 : decode ov_m253.2.1 37 = .ok (.ifCond .eq 33, 3) := by decide +kernel
theorem b_253_40_1 : ov_ds ov_m253.2.1 40 [.iload_n 2] = true := by decide +kernel
theorem d_253_41 : decode ov_m253.2.1 41 = .ok (.ifCond .eq 31, 3) := by decide +kernel
theorem b_253_72_1 : ov_ds ov_m253.2.1 72 [.aload_n 0] = true := by decide +kernel
theorem d_253_73 : decode ov_m253.2.1 73 = .ok (.invokevirtual 329, 3) := by decide +kernel
theorem b_253_76_1 : ov_ds ov_m253.2.1 76 [.aload_n 0] = true := by decide +kernel
theorem d_253_77 : decode ov_m253.2.1 77 = .ok (.getfield 102, 3) := by decide +kernel
theorem b_253_80_2 : ov_ds ov_m253.2.1 80 [.iconst 2, .dup2] = true := by decide +kernel
theorem d_253_82 : decode ov_m253.2.1 82 = .ok (.iaload, 1) := by decide +kernel
theorem b_253_83_5 : ov_ds ov_m253.2.1 83 [.aload_n 0, .iload_n 3, .iload 4, .iload_n 1, .aload_n 0] = true := by decide +kernel
theorem d_253_89 : decode ov_m253.2.1 89 = .ok (.getfield 102, 3) := by decide +kernel
theorem b_253_92_1 : ov_ds ov_m253.2.1 92 [.iconst 2] = true := by decide +kernel
theorem d_253_93 : decode ov_m253.2.1 93 = .ok (.iaload, 1) := by decide +kernel
theorem d_253_94 : decode ov_m253.2.1 94 = .ok (.invokevirtual 315, 3) := by decide +kernel
theorem b_253_97_1 : ov_ds ov_m253.2.1 97 [.iload_n 2] = true := by decide +kernel
theorem d_253_98 : decode ov_m253.2.1 98 = .ok (.ifCond .eq 10, 3) := by decide +kernel
theorem b_253_108_1 : ov_ds ov_m253.2.1 108 [.aload_n 0] = true := by decide +kernel
theorem d_253_109 : decode ov_m253.2.1 109 = .ok (.getfield 81, 3) := by decide +kernel
theorem b_253_112_1 : ov_ds ov_m253.2.1 112 [.iconst 2] = true := by decide +kernel
theorem d_253_113 : decode ov_m253.2.1 113 = .ok (.iaload, 1) := by decide +kernel
theorem b_253_114_1 : ov_ds ov_m253.2.1 114 [.iadd] = true := by decide +kernel
theorem b_253_115_1 : ov_ds ov_m253.2.1 115 [.iadd] = true := by decide +kernel
theorem d_253_116 : decode ov_m253.2.1 116 = .ok (.iastore, 1) := by decide +kernel
theorem b_253_117_1 : ov_ds ov_m253.2.1 117 [.aload_n 0] = true := by decide +kernel
theorem d_253_118 : decode ov_m253.2.1 118 = .ok (.getfield 102, 3) := by decide +kernel
theorem b_253_121_2 : ov_ds ov_m253.2.1 121 [.iconst 0, .dup2] = true := by decide +kernel
theorem d_253_123 : decode ov_m253.2.1 123 = .ok (.iaload, 1) := by decide +kernel
theorem b_253_124_4 : ov_ds ov_m253.2.1 124 [.iconst 1, .iload_n 1, .isub, .iadd] = true := by decide +kernel
theorem d_253_128 : decode ov_m253.2.1 128 = .ok (.iastore, 1) := by decide +kernel
theorem b_253_129_1 : ov_ds ov_m253.2.1 129 [.aload_n 0] = true := by decide +kernel
theorem d_253_130 : decode ov_m253.2.1 130 = .ok (.getfield 102, 3) := by decide +kernel
theorem b_253_133_2 : ov_ds ov_m253.2.1 133 [.iconst 1, .dup2] = true := by decide +kernel
theorem d_253_135 : decode ov_m253.2.1 135 = .ok (.iaload, 1) := by decide +kernel
theorem b_253_136_2 : ov_ds ov_m253.2.1 136 [.iload_n 1, .iadd] = true := by decide +kernel
theorem d_253_138 : decode ov_m253.2.1 138 = .ok (.iastore, 1) := by decide +kernel
theorem b_253_139_1 : ov_ds ov_m253.2.1 139 [.aload_n 0] = true := by decide +kernel
theorem d_253_140 : decode ov_m253.2.1 140 = .ok (.getfield 102, 3) := by decide +kernel
theorem b_253_143_2 : ov_ds ov_m253.2.1 143 [.iconst 3, .dup2] = true := by decide +kernel
theorem d_253_145 : decode ov_m253.2.1 145 = .ok (.iaload, 1) := by decide +kernel
theorem b_253_146_1 : ov_ds ov_m253.2.1 146 [.iload_n 2] = true := by decide +kernel
theorem d_253_147 : decode ov_m253.2.1 147 = .ok (.ifCond .eq 7, 3) := by decide +kernel
theorem b_253_154_2 : ov_ds ov_m253.2.1 154 [.iconst 0, .iadd] = true := by decide +kernel
theorem d_253_156 : decode ov_m253.2.1 156 = .ok (.iastore, 1) := by decide +kernel
theorem b_253_157_1 : ov_ds ov_m253.2.1 157 [.aload_n 0] = true := by decide +kernel
theorem d_253_158 : decode ov_m253.2.1 158 = .ok (.getfield 102, 3) := by decide +kernel
theorem b_253_161_1 : ov_ds ov_m253.2.1 161 [.iconst 2] = true := by decide +kernel
theorem d_253_162 : decode ov_m253.2.1 162 = .ok (.iaload, 1) := by decide +kernel
theorem d_253_163 : decode ov_m253.2.1 163 = .ok (.ireturn, 1) := by decide +kernel
theorem b_253_44_1 : ov_ds ov_m253.2.1 44 [.aload_n 0] = true := by decide +kernel
theorem d_253_45 : decode ov_m253.2.1 45 = .ok (.getfield 81, 3) := by decide +kernel
theorem b_253_48_1 : ov_ds ov_m253.2.1 48 [.bipush 6] = true := by decide +kernel
theorem d_253_50 : decode ov_m253.2.1 50 = .ok (.iaload, 1) := by decide +kernel
theorem b_253_51_1 : ov_ds ov_m253.2.1 51 [.iconst 1] = true := by decide +kernel
theorem d_253_52 : decode ov_m253.2.1 52 = .ok (.if_icmp .eq 18, 3) := by decide +kernel
theorem b_253_55_1 : ov_ds ov_m253.2.1 55 [.aload_n 0] = true := by decide +kernel
theorem d_253_56 : decode ov_m253.2.1 56 = .ok (.getfield 102, 3) := by decide +kernel
theorem b_253_59_1 : ov_ds ov_m253.2.1 59 [.iconst 3] = true := by decide +kernel
theorem d_253_60 : decode ov_m253.2.1 60 = .ok (.iaload, 1) := by decide +kernel
theorem b_253_61_1 : ov_ds ov_m253.2.1 61 [.aload_n 0] = true := by decide +kernel
theorem d_253_62 : decode ov_m253.2.1 62 = .ok (.getfield 81, 3) := by decide +kernel
theorem b_253_65_1 : ov_ds ov_m253.2.1 65 [.iconst 5] = true := by decide +kernel
theorem d_253_66 : decode ov_m253.2.1 66 = .ok (.iaload, 1) := by decide +kernel
theorem d_253_67 : decode ov_m253.2.1 67 = .ok (.if_icmp .ne 5, 3) := by decide +kernel
theorem b_253_101_1 : ov_ds ov_m253.2.1 101 [.aload_n 0] = true := by decide +kernel
theorem d_253_102 : decode ov_m253.2.1 102 = .ok (.invokevirtual 332, 3) := by decide +kernel
theorem d_253_105 : decode ov_m253.2.1 105 = .ok (.goto 9, 3) := by decide +kernel
theorem b_253_150_1 : ov_ds ov_m253.2.1 150 [.iconst 1] = true := by decide +kernel
theorem d_253_151 : decode ov_m253.2.1 151 = .ok (.goto 4, 3) := by decide +kernel
theorem b_253_155_1 : ov_ds ov_m253.2.1 155 [.iadd] = true := by decide +kernel
theorem b_257_0_2 : ov_ds ov_m257.2.1 0 [.aload_n 0, .iconst 0] = true := by decide +kernel
theorem d_257_2 : decode ov_m257.2.1 2 = .ok (.putfield 1, 3) := by decide +kernel
theorem b_257_5_3 : ov_ds ov_m257.2.1 5 [.iload_n 1, .iconst 1, .sipush 1000] = true := by decide +kernel
theorem d_257_10 : decode ov_m257.2.1 10 = .ok (.invokestatic 299, 3) := by decide +kernel
theorem d_257_13 : decode ov_m257.2.1 13 = .ok (.ifCond .ne 5, 3) := by decide +kernel
theorem b_257_18_1 : ov_ds ov_m257.2.1 18 [.aload_n 0] = true := by decide +kernel
theorem d_257_19 : decode ov_m257.2.1 19 = .ok (.invokevirtual 329, 3) := by decide +kernel
theorem b_257_22_1 : ov_ds ov_m257.2.1 22 [.aload_n 0] = true := by decide +kernel
theorem d_257_23 : decode ov_m257.2.1 23 = .ok (.getfield 102, 3) := by decide +kernel
theorem b_257_26_2 : ov_ds ov_m257.2.1 26 [.iconst 2, .dup2] = true := by decide +kernel
theorem d_257_28 : decode ov_m257.2.1 28 = .ok (.iaload, 1) := by decide +kernel
theorem b_257_29_2 : ov_ds ov_m257.2.1 29 [.iload_n 1, .iadd] = true := by decide +kernel
theorem d_257_31 : decode ov_m257.2.1 31 = .ok (.iastore, 1) := by decide +kernel
theorem b_257_32_1 : ov_ds ov_m257.2.1 32 [.aload_n 0] = true := by decide +kernel
theorem d_257_33 : decode ov_m257.2.1 33 = .ok (.getfield 102, 3) := by decide +kernel
theorem b_257_36_1 : ov_ds ov_m257.2.1 36 [.iconst 2] = true := by decide +kernel
theorem d_257_37 : decode ov_m257.2.1 37 = .ok (.iaload, 1) := by decide +kernel
theorem d_257_38 : decode ov_m257.2.1 38 = .ok (.ireturn, 1) := by decide +kernel
theorem b_257_16_1 : ov_ds ov_m257.2.1 16 [.iconst (-1)] = true := by decide +kernel
theorem d_257_17 : decode ov_m257.2.1 17 = .ok (.ireturn, 1) := by decide +kernel
theorem b_258_0_2 : ov_ds ov_m258.2.1 0 [.aload_n 0, .iconst 0] = true := by decide +kernel
theorem d_258_2 : decode ov_m258.2.1 2 = .ok (.putfield 1, 3) := by decide +kernel
theorem b_258_5_1 : ov_ds ov_m258.2.1 5 [.aload_n 0] = true := by decide +kernel
theorem d_258_6 : decode ov_m258.2.1 6 = .ok (.getfield 102, 3) := by decide +kernel
theorem b_258_9_1 : ov_ds ov_m258.2.1 9 [.iconst 0] = true := by decide +kernel
theorem d_258_10 : decode ov_m258.2.1 10 = .ok (.iaload, 1) := by decide +kernel
theorem b_258_11_2 : ov_ds ov_m258.2.1 11 [.istore_n 1, .aload_n 0] = true := by decide +kernel
theorem d_258_13 : decode ov_m258.2.1 13 = .ok (.getfield 102, 3) := by decide +kernel
theorem b_258_16_1 : ov_ds ov_m258.2.1 16 [.iconst 1] = true := by decide +kernel
theorem d_258_17 : decode ov_m258.2.1 17 = .ok (.iaload, 1) := by decide +kernel
theorem b_258_18_4 : ov_ds ov_m258.2.1 18 [.istore_n 2, .aload_n 0, .iload_n 1, .iload_n 2] = true := by decide +kernel
theorem d_258_22 : decode ov_m258.2.1 22 = .ok (.invokevirtual 282, 3) := by decide +kernel
theorem b_258_25_1 : ov_ds ov_m258.2.1 25 [.iconst 1] = true := by decide +kernel
theorem d_258_26 : decode ov_m258.2.1 26 = .ok (.if_icmp .ne 12, 3) := by decide +kernel
theorem b_258_38_1 : ov_ds ov_m258.2.1 38 [.iconst 0] = true := by decide +kernel
theorem d_258_39 : decode ov_m258.2.1 39 = .ok (.ireturn, 1) := by decide +kernel
theorem b_258_29_3 : ov_ds ov_m258.2.1 29 [.aload_n 0, .iload_n 1, .iload_n 2] = true := by decide +kernel
theorem d_258_32 : decode ov_m258.2.1 32 = .ok (.invokevirtual 302, 3) := by decide +kernel
theorem d_258_35 : decode ov_m258.2.1 35 = .ok (.ifCond .eq 5, 3) := by decide +kernel
theorem b_258_40_1 : ov_ds ov_m258.2.1 40 [.aload_n 0] = true := by decide +kernel
theorem d_258_41 : decode ov_m258.2.1 41 = .ok (.invokevirtual 329, 3) := by decide +kernel
theorem b_258_44_1 : ov_ds ov_m258.2.1 44 [.aload_n 0] = true := by decide +kernel
theorem d_258_45 : decode ov_m258.2.1 45 = .ok (.getfield 102, 3) := by decide +kernel
theorem b_258_48_8 : ov_ds ov_m258.2.1 48 [.iconst 4, .bipush 6, .iload_n 2, .imul, .iadd, .iload_n 1, .iadd, .iconst 1] = true := by decide +kernel
theorem d_258_57 : decode ov_m258.2.1 57 = .ok (.iastore, 1) := by decide +kernel
theorem b_258_58_2 : ov_ds ov_m258.2.1 58 [.aload_n 0, .dup] = true := by decide +kernel
theorem d_258_60 : decode ov_m258.2.1 60 = .ok (.getfield 322, 3) := by decide +kernel
theorem b_258_63_2 : ov_ds ov_m258.2.1 63 [.iconst 1, .iadd] = true := by decide +kernel
theorem d_258_65 : decode ov_m258.2.1 65 = .ok (.putfield 322, 3) := by decide +kernel
theorem b_258_68_1 : ov_ds ov_m258.2.1 68 [.iconst 1] = true := by decide +kernel
theorem d_258_69 : decode ov_m258.2.1 69 = .ok (.ireturn, 1) := by decide +kernel
theorem b_259_0_2 : ov_ds ov_m259.2.1 0 [.aload_n 0, .iconst 0] = true := by decide +kernel
theorem d_259_2 : decode ov_m259.2.1 2 = .ok (.putfield 1, 3) := by decide +kernel
theorem b_259_5_1 : ov_ds ov_m259.2.1 5 [.aload_n 0] = true := by decide +kernel
theorem d_259_6 : decode ov_m259.2.1 6 = .ok (.getfield 319, 3) := by decide +kernel
theorem d_259_9 : decode ov_m259.2.1 9 = .ok (.ifCond .ne 5, 3) := by decide +kernel
theorem b_259_14_2 : ov_ds ov_m259.2.1 14 [.aload_n 0, .dup] = true := by decide +kernel
theorem d_259_16 : decode ov_m259.2.1 16 = .ok (.getfield 319, 3) := by decide +kernel
theorem b_259_19_2 : ov_ds ov_m259.2.1 19 [.iconst 1, .isub] = true := by decide +kernel
theorem d_259_21 : decode ov_m259.2.1 21 = .ok (.putfield 319, 3) := by decide +kernel
theorem b_259_24_3 : ov_ds ov_m259.2.1 24 [.aload_n 0, .iconst 5, .aload_n 0] = true := by decide +kernel
theorem d_259_27 : decode ov_m259.2.1 27 = .ok (.getfield 319, 3) := by decide +kernel
theorem b_259_30_3 : ov_ds ov_m259.2.1 30 [.iadd, .iconst 0, .bipush 58] = true := by decide +kernel
theorem d_259_34 : decode ov_m259.2.1 34 = .ok (.invokevirtual 325, 3) := by decide +kernel
theorem b_259_37_2 : ov_ds ov_m259.2.1 37 [.aload_n 0, .dup] = true := by decide +kernel
theorem d_259_39 : decode ov_m259.2.1 39 = .ok (.getfield 322, 3) := by decide +kernel
theorem b_259_42_2 : ov_ds ov_m259.2.1 42 [.iconst 1, .iadd] = true := by decide +kernel
theorem d_259_44 : decode ov_m259.2.1 44 = .ok (.putfield 322, 3) := by decide +kernel
theorem b_259_47_1 : ov_ds ov_m259.2.1 47 [.iconst 1] = true := by decide +kernel
theorem d_259_48 : decode ov_m259.2.1 48 = .ok (.ireturn, 1) := by decide +kernel
theorem b_259_12_1 : ov_ds ov_m259.2.1 12 [.iconst 0] = true := by decide +kernel
theorem d_259_13 : decode ov_m259.2.1 13 = .ok (.ireturn, 1) := by decide +kernel
abbrev P_Mo_isKnown_90 (F : ov_H × ov_Z) (z : ov_Z) (h : ov_H) (x : Int) (y : Int) : Option ov_V → ov_Z → ov_H → Prop := fun r0 z' h' => ∃ r : Int, r0 = some (ov_i r) ∧ z = z' ∧ h = h' ∧ ((r = 0 ∨ r = 1) ∧ (r = 1 → ((h 96 (10 + 4 * (6 * y + x))) = 2 ∧ (h 103 (4 + 6 * y + x)) = 1)) ∧ (r = 0 → ¬ ((h 96 (10 + 4 * (6 * y + x))) = 2 ∧ (h 103 (4 + 6 * y + x)) = 1)))
set_option maxHeartbeats 4000000 in
theorem c_Mo_isKnown_90 {u : ov_U} {F : ov_H × ov_Z} {z : ov_Z} {h : ov_H} (d : Nat) (hd : 1 ≤ d) (U : ov_cap u) (I : ov_N F z h) (x : Int) (y : Int) (g_x : ov_g x) (g_y : ov_g y) (p0 : 0 ≤ x ∧ x ≤ 5 ∧ 0 ≤ y ∧ y ≤ 8) : ov_T u d ov_m244 [ov_r 90, ov_i x, ov_i y] z h (P_Mo_isKnown_90 F z h x y) := by
  refine ov_en rfl (Nat.le_of_ble_eq_true rfl) ?_
  show ov_R u d ov_m244 0 [(0, ov_r 90), (1, ov_i x), (2, ov_i y)] [] z h (P_Mo_isKnown_90 F z h x y)
  refine ov_blk (ls2 := [(0, ov_r 90), (1, ov_i x), (2, ov_i y)]) (st2 := [ov_i y, ov_i x, ov_r 90]) (pc2 := 3) b_244_0_3 rfl rfl ?_
  refine ov_cV (as := [ov_i x, ov_i y]) (st := []) (d2 := d - 1) d_244_3 lk_Mo_282 rfl (Nat.le_of_ble_eq_true rfl) (c := 1) (zb_90 I) (zs_90 I) ⟨by decide, rfl⟩ (by omega) (c_Mo_kindAt_90 (d - 1) (by omega) U I x y (by omega) (by omega) (by omega)) ?_
  rintro _ _ _ ⟨v2, rfl, rfl, rfl, f1⟩
  show ov_R u d ov_m244 6 [(0, ov_r 90), (1, ov_i x), (2, ov_i y)] [ov_i v2] z h (P_Mo_isKnown_90 F z h x y)
  have f3 : v2 = (h 96 (10 + 4 * (6 * y + x))) - 1 ∧ -1 ≤ v2 ∧ v2 ≤ 3 := f1
  clear f1
  refine ov_blk (ls2 := [(0, ov_r 90), (1, ov_i x), (2, ov_i y)]) (st2 := [ov_i 1, ov_i v2]) (pc2 := 7) b_244_6_1 rfl rfl ?_
  refine ov_icne (tgt := 31) d_244_7 (by decide) (by omega) (by omega) (fun c4 => ?_) (fun c4 => ?_)
  · skip
    refine ov_blk (ls2 := [(0, ov_r 90), (1, ov_i x), (2, ov_i y)]) (st2 := [ov_i 0]) (pc2 := 32) b_244_31_1 rfl rfl ?_
    exact ov_retz (st := []) d_244_32 rfl (by omega) ⟨_, rfl, rfl, rfl, (by show (0 = 0 ∨ 0 = 1) ∧ (0 = 1 → ((h 96 (10 + 4 * (6 * y + x))) = 2 ∧ (h 103 (4 + 6 * y + x)) = 1)) ∧ (0 = 0 → ¬ ((h 96 (10 + 4 * (6 * y + x))) = 2 ∧ (h 103 (4 + 6 * y + x)) = 1)); omega)⟩
  · skip
    refine ov_blk (ls2 := [(0, ov_r 90), (1, ov_i x), (2, ov_i y)]) (st2 := [ov_r 90]) (pc2 := 11) b_244_10_1 rfl rfl ?_
    refine ov_getf (v := ov_r 103) d_244_11 fl_Mo_102 (zb_90 I) (zs_90 I) (congrArg ov_r (rg_90_19 I)) ?_
    refine ov_blk (ls2 := [(0, ov_r 90), (1, ov_i x), (2, ov_i y)]) (st2 := [ov_i ((4 + (6 * y)) + x), ov_r 103]) (pc2 := 22) b_244_14_7 rfl rfl ?_
    refine ov_iald d_244_22 (zb_103 I) (zs_103 I) (by omega) ?_
    have g5 := g103 I ((4 + (6 * y)) + x)
    refine ov_blk (ls2 := [(0, ov_r 90), (1, ov_i x), (2, ov_i y)]) (st2 := [ov_i 1, ov_i (h 103 ((4 + (6 * y)) + x))]) (pc2 := 24) b_244_23_1 rfl rfl ?_
    refine ov_icne (tgt := 31) d_244_24 (by decide) (by omega) (by omega) (fun c6 => ?_) (fun c6 => ?_)
    · skip
      refine ov_blk (ls2 := [(0, ov_r 90), (1, ov_i x), (2, ov_i y)]) (st2 := [ov_i 0]) (pc2 := 32) b_244_31_1 rfl rfl ?_
      exact ov_retz (st := []) d_244_32 rfl (by omega) ⟨_, rfl, rfl, rfl, (by show (0 = 0 ∨ 0 = 1) ∧ (0 = 1 → ((h 96 (10 + 4 * (6 * y + x))) = 2 ∧ (h 103 (4 + 6 * y + x)) = 1)) ∧ (0 = 0 → ¬ ((h 96 (10 + 4 * (6 * y + x))) = 2 ∧ (h 103 (4 + 6 * y + x)) = 1)); omega)⟩
    · skip
      refine ov_blk (ls2 := [(0, ov_r 90), (1, ov_i x), (2, ov_i y)]) (st2 := [ov_i 1]) (pc2 := 28) b_244_27_1 rfl rfl ?_
      refine ov_goto (tgt := 32) d_244_28 (by decide) ?_
      exact ov_retz (st := []) d_244_32 rfl (by omega) ⟨_, rfl, rfl, rfl, (by show (1 = 0 ∨ 1 = 1) ∧ (1 = 1 → ((h 96 (10 + 4 * (6 * y + x))) = 2 ∧ (h 103 (4 + 6 * y + x)) = 1)) ∧ (1 = 0 → ¬ ((h 96 (10 + 4 * (6 * y + x))) = 2 ∧ (h 103 (4 + 6 * y + x)) = 1)); omega)⟩
abbrev P_Mo_runTime_90 (F : ov_H × ov_Z) (z : ov_Z) (h : ov_H) : Option ov_V → ov_Z → ov_H → Prop := fun r0 z' h' => ∃ r : Int, r0 = some (ov_i r) ∧ z = z' ∧ h = h' ∧ (0 ≤ r ∧ r ≤ 30)
set_option maxHeartbeats 4000000 in
theorem c_Mo_runTime_90 {u : ov_U} {F : ov_H × ov_Z} {z : ov_Z} {h : ov_H} (d : Nat) (hd : 0 ≤ d) (U : ov_cap u) (I : ov_N F z h) : ov_T u d ov_m256 [ov_r 90] z h (P_Mo_runTime_90 F z h) := by
  refine ov_en rfl (Nat.le_of_ble_eq_true rfl) ?_
  show ov_R u d ov_m256 0 [(0, ov_r 90)] [] z h (P_Mo_runTime_90 F z h)
  refine ov_blk (ls2 := [(0, ov_r 90)]) (st2 := [ov_r 90]) (pc2 := 1) b_256_0_1 rfl rfl ?_
  refine ov_getf (v := ov_r 96) d_256_1 fl_Mo_81 (zb_90 I) (zs_90 I) (congrArg ov_r (rg_90_10 I)) ?_
  refine ov_blk (ls2 := [(0, ov_r 90)]) (st2 := [ov_i 3, ov_r 96]) (pc2 := 5) b_256_4_1 rfl rfl ?_
  refine ov_iald d_256_5 (zb_96 I) (zs_96 I) (by omega) ?_
  have g1 := t96_3 I
  refine ov_ifge (tgt := 18) d_256_6 (by decide) (by omega) (fun c2 => ?_) (fun c2 => ?_)
  · skip
    refine ov_blk (ls2 := [(0, ov_r 90)]) (st2 := [ov_r 90]) (pc2 := 19) b_256_18_1 rfl rfl ?_
    refine ov_getf (v := ov_r 96) d_256_19 fl_Mo_81 (zb_90 I) (zs_90 I) (congrArg ov_r (rg_90_10 I)) ?_
    refine ov_blk (ls2 := [(0, ov_r 90)]) (st2 := [ov_i 3, ov_r 96]) (pc2 := 23) b_256_22_1 rfl rfl ?_
    refine ov_iald d_256_23 (zb_96 I) (zs_96 I) (by omega) ?_
    exact ov_reti (st := []) d_256_24 rfl ⟨_, rfl, rfl, rfl, (by show 0 ≤ (h 96 3) ∧ (h 96 3) ≤ 30; omega)⟩
  · skip
    refine ov_blk (ls2 := [(0, ov_r 90)]) (st2 := [ov_r 90]) (pc2 := 10) b_256_9_1 rfl rfl ?_
    refine ov_getf (v := ov_r 96) d_256_10 fl_Mo_81 (zb_90 I) (zs_90 I) (congrArg ov_r (rg_90_10 I)) ?_
    refine ov_blk (ls2 := [(0, ov_r 90)]) (st2 := [ov_i 2, ov_r 96]) (pc2 := 14) b_256_13_1 rfl rfl ?_
    refine ov_iald d_256_14 (zb_96 I) (zs_96 I) (by omega) ?_
    have g4 := t96_2 I
    refine ov_goto (tgt := 24) d_256_15 (by decide) ?_
    exact ov_reti (st := []) d_256_24 rfl ⟨_, rfl, rfl, rfl, (by show 0 ≤ (h 96 2) ∧ (h 96 2) ≤ 30; omega)⟩
abbrev P_Mo_slowTime_90 (F : ov_H × ov_Z) (z : ov_Z) (h : ov_H) : Option ov_V → ov_Z → ov_H → Prop := fun r0 z' h' => ∃ r : Int, r0 = some (ov_i r) ∧ z = z' ∧ h = h' ∧ (0 ≤ r ∧ r ≤ 30)
set_option maxHeartbeats 4000000 in
theorem c_Mo_slowTime_90 {u : ov_U} {F : ov_H × ov_Z} {z : ov_Z} {h : ov_H} (d : Nat) (hd : 0 ≤ d) (U : ov_cap u) (I : ov_N F z h) : ov_T u d ov_m291 [ov_r 90] z h (P_Mo_slowTime_90 F z h) := by
  refine ov_en rfl (Nat.le_of_ble_eq_true rfl) ?_
  show ov_R u d ov_m291 0 [(0, ov_r 90)] [] z h (P_Mo_slowTime_90 F z h)
  refine ov_blk (ls2 := [(0, ov_r 90)]) (st2 := [ov_r 90]) (pc2 := 1) b_291_0_1 rfl rfl ?_
  refine ov_getf (v := ov_r 96) d_291_1 fl_Mo_81 (zb_90 I) (zs_90 I) (congrArg ov_r (rg_90_10 I)) ?_
  refine ov_blk (ls2 := [(0, ov_r 90)]) (st2 := [ov_i 4, ov_r 96]) (pc2 := 5) b_291_4_1 rfl rfl ?_
  refine ov_iald d_291_5 (zb_96 I) (zs_96 I) (by omega) ?_
  have g1 := t96_4 I
  refine ov_ifge (tgt := 18) d_291_6 (by decide) (by omega) (fun c2 => ?_) (fun c2 => ?_)
  · skip
    refine ov_blk (ls2 := [(0, ov_r 90)]) (st2 := [ov_r 90]) (pc2 := 19) b_291_18_1 rfl rfl ?_
    refine ov_getf (v := ov_r 96) d_291_19 fl_Mo_81 (zb_90 I) (zs_90 I) (congrArg ov_r (rg_90_10 I)) ?_
    refine ov_blk (ls2 := [(0, ov_r 90)]) (st2 := [ov_i 4, ov_r 96]) (pc2 := 23) b_291_22_1 rfl rfl ?_
    refine ov_iald d_291_23 (zb_96 I) (zs_96 I) (by omega) ?_
    exact ov_reti (st := []) d_291_24 rfl ⟨_, rfl, rfl, rfl, (by show 0 ≤ (h 96 4) ∧ (h 96 4) ≤ 30; omega)⟩
  · skip
    refine ov_blk (ls2 := [(0, ov_r 90)]) (st2 := [ov_r 90]) (pc2 := 10) b_291_9_1 rfl rfl ?_
    refine ov_getf (v := ov_r 96) d_291_10 fl_Mo_81 (zb_90 I) (zs_90 I) (congrArg ov_r (rg_90_10 I)) ?_
    refine ov_blk (ls2 := [(0, ov_r 90)]) (st2 := [ov_i 2, ov_r 96]) (pc2 := 14) b_291_13_1 rfl rfl ?_
    refine ov_iald d_291_14 (zb_96 I) (zs_96 I) (by omega) ?_
    have g4 := t96_2 I
    refine ov_goto (tgt := 24) d_291_15 (by decide) ?_
    exact ov_reti (st := []) d_291_24 rfl ⟨_, rfl, rfl, rfl, (by show 0 ≤ (h 96 2) ∧ (h 96 2) ≤ 30; omega)⟩
abbrev P_Mo_light_90 (F : ov_H × ov_Z) (z : ov_Z) (h : ov_H) (x : Int) (y : Int) (w : Int) : Option ov_V → ov_Z → ov_H → Prop := fun r0 z' h' => ∃ r : Int, r0 = some (ov_i r) ∧ ov_N F z' h' ∧ ((h' 90 2) = (h 90 2) ∧ (h' 90 7) = (h 90 7) ∧ (h' 90 8) = (h 90 8) ∧ (h' 90 13) = (h 90 13) ∧ (h' 90 20) = (h 90 20) ∧ (h' 90 22) = (h 90 22) ∧ (h' 90 25) = (h 90 25) ∧ (h' 90 26) = (h 90 26) ∧ (h' 90 28) = (h 90 28) ∧ (h' 90 29) = (h 90 29) ∧ (h' 90 30) = (h 90 30) ∧ (h' 90 34) = (h 90 34) ∧ -2147483648 ≤ r ∧ r ≤ 2147483647) ∧ h' 91 = h 91 ∧ h' 92 = h 92 ∧ h' 93 = h 93 ∧ h' 94 = h 94 ∧ h' 95 = h 95 ∧ h' 96 = h 96 ∧ h' 97 = h 97 ∧ h' 98 = h 98 ∧ h' 99 = h 99 ∧ h' 100 = h 100 ∧ h' 103 = h 103 ∧ h' 105 = h 105 ∧ h' 106 = h 106 ∧ h' 109 = h 109 ∧ h' 114 = h 114
set_option maxHeartbeats 4000000 in
theorem c_Mo_light_90 {u : ov_U} {F : ov_H × ov_Z} {z : ov_Z} {h : ov_H} (d : Nat) (hd : 2 ≤ d) (U : ov_cap u) (I : ov_N F z h) (x : Int) (y : Int) (w : Int) (g_x : ov_g x) (g_y : ov_g y) (g_w : ov_g w) : ov_T u d ov_m239 [ov_r 90, ov_i x, ov_i y, ov_i w] z h (P_Mo_light_90 F z h x y w) := by
  refine ov_en rfl (Nat.le_of_ble_eq_true rfl) ?_
  show ov_R u d ov_m239 0 [(0, ov_r 90), (1, ov_i x), (2, ov_i y), (3, ov_i w)] [] z h (P_Mo_light_90 F z h x y w)
  refine ov_blk (ls2 := [(0, ov_r 90), (1, ov_i x), (2, ov_i y), (3, ov_i w)]) (st2 := [ov_i 0, ov_r 90]) (pc2 := 2) b_239_0_2 rfl rfl ?_
  refine ov_putf (x := 0) d_239_2 fl_Mo_1 (zb_90 I) (zs_90 I) rfl nk_0 rfl ?_
  have I1 := up_90_0 (x := 0) I (by omega)
  refine ov_blk (ls2 := [(0, ov_r 90), (1, ov_i x), (2, ov_i y), (3, ov_i w)]) (st2 := [ov_i y, ov_i x, ov_r 90]) (pc2 := 8) b_239_5_3 rfl rfl ?_
  refine ov_cV (as := [ov_i x, ov_i y]) (st := []) (d2 := d - 1) d_239_8 lk_Mo_296 rfl (Nat.le_of_ble_eq_true rfl) (c := 1) (zb_90 I1) (zs_90 I1) ⟨by decide, rfl⟩ (by omega) (c_Mo_isCorner_90 (d - 1) (by omega) U I1 x y (by omega) (by omega)) ?_
  rintro _ _ _ ⟨v3, rfl, rfl, rfl, f2⟩
  show ov_R u d ov_m239 11 [(0, ov_r 90), (1, ov_i x), (2, ov_i y), (3, ov_i w)] [ov_i v3] z (ov_up h 90 0 0) (P_Mo_light_90 F z h x y w)
  have f4 : (v3 = 0 ∨ v3 = 1) ∧ (v3 = 1 → 0 ≤ x ∧ x ≤ 5 ∧ 0 ≤ y ∧ y ≤ 8 ∧ x < (h 96 0) ∧ y < (h 96 1)) := f2
  clear f2
  refine ov_ifeq (tgt := 37) d_239_11 (by decide) (by omega) (fun c5 => ?_) (fun c5 => ?_)
  · skip
    have f4_ : v3 = 0 := by omega
    clear f4
    refine ov_blk (ls2 := [(0, ov_r 90), (1, ov_i x), (2, ov_i y), (3, ov_i w)]) (st2 := [ov_i (-1)]) (pc2 := 38) b_239_37_1 rfl rfl ?_
    exact ov_reti (st := []) d_239_38 rfl ⟨_, rfl, I1, ⟨rfl, rfl, rfl, rfl, rfl, rfl, rfl, rfl, rfl, rfl, rfl, rfl, (by show -2147483648 ≤ (-1) ∧ (-1) ≤ 2147483647; omega)⟩, rfl, rfl, rfl, rfl, rfl, rfl, rfl, rfl, rfl, rfl, rfl, rfl, rfl, rfl, rfl⟩
  · skip
    have f4_ : v3 = 1 := by omega
    have f6 : 0 ≤ x ∧ x ≤ 5 ∧ 0 ≤ y ∧ y ≤ 8 ∧ x < (h 96 0) ∧ y < (h 96 1) := f4.2 (by omega)
    clear f4
    refine ov_blk (ls2 := [(0, ov_r 90), (1, ov_i x), (2, ov_i y), (3, ov_i w)]) (st2 := [ov_i 5, ov_i 0, ov_i w]) (pc2 := 17) b_239_14_3 rfl rfl ?_
    refine ov_cS (as := [ov_i w, ov_i 0, ov_i 5]) (st := []) (d2 := d - 1) d_239_17 lk_Mo_299 rfl (Nat.le_of_ble_eq_true rfl) (by omega) (c_Mo_within (d - 1) (by omega) U I1 w 0 5 (by omega) (by omega) (by omega)) ?_
    rintro _ _ _ ⟨v8, rfl, rfl, rfl, f7⟩
    show ov_R u d ov_m239 20 [(0, ov_r 90), (1, ov_i x), (2, ov_i y), (3, ov_i w)] [ov_i v8] z (ov_up h 90 0 0) (P_Mo_light_90 F z h x y w)
    have f9 : (v8 = 0 ∨ v8 = 1) ∧ (v8 = 1 → (0 : Int) ≤ w ∧ w ≤ (5 : Int)) ∧ (v8 = 0 → w < (0 : Int) ∨ (5 : Int) < w) := f7
    clear f7
    refine ov_ifeq (tgt := 37) d_239_20 (by decide) (by omega) (fun c10 => ?_) (fun c10 => ?_)
    · skip
      have f9_ : v8 = 0 := by omega
      have f11 : w < (0 : Int) ∨ (5 : Int) < w := f9.2.2 (by omega)
      clear f9
      refine ov_blk (ls2 := [(0, ov_r 90), (1, ov_i x), (2, ov_i y), (3, ov_i w)]) (st2 := [ov_i (-1)]) (pc2 := 38) b_239_37_1 rfl rfl ?_
      exact ov_reti (st := []) d_239_38 rfl ⟨_, rfl, I1, ⟨rfl, rfl, rfl, rfl, rfl, rfl, rfl, rfl, rfl, rfl, rfl, rfl, (by show -2147483648 ≤ (-1) ∧ (-1) ≤ 2147483647; omega)⟩, rfl, rfl, rfl, rfl, rfl, rfl, rfl, rfl, rfl, rfl, rfl, rfl, rfl, rfl, rfl⟩
    · skip
      have f9_ : v8 = 1 := by omega
      have f12 : (0 : Int) ≤ w ∧ w ≤ (5 : Int) := f9.2.1 (by omega)
      clear f9
      refine ov_blk (ls2 := [(0, ov_r 90), (1, ov_i x), (2, ov_i y), (3, ov_i w)]) (st2 := [ov_i 5, ov_i w]) (pc2 := 25) b_239_23_2 rfl rfl ?_
      refine ov_icge (tgt := 39) d_239_25 (by decide) (by omega) (by omega) (fun c13 => ?_) (fun c13 => ?_)
      · skip
        refine ov_blk (ls2 := [(0, ov_r 90), (1, ov_i x), (2, ov_i y), (3, ov_i w)]) (st2 := [ov_i 5, ov_i w]) (pc2 := 41) b_239_39_2 rfl rfl ?_
        refine ov_icne (tgt := 60) d_239_41 (by decide) (by omega) (by omega) (fun c14 => ?_) (fun c14 => ?_)
        · skip
          refine ov_blk (ls2 := [(0, ov_r 90), (1, ov_i x), (2, ov_i y), (3, ov_i w)]) (st2 := [ov_i w]) (pc2 := 61) b_239_60_1 rfl rfl ?_
          refine ov_ifne (tgt := 73) d_239_61 (by decide) (by omega) (fun c15 => ?_) (fun c15 => ?_)
          · skip
            refine ov_blk (ls2 := [(0, ov_r 90), (1, ov_i x), (2, ov_i y), (3, ov_i w)]) (st2 := [ov_i 4, ov_i w]) (pc2 := 75) b_239_73_2 rfl rfl ?_
            refine ov_icge (tgt := 88) d_239_75 (by decide) (by omega) (by omega) (fun c16 => ?_) (fun c16 => ?_)
            · skip
              refine ov_blk (ls2 := [(0, ov_r 90), (1, ov_i x), (2, ov_i y), (3, ov_i w)]) (st2 := [ov_i y, ov_i x, ov_r 90]) (pc2 := 91) b_239_88_3 rfl rfl ?_
              refine ov_cV (as := [ov_i x, ov_i y]) (st := []) (d2 := d - 1) d_239_91 lk_Mo_302 rfl (Nat.le_of_ble_eq_true rfl) (c := 1) (zb_90 I1) (zs_90 I1) ⟨by decide, rfl⟩ (by omega) (c_Mo_isKnown_90 (d - 1) (by omega) U I1 x y (by omega) (by omega) (by omega)) ?_
              rintro _ _ _ ⟨v18, rfl, rfl, rfl, f17⟩
              show ov_R u d ov_m239 94 [(0, ov_r 90), (1, ov_i x), (2, ov_i y), (3, ov_i w)] [ov_i v18] z (ov_up h 90 0 0) (P_Mo_light_90 F z h x y w)
              have f19 : (v18 = 0 ∨ v18 = 1) ∧ (v18 = 1 → ((h 96 (10 + 4 * (6 * y + x))) = 2 ∧ (h 103 (4 + 6 * y + x)) = 1)) ∧ (v18 = 0 → ¬ ((h 96 (10 + 4 * (6 * y + x))) = 2 ∧ (h 103 (4 + 6 * y + x)) = 1)) := f17
              clear f17
              refine ov_ifeq (tgt := 101) d_239_94 (by decide) (by omega) (fun c20 => ?_) (fun c20 => ?_)
              · skip
                have f19_ : v18 = 0 := by omega
                have f21 : ¬ ((h 96 (10 + 4 * (6 * y + x))) = 2 ∧ (h 103 (4 + 6 * y + x)) = 1) := f19.2.2 (by omega)
                clear f19
                refine ov_blk (ls2 := [(0, ov_r 90), (1, ov_i x), (2, ov_i y), (3, ov_i w)]) (st2 := [ov_i 0]) (pc2 := 102) b_239_101_1 rfl rfl ?_
                exact ov_reti (st := []) d_239_102 rfl ⟨_, rfl, I1, ⟨rfl, rfl, rfl, rfl, rfl, rfl, rfl, rfl, rfl, rfl, rfl, rfl, (by show -2147483648 ≤ 0 ∧ 0 ≤ 2147483647; omega)⟩, rfl, rfl, rfl, rfl, rfl, rfl, rfl, rfl, rfl, rfl, rfl, rfl, rfl, rfl, rfl⟩
              · skip
                have f19_ : v18 = 1 := by omega
                have f22 : ((h 96 (10 + 4 * (6 * y + x))) = 2 ∧ (h 103 (4 + 6 * y + x)) = 1) := f19.2.1 (by omega)
                clear f19
                refine ov_blk (ls2 := [(0, ov_r 90), (1, ov_i x), (2, ov_i y), (3, ov_i w)]) (st2 := [ov_i 1]) (pc2 := 98) b_239_97_1 rfl rfl ?_
                refine ov_goto (tgt := 102) d_239_98 (by decide) ?_
                exact ov_reti (st := []) d_239_102 rfl ⟨_, rfl, I1, ⟨rfl, rfl, rfl, rfl, rfl, rfl, rfl, rfl, rfl, rfl, rfl, rfl, (by show -2147483648 ≤ 1 ∧ 1 ≤ 2147483647; omega)⟩, rfl, rfl, rfl, rfl, rfl, rfl, rfl, rfl, rfl, rfl, rfl, rfl, rfl, rfl, rfl⟩
            · omega
          · omega
        · skip
          refine ov_blk (ls2 := [(0, ov_r 90), (1, ov_i x), (2, ov_i y), (3, ov_i w)]) (st2 := [ov_r 90]) (pc2 := 45) b_239_44_1 rfl rfl ?_
          refine ov_getf (v := ov_r 96) d_239_45 fl_Mo_81 (zb_90 I1) (zs_90 I1) (congrArg ov_r (rg_90_10 I1)) ?_
          refine ov_blk (ls2 := [(0, ov_r 90), (1, ov_i x), (2, ov_i y), (3, ov_i w)]) (st2 := [ov_i ((226 + (6 * y)) + x), ov_r 96]) (pc2 := 58) b_239_48_7 rfl rfl ?_
          refine ov_iald d_239_58 (zb_96 I1) (zs_96 I1) (by omega) ?_
          show ov_R u d ov_m239 59 [(0, ov_r 90), (1, ov_i x), (2, ov_i y), (3, ov_i w)] [ov_i (h 96 ((226 + (6 * y)) + x))] z (ov_up h 90 0 0) (P_Mo_light_90 F z h x y w)
          have g23 := g96 I ((226 + (6 * y)) + x)
          exact ov_reti (st := []) d_239_59 rfl ⟨_, rfl, I1, ⟨rfl, rfl, rfl, rfl, rfl, rfl, rfl, rfl, rfl, rfl, rfl, rfl, (by show -2147483648 ≤ (h 96 ((226 + (6 * y)) + x)) ∧ (h 96 ((226 + (6 * y)) + x)) ≤ 2147483647; omega)⟩, rfl, rfl, rfl, rfl, rfl, rfl, rfl, rfl, rfl, rfl, rfl, rfl, rfl, rfl, rfl⟩
      · skip
        refine ov_blk (ls2 := [(0, ov_r 90), (1, ov_i x), (2, ov_i y), (3, ov_i w)]) (st2 := [ov_i y, ov_i x, ov_r 90]) (pc2 := 31) b_239_28_3 rfl rfl ?_
        refine ov_cV (as := [ov_i x, ov_i y]) (st := []) (d2 := d - 1) d_239_31 lk_Mo_282 rfl (Nat.le_of_ble_eq_true rfl) (c := 1) (zb_90 I1) (zs_90 I1) ⟨by decide, rfl⟩ (by omega) (c_Mo_kindAt_90 (d - 1) (by omega) U I1 x y (by omega) (by omega) (by omega)) ?_
        rintro _ _ _ ⟨v25, rfl, rfl, rfl, f24⟩
        show ov_R u d ov_m239 34 [(0, ov_r 90), (1, ov_i x), (2, ov_i y), (3, ov_i w)] [ov_i v25] z (ov_up h 90 0 0) (P_Mo_light_90 F z h x y w)
        have f26 : v25 = (h 96 (10 + 4 * (6 * y + x))) - 1 ∧ -1 ≤ v25 ∧ v25 ≤ 3 := f24
        clear f24
        refine ov_ifge (tgt := 39) d_239_34 (by decide) (by omega) (fun c27 => ?_) (fun c27 => ?_)
        · skip
          refine ov_blk (ls2 := [(0, ov_r 90), (1, ov_i x), (2, ov_i y), (3, ov_i w)]) (st2 := [ov_i 5, ov_i w]) (pc2 := 41) b_239_39_2 rfl rfl ?_
          refine ov_icne (tgt := 60) d_239_41 (by decide) (by omega) (by omega) (fun c28 => ?_) (fun c28 => ?_)
          · skip
            refine ov_blk (ls2 := [(0, ov_r 90), (1, ov_i x), (2, ov_i y), (3, ov_i w)]) (st2 := [ov_i w]) (pc2 := 61) b_239_60_1 rfl rfl ?_
            refine ov_ifne (tgt := 73) d_239_61 (by decide) (by omega) (fun c29 => ?_) (fun c29 => ?_)
            · skip
              refine ov_blk (ls2 := [(0, ov_r 90), (1, ov_i x), (2, ov_i y), (3, ov_i w)]) (st2 := [ov_i 4, ov_i w]) (pc2 := 75) b_239_73_2 rfl rfl ?_
              refine ov_icge (tgt := 88) d_239_75 (by decide) (by omega) (by omega) (fun c30 => ?_) (fun c30 => ?_)
              · skip
                refine ov_blk (ls2 := [(0, ov_r 90), (1, ov_i x), (2, ov_i y), (3, ov_i w)]) (st2 := [ov_i y, ov_i x, ov_r 90]) (pc2 := 91) b_239_88_3 rfl rfl ?_
                refine ov_cV (as := [ov_i x, ov_i y]) (st := []) (d2 := d - 1) d_239_91 lk_Mo_302 rfl (Nat.le_of_ble_eq_true rfl) (c := 1) (zb_90 I1) (zs_90 I1) ⟨by decide, rfl⟩ (by omega) (c_Mo_isKnown_90 (d - 1) (by omega) U I1 x y (by omega) (by omega) (by omega)) ?_
                rintro _ _ _ ⟨v32, rfl, rfl, rfl, f31⟩
                show ov_R u d ov_m239 94 [(0, ov_r 90), (1, ov_i x), (2, ov_i y), (3, ov_i w)] [ov_i v32] z (ov_up h 90 0 0) (P_Mo_light_90 F z h x y w)
                have f33 : (v32 = 0 ∨ v32 = 1) ∧ (v32 = 1 → ((h 96 (10 + 4 * (6 * y + x))) = 2 ∧ (h 103 (4 + 6 * y + x)) = 1)) ∧ (v32 = 0 → ¬ ((h 96 (10 + 4 * (6 * y + x))) = 2 ∧ (h 103 (4 + 6 * y + x)) = 1)) := f31
                clear f31
                refine ov_ifeq (tgt := 101) d_239_94 (by decide) (by omega) (fun c34 => ?_) (fun c34 => ?_)
                · skip
                  have f33_ : v32 = 0 := by omega
                  have f35 : ¬ ((h 96 (10 + 4 * (6 * y + x))) = 2 ∧ (h 103 (4 + 6 * y + x)) = 1) := f33.2.2 (by omega)
                  clear f33
                  refine ov_blk (ls2 := [(0, ov_r 90), (1, ov_i x), (2, ov_i y), (3, ov_i w)]) (st2 := [ov_i 0]) (pc2 := 102) b_239_101_1 rfl rfl ?_
                  exact ov_reti (st := []) d_239_102 rfl ⟨_, rfl, I1, ⟨rfl, rfl, rfl, rfl, rfl, rfl, rfl, rfl, rfl, rfl, rfl, rfl, (by show -2147483648 ≤ 0 ∧ 0 ≤ 2147483647; omega)⟩, rfl, rfl, rfl, rfl, rfl, rfl, rfl, rfl, rfl, rfl, rfl, rfl, rfl, rfl, rfl⟩
                · skip
                  have f33_ : v32 = 1 := by omega
                  have f36 : ((h 96 (10 + 4 * (6 * y + x))) = 2 ∧ (h 103 (4 + 6 * y + x)) = 1) := f33.2.1 (by omega)
                  clear f33
                  refine ov_blk (ls2 := [(0, ov_r 90), (1, ov_i x), (2, ov_i y), (3, ov_i w)]) (st2 := [ov_i 1]) (pc2 := 98) b_239_97_1 rfl rfl ?_
                  refine ov_goto (tgt := 102) d_239_98 (by decide) ?_
                  exact ov_reti (st := []) d_239_102 rfl ⟨_, rfl, I1, ⟨rfl, rfl, rfl, rfl, rfl, rfl, rfl, rfl, rfl, rfl, rfl, rfl, (by show -2147483648 ≤ 1 ∧ 1 ≤ 2147483647; omega)⟩, rfl, rfl, rfl, rfl, rfl, rfl, rfl, rfl, rfl, rfl, rfl, rfl, rfl, rfl, rfl⟩
              · skip
                refine ov_blk (ls2 := [(0, ov_r 90), (1, ov_i x), (2, ov_i y), (3, ov_i w)]) (st2 := [ov_i w, ov_i y, ov_i x, ov_r 90]) (pc2 := 82) b_239_78_4 rfl rfl ?_
                refine ov_cV (as := [ov_i x, ov_i y, ov_i w]) (st := []) (d2 := d - 1) d_239_82 lk_Mo_289 rfl (Nat.le_of_ble_eq_true rfl) (c := 1) (zb_90 I1) (zs_90 I1) ⟨by decide, rfl⟩ (by omega) (c_Mo_lightAt_90 (d - 1) (by omega) U I1 x y w (by omega) (by omega) (by omega) (by omega) (by omega)) ?_
                rintro _ _ _ ⟨v38, rfl, rfl, rfl, f37⟩
                show ov_R u d ov_m239 85 [(0, ov_r 90), (1, ov_i x), (2, ov_i y), (3, ov_i w)] [ov_i v38] z (ov_up h 90 0 0) (P_Mo_light_90 F z h x y w)
                have f39 : v38 = (h 96 (10 + 4 * (6 * y + x) + w)) ∧ (w = 1 → 0 ≤ v38 ∧ v38 ≤ 60) ∧ (w = 2 → 0 ≤ v38 ∧ v38 ≤ 59) ∧ (w = 3 → 0 ≤ v38 ∧ v38 ≤ 60) := f37
                clear f37
                refine ov_goto (tgt := 102) d_239_85 (by decide) ?_
                exact ov_reti (st := []) d_239_102 rfl ⟨_, rfl, I1, ⟨rfl, rfl, rfl, rfl, rfl, rfl, rfl, rfl, rfl, rfl, rfl, rfl, (by show -2147483648 ≤ v38 ∧ v38 ≤ 2147483647; omega)⟩, rfl, rfl, rfl, rfl, rfl, rfl, rfl, rfl, rfl, rfl, rfl, rfl, rfl, rfl, rfl⟩
            · skip
              refine ov_blk (ls2 := [(0, ov_r 90), (1, ov_i x), (2, ov_i y), (3, ov_i w)]) (st2 := [ov_i y, ov_i x, ov_r 90]) (pc2 := 67) b_239_64_3 rfl rfl ?_
              refine ov_cV (as := [ov_i x, ov_i y]) (st := []) (d2 := d - 1) d_239_67 lk_Mo_282 rfl (Nat.le_of_ble_eq_true rfl) (c := 1) (zb_90 I1) (zs_90 I1) ⟨by decide, rfl⟩ (by omega) (c_Mo_kindAt_90 (d - 1) (by omega) U I1 x y (by omega) (by omega) (by omega)) ?_
              rintro _ _ _ ⟨v41, rfl, rfl, rfl, f40⟩
              show ov_R u d ov_m239 70 [(0, ov_r 90), (1, ov_i x), (2, ov_i y), (3, ov_i w)] [ov_i v41] z (ov_up h 90 0 0) (P_Mo_light_90 F z h x y w)
              have f42 : v41 = (h 96 (10 + 4 * (6 * y + x))) - 1 ∧ -1 ≤ v41 ∧ v41 ≤ 3 := f40
              clear f40
              refine ov_goto (tgt := 102) d_239_70 (by decide) ?_
              exact ov_reti (st := []) d_239_102 rfl ⟨_, rfl, I1, ⟨rfl, rfl, rfl, rfl, rfl, rfl, rfl, rfl, rfl, rfl, rfl, rfl, (by show -2147483648 ≤ v41 ∧ v41 ≤ 2147483647; omega)⟩, rfl, rfl, rfl, rfl, rfl, rfl, rfl, rfl, rfl, rfl, rfl, rfl, rfl, rfl, rfl⟩
          · omega
        · skip
          refine ov_blk (ls2 := [(0, ov_r 90), (1, ov_i x), (2, ov_i y), (3, ov_i w)]) (st2 := [ov_i (-1)]) (pc2 := 38) b_239_37_1 rfl rfl ?_
          exact ov_reti (st := []) d_239_38 rfl ⟨_, rfl, I1, ⟨rfl, rfl, rfl, rfl, rfl, rfl, rfl, rfl, rfl, rfl, rfl, rfl, (by show -2147483648 ≤ (-1) ∧ (-1) ≤ 2147483647; omega)⟩, rfl, rfl, rfl, rfl, rfl, rfl, rfl, rfl, rfl, rfl, rfl, rfl, rfl, rfl, rfl⟩
abbrev P_Mo_mayAsk_90 (F : ov_H × ov_Z) (z : ov_Z) (h : ov_H) (x : Int) (y : Int) (way : Int) (s : Int) : Option ov_V → ov_Z → ov_H → Prop := fun r0 z' h' => ∃ r : Int, r0 = some (ov_i r) ∧ z = z' ∧ h = h' ∧ ((r = 0 ∨ r = 1) ∧ (r = 1 → 0 ≤ x ∧ x ≤ 5 ∧ 0 ≤ y ∧ y ≤ 8 ∧ 0 ≤ way ∧ way ≤ 1 ∧ 0 ≤ s ∧ s ≤ 1000000 ∧ ((way = 0 → x < (h 96 0) - 1) ∧ (¬ way = 0 → y < (h 96 1) - 1)) ∧ (((h 96 (10 + 4 * (6 * y + x))) = 1 ∨ (h 96 (10 + 4 * (6 * y + x))) = 2) → (way = 0 → 0 < (h 96 (10 + 4 * (6 * y + x) + 3))) ∧ (¬ way = 0 → (h 96 (10 + 4 * (6 * y + x) + 3)) < (h 96 (10 + 4 * (6 * y + x) + 1))))))
set_option maxHeartbeats 4000000 in
theorem c_Mo_mayAsk_90 {u : ov_U} {F : ov_H × ov_Z} {z : ov_Z} {h : ov_H} (d : Nat) (hd : 3 ≤ d) (U : ov_cap u) (I : ov_N F z h) (x : Int) (y : Int) (way : Int) (s : Int) (g_x : ov_g x) (g_y : ov_g y) (g_way : ov_g way) (g_s : ov_g s) : ov_T u d ov_m246 [ov_r 90, ov_i x, ov_i y, ov_i way, ov_i s] z h (P_Mo_mayAsk_90 F z h x y way s) := by
  refine ov_en rfl (Nat.le_of_ble_eq_true rfl) ?_
  show ov_R u d ov_m246 0 [(0, ov_r 90), (1, ov_i x), (2, ov_i y), (3, ov_i way), (4, ov_i s)] [] z h (P_Mo_mayAsk_90 F z h x y way s)
  refine ov_blk (ls2 := [(0, ov_r 90), (1, ov_i x), (2, ov_i y), (3, ov_i way), (4, ov_i s)]) (st2 := [ov_i y, ov_i x, ov_r 90]) (pc2 := 3) b_246_0_3 rfl rfl ?_
  refine ov_cV (as := [ov_i x, ov_i y]) (st := []) (d2 := d - 1) d_246_3 lk_Mo_296 rfl (Nat.le_of_ble_eq_true rfl) (c := 1) (zb_90 I) (zs_90 I) ⟨by decide, rfl⟩ (by omega) (c_Mo_isCorner_90 (d - 1) (by omega) U I x y (by omega) (by omega)) ?_
  rintro _ _ _ ⟨v2, rfl, rfl, rfl, f1⟩
  show ov_R u d ov_m246 6 [(0, ov_r 90), (1, ov_i x), (2, ov_i y), (3, ov_i way), (4, ov_i s)] [ov_i v2] z h (P_Mo_mayAsk_90 F z h x y way s)
  have f3 : (v2 = 0 ∨ v2 = 1) ∧ (v2 = 1 → 0 ≤ x ∧ x ≤ 5 ∧ 0 ≤ y ∧ y ≤ 8 ∧ x < (h 96 0) ∧ y < (h 96 1)) := f1
  clear f1
  refine ov_ifeq (tgt := 41) d_246_6 (by decide) (by omega) (fun c4 => ?_) (fun c4 => ?_)
  · skip
    have f3_ : v2 = 0 := by omega
    clear f3
    refine ov_blk (ls2 := [(0, ov_r 90), (1, ov_i x), (2, ov_i y), (3, ov_i way), (4, ov_i s)]) (st2 := [ov_i 0]) (pc2 := 42) b_246_41_1 rfl rfl ?_
    exact ov_retz (st := []) d_246_42 rfl (by omega) ⟨_, rfl, rfl, rfl, (by show (0 = 0 ∨ 0 = 1) ∧ (0 = 1 → 0 ≤ x ∧ x ≤ 5 ∧ 0 ≤ y ∧ y ≤ 8 ∧ 0 ≤ way ∧ way ≤ 1 ∧ 0 ≤ s ∧ s ≤ 1000000 ∧ ((way = 0 → x < (h 96 0) - 1) ∧ (¬ way = 0 → y < (h 96 1) - 1)) ∧ (((h 96 (10 + 4 * (6 * y + x))) = 1 ∨ (h 96 (10 + 4 * (6 * y + x))) = 2) → (way = 0 → 0 < (h 96 (10 + 4 * (6 * y + x) + 3))) ∧ (¬ way = 0 → (h 96 (10 + 4 * (6 * y + x) + 3)) < (h 96 (10 + 4 * (6 * y + x) + 1))))); omega)⟩
  · skip
    have f3_ : v2 = 1 := by omega
    have f5 : 0 ≤ x ∧ x ≤ 5 ∧ 0 ≤ y ∧ y ≤ 8 ∧ x < (h 96 0) ∧ y < (h 96 1) := f3.2 (by omega)
    clear f3
    refine ov_blk (ls2 := [(0, ov_r 90), (1, ov_i x), (2, ov_i y), (3, ov_i way), (4, ov_i s)]) (st2 := [ov_i 1, ov_i 0, ov_i way]) (pc2 := 12) b_246_9_3 rfl rfl ?_
    refine ov_cS (as := [ov_i way, ov_i 0, ov_i 1]) (st := []) (d2 := d - 1) d_246_12 lk_Mo_299 rfl (Nat.le_of_ble_eq_true rfl) (by omega) (c_Mo_within (d - 1) (by omega) U I way 0 1 (by omega) (by omega) (by omega)) ?_
    rintro _ _ _ ⟨v7, rfl, rfl, rfl, f6⟩
    show ov_R u d ov_m246 15 [(0, ov_r 90), (1, ov_i x), (2, ov_i y), (3, ov_i way), (4, ov_i s)] [ov_i v7] z h (P_Mo_mayAsk_90 F z h x y way s)
    have f8 : (v7 = 0 ∨ v7 = 1) ∧ (v7 = 1 → (0 : Int) ≤ way ∧ way ≤ (1 : Int)) ∧ (v7 = 0 → way < (0 : Int) ∨ (1 : Int) < way) := f6
    clear f6
    refine ov_ifeq (tgt := 41) d_246_15 (by decide) (by omega) (fun c9 => ?_) (fun c9 => ?_)
    · skip
      have f8_ : v7 = 0 := by omega
      have f10 : way < (0 : Int) ∨ (1 : Int) < way := f8.2.2 (by omega)
      clear f8
      refine ov_blk (ls2 := [(0, ov_r 90), (1, ov_i x), (2, ov_i y), (3, ov_i way), (4, ov_i s)]) (st2 := [ov_i 0]) (pc2 := 42) b_246_41_1 rfl rfl ?_
      exact ov_retz (st := []) d_246_42 rfl (by omega) ⟨_, rfl, rfl, rfl, (by show (0 = 0 ∨ 0 = 1) ∧ (0 = 1 → 0 ≤ x ∧ x ≤ 5 ∧ 0 ≤ y ∧ y ≤ 8 ∧ 0 ≤ way ∧ way ≤ 1 ∧ 0 ≤ s ∧ s ≤ 1000000 ∧ ((way = 0 → x < (h 96 0) - 1) ∧ (¬ way = 0 → y < (h 96 1) - 1)) ∧ (((h 96 (10 + 4 * (6 * y + x))) = 1 ∨ (h 96 (10 + 4 * (6 * y + x))) = 2) → (way = 0 → 0 < (h 96 (10 + 4 * (6 * y + x) + 3))) ∧ (¬ way = 0 → (h 96 (10 + 4 * (6 * y + x) + 3)) < (h 96 (10 + 4 * (6 * y + x) + 1))))); omega)⟩
    · skip
      have f8_ : v7 = 1 := by omega
      have f11 : (0 : Int) ≤ way ∧ way ≤ (1 : Int) := f8.2.1 (by omega)
      clear f8
      refine ov_blk (ls2 := [(0, ov_r 90), (1, ov_i x), (2, ov_i y), (3, ov_i way), (4, ov_i s)]) (st2 := [ov_i s, ov_r 90]) (pc2 := 21) b_246_18_2 rfl rfl ?_
      refine ov_cV (as := [ov_i s]) (st := []) (d2 := d - 1) d_246_21 lk_Mo_306 rfl (Nat.le_of_ble_eq_true rfl) (c := 1) (zb_90 I) (zs_90 I) ⟨by decide, rfl⟩ (by omega) (c_Mo_isSecond_90 (d - 1) (by omega) U I s (by omega)) ?_
      rintro _ _ _ ⟨v13, rfl, rfl, rfl, f12⟩
      show ov_R u d ov_m246 24 [(0, ov_r 90), (1, ov_i x), (2, ov_i y), (3, ov_i way), (4, ov_i s)] [ov_i v13] z h (P_Mo_mayAsk_90 F z h x y way s)
      have f14 : (v13 = 0 ∨ v13 = 1) ∧ (v13 = 1 → 0 ≤ s ∧ s ≤ 1000000) := f12
      clear f12
      refine ov_ifeq (tgt := 41) d_246_24 (by decide) (by omega) (fun c15 => ?_) (fun c15 => ?_)
      · skip
        have f14_ : v13 = 0 := by omega
        clear f14
        refine ov_blk (ls2 := [(0, ov_r 90), (1, ov_i x), (2, ov_i y), (3, ov_i way), (4, ov_i s)]) (st2 := [ov_i 0]) (pc2 := 42) b_246_41_1 rfl rfl ?_
        exact ov_retz (st := []) d_246_42 rfl (by omega) ⟨_, rfl, rfl, rfl, (by show (0 = 0 ∨ 0 = 1) ∧ (0 = 1 → 0 ≤ x ∧ x ≤ 5 ∧ 0 ≤ y ∧ y ≤ 8 ∧ 0 ≤ way ∧ way ≤ 1 ∧ 0 ≤ s ∧ s ≤ 1000000 ∧ ((way = 0 → x < (h 96 0) - 1) ∧ (¬ way = 0 → y < (h 96 1) - 1)) ∧ (((h 96 (10 + 4 * (6 * y + x))) = 1 ∨ (h 96 (10 + 4 * (6 * y + x))) = 2) → (way = 0 → 0 < (h 96 (10 + 4 * (6 * y + x) + 3))) ∧ (¬ way = 0 → (h 96 (10 + 4 * (6 * y + x) + 3)) < (h 96 (10 + 4 * (6 * y + x) + 1))))); omega)⟩
      · skip
        have f14_ : v13 = 1 := by omega
        have f16 : 0 ≤ s ∧ s ≤ 1000000 := f14.2 (by omega)
        clear f14
        refine ov_blk (ls2 := [(0, ov_r 90), (1, ov_i x), (2, ov_i y), (3, ov_i way), (4, ov_i s)]) (st2 := [ov_i way, ov_i y, ov_i x, ov_r 90]) (pc2 := 31) b_246_27_4 rfl rfl ?_
        refine ov_cV (as := [ov_i x, ov_i y, ov_i way]) (st := []) (d2 := d - 1) d_246_31 lk_Mo_309 rfl (Nat.le_of_ble_eq_true rfl) (c := 1) (zb_90 I) (zs_90 I) ⟨by decide, rfl⟩ (by omega) (c_Mo_canGo_90 (d - 1) (by omega) U I x y way (by omega) (by omega) (by omega) (by omega) (by omega)) ?_
        rintro _ _ _ ⟨v18, rfl, rfl, rfl, f17⟩
        show ov_R u d ov_m246 34 [(0, ov_r 90), (1, ov_i x), (2, ov_i y), (3, ov_i way), (4, ov_i s)] [ov_i v18] z h (P_Mo_mayAsk_90 F z h x y way s)
        have f19 : (v18 = 0 ∨ v18 = 1) ∧ v18 = ov_cgi (h 96) x y way ∧ (v18 = 1 → ((way = 0 → x < (h 96 0) - 1) ∧ (¬ way = 0 → y < (h 96 1) - 1)) ∧ (((h 96 (10 + 4 * (6 * y + x))) = 1 ∨ (h 96 (10 + 4 * (6 * y + x))) = 2) → (way = 0 → 0 < (h 96 (10 + 4 * (6 * y + x) + 3))) ∧ (¬ way = 0 → (h 96 (10 + 4 * (6 * y + x) + 3)) < (h 96 (10 + 4 * (6 * y + x) + 1))))) := f17
        clear f17
        refine ov_ifeq (tgt := 41) d_246_34 (by decide) (by omega) (fun c20 => ?_) (fun c20 => ?_)
        · skip
          have f19_ : v18 = 0 := by omega
          have f21 : v18 = ov_cgi (h 96) x y way := f19.2.1
          clear f19
          refine ov_blk (ls2 := [(0, ov_r 90), (1, ov_i x), (2, ov_i y), (3, ov_i way), (4, ov_i s)]) (st2 := [ov_i 0]) (pc2 := 42) b_246_41_1 rfl rfl ?_
          exact ov_retz (st := []) d_246_42 rfl (by omega) ⟨_, rfl, rfl, rfl, (by show (0 = 0 ∨ 0 = 1) ∧ (0 = 1 → 0 ≤ x ∧ x ≤ 5 ∧ 0 ≤ y ∧ y ≤ 8 ∧ 0 ≤ way ∧ way ≤ 1 ∧ 0 ≤ s ∧ s ≤ 1000000 ∧ ((way = 0 → x < (h 96 0) - 1) ∧ (¬ way = 0 → y < (h 96 1) - 1)) ∧ (((h 96 (10 + 4 * (6 * y + x))) = 1 ∨ (h 96 (10 + 4 * (6 * y + x))) = 2) → (way = 0 → 0 < (h 96 (10 + 4 * (6 * y + x) + 3))) ∧ (¬ way = 0 → (h 96 (10 + 4 * (6 * y + x) + 3)) < (h 96 (10 + 4 * (6 * y + x) + 1))))); omega)⟩
        · skip
          have f19_ : v18 = 1 := by omega
          have f22 : v18 = ov_cgi (h 96) x y way := f19.2.1
          have f23 : ((way = 0 → x < (h 96 0) - 1) ∧ (¬ way = 0 → y < (h 96 1) - 1)) ∧ (((h 96 (10 + 4 * (6 * y + x))) = 1 ∨ (h 96 (10 + 4 * (6 * y + x))) = 2) → (way = 0 → 0 < (h 96 (10 + 4 * (6 * y + x) + 3))) ∧ (¬ way = 0 → (h 96 (10 + 4 * (6 * y + x) + 3)) < (h 96 (10 + 4 * (6 * y + x) + 1)))) := f19.2.2 (by omega)
          clear f19
          refine ov_blk (ls2 := [(0, ov_r 90), (1, ov_i x), (2, ov_i y), (3, ov_i way), (4, ov_i s)]) (st2 := [ov_i 1]) (pc2 := 38) b_246_37_1 rfl rfl ?_
          refine ov_goto (tgt := 42) d_246_38 (by decide) ?_
          exact ov_retz (st := []) d_246_42 rfl (by omega) ⟨_, rfl, rfl, rfl, (by show (1 = 0 ∨ 1 = 1) ∧ (1 = 1 → 0 ≤ x ∧ x ≤ 5 ∧ 0 ≤ y ∧ y ≤ 8 ∧ 0 ≤ way ∧ way ≤ 1 ∧ 0 ≤ s ∧ s ≤ 1000000 ∧ ((way = 0 → x < (h 96 0) - 1) ∧ (¬ way = 0 → y < (h 96 1) - 1)) ∧ (((h 96 (10 + 4 * (6 * y + x))) = 1 ∨ (h 96 (10 + 4 * (6 * y + x))) = 2) → (way = 0 → 0 < (h 96 (10 + 4 * (6 * y + x) + 3))) ∧ (¬ way = 0 → (h 96 (10 + 4 * (6 * y + x) + 3)) < (h 96 (10 + 4 * (6 * y + x) + 1))))); omega)⟩
abbrev P_Mo_green_90 (F : ov_H × ov_Z) (z : ov_Z) (h : ov_H) (x : Int) (y : Int) (way : Int) (s : Int) : Option ov_V → ov_Z → ov_H → Prop := fun r0 z' h' => ∃ r : Int, r0 = some (ov_i r) ∧ ov_N F z' h' ∧ ((h' 90 2) = (h 90 2) ∧ (h' 90 7) = (h 90 7) ∧ (h' 90 8) = (h 90 8) ∧ (h' 90 13) = (h 90 13) ∧ (h' 90 20) = (h 90 20) ∧ (h' 90 22) = (h 90 22) ∧ (h' 90 25) = (h 90 25) ∧ (h' 90 26) = (h 90 26) ∧ (h' 90 28) = (h 90 28) ∧ (h' 90 29) = (h 90 29) ∧ (h' 90 30) = (h 90 30) ∧ (h' 90 34) = (h 90 34) ∧ -2147483648 ≤ r ∧ r ≤ 2147483647) ∧ h' 91 = h 91 ∧ h' 92 = h 92 ∧ h' 93 = h 93 ∧ h' 94 = h 94 ∧ h' 95 = h 95 ∧ h' 96 = h 96 ∧ h' 97 = h 97 ∧ h' 98 = h 98 ∧ h' 99 = h 99 ∧ h' 100 = h 100 ∧ h' 103 = h 103 ∧ h' 105 = h 105 ∧ h' 106 = h 106 ∧ h' 109 = h 109 ∧ h' 114 = h 114
set_option maxHeartbeats 4000000 in
theorem c_Mo_green_90 {u : ov_U} {F : ov_H × ov_Z} {z : ov_Z} {h : ov_H} (d : Nat) (hd : 4 ≤ d) (U : ov_cap u) (I : ov_N F z h) (x : Int) (y : Int) (way : Int) (s : Int) (g_x : ov_g x) (g_y : ov_g y) (g_way : ov_g way) (g_s : ov_g s) (W : ov_WT (h 96)) : ov_T u d ov_m245 [ov_r 90, ov_i x, ov_i y, ov_i way, ov_i s] z h (P_Mo_green_90 F z h x y way s) := by
  refine ov_en rfl (Nat.le_of_ble_eq_true rfl) ?_
  show ov_R u d ov_m245 0 [(0, ov_r 90), (1, ov_i x), (2, ov_i y), (3, ov_i way), (4, ov_i s)] [] z h (P_Mo_green_90 F z h x y way s)
  refine ov_blk (ls2 := [(0, ov_r 90), (1, ov_i x), (2, ov_i y), (3, ov_i way), (4, ov_i s)]) (st2 := [ov_i 0, ov_r 90]) (pc2 := 2) b_245_0_2 rfl rfl ?_
  refine ov_putf (x := 0) d_245_2 fl_Mo_1 (zb_90 I) (zs_90 I) rfl nk_0 rfl ?_
  have I1 := up_90_0 (x := 0) I (by omega)
  refine ov_blk (ls2 := [(0, ov_r 90), (1, ov_i x), (2, ov_i y), (3, ov_i way), (4, ov_i s)]) (st2 := [ov_i s, ov_i way, ov_i y, ov_i x, ov_r 90]) (pc2 := 11) b_245_5_5 rfl rfl ?_
  refine ov_cV (as := [ov_i x, ov_i y, ov_i way, ov_i s]) (st := []) (d2 := d - 1) d_245_11 lk_Mo_312 rfl (Nat.le_of_ble_eq_true rfl) (c := 1) (zb_90 I1) (zs_90 I1) ⟨by decide, rfl⟩ (by omega) (c_Mo_mayAsk_90 (d - 1) (by omega) U I1 x y way s (by omega) (by omega) (by omega) (by omega)) ?_
  rintro _ _ _ ⟨v3, rfl, rfl, rfl, f2⟩
  show ov_R u d ov_m245 14 [(0, ov_r 90), (1, ov_i x), (2, ov_i y), (3, ov_i way), (4, ov_i s)] [ov_i v3] z (ov_up h 90 0 0) (P_Mo_green_90 F z h x y way s)
  have f4 : (v3 = 0 ∨ v3 = 1) ∧ (v3 = 1 → 0 ≤ x ∧ x ≤ 5 ∧ 0 ≤ y ∧ y ≤ 8 ∧ 0 ≤ way ∧ way ≤ 1 ∧ 0 ≤ s ∧ s ≤ 1000000 ∧ ((way = 0 → x < (h 96 0) - 1) ∧ (¬ way = 0 → y < (h 96 1) - 1)) ∧ (((h 96 (10 + 4 * (6 * y + x))) = 1 ∨ (h 96 (10 + 4 * (6 * y + x))) = 2) → (way = 0 → 0 < (h 96 (10 + 4 * (6 * y + x) + 3))) ∧ (¬ way = 0 → (h 96 (10 + 4 * (6 * y + x) + 3)) < (h 96 (10 + 4 * (6 * y + x) + 1))))) := f2
  clear f2
  refine ov_ifne (tgt := 19) d_245_14 (by decide) (by omega) (fun c5 => ?_) (fun c5 => ?_)
  · skip
    have f4_ : v3 = 1 := by omega
    have f6 : 0 ≤ x ∧ x ≤ 5 ∧ 0 ≤ y ∧ y ≤ 8 ∧ 0 ≤ way ∧ way ≤ 1 ∧ 0 ≤ s ∧ s ≤ 1000000 ∧ ((way = 0 → x < (h 96 0) - 1) ∧ (¬ way = 0 → y < (h 96 1) - 1)) ∧ (((h 96 (10 + 4 * (6 * y + x))) = 1 ∨ (h 96 (10 + 4 * (6 * y + x))) = 2) → (way = 0 → 0 < (h 96 (10 + 4 * (6 * y + x) + 3))) ∧ (¬ way = 0 → (h 96 (10 + 4 * (6 * y + x) + 3)) < (h 96 (10 + 4 * (6 * y + x) + 1)))) := f4.2 (by omega)
    clear f4
    refine ov_blk (ls2 := [(0, ov_r 90), (1, ov_i x), (2, ov_i y), (3, ov_i way), (4, ov_i s)]) (st2 := [ov_i y, ov_i x, ov_r 90]) (pc2 := 22) b_245_19_3 rfl rfl ?_
    refine ov_cV (as := [ov_i x, ov_i y]) (st := []) (d2 := d - 1) d_245_22 lk_Mo_282 rfl (Nat.le_of_ble_eq_true rfl) (c := 1) (zb_90 I1) (zs_90 I1) ⟨by decide, rfl⟩ (by omega) (c_Mo_kindAt_90 (d - 1) (by omega) U I1 x y (by omega) (by omega) (by omega)) ?_
    rintro _ _ _ ⟨v8, rfl, rfl, rfl, f7⟩
    show ov_R u d ov_m245 25 [(0, ov_r 90), (1, ov_i x), (2, ov_i y), (3, ov_i way), (4, ov_i s)] [ov_i v8] z (ov_up h 90 0 0) (P_Mo_green_90 F z h x y way s)
    have f9 : v8 = (h 96 (10 + 4 * (6 * y + x))) - 1 ∧ -1 ≤ v8 ∧ v8 ≤ 3 := f7
    clear f7
    refine ov_blk (ls2 := [(0, ov_r 90), (1, ov_i x), (2, ov_i y), (3, ov_i way), (4, ov_i s)]) (st2 := [ov_i 2, ov_i v8]) (pc2 := 26) b_245_25_1 rfl rfl ?_
    refine ov_icne (tgt := 42) d_245_26 (by decide) (by omega) (by omega) (fun c10 => ?_) (fun c10 => ?_)
    · skip
      refine ov_blk (ls2 := [(0, ov_r 90), (1, ov_i x), (2, ov_i y), (3, ov_i way), (4, ov_i s)]) (st2 := [ov_i y, ov_i x, ov_r 90]) (pc2 := 45) b_245_42_3 rfl rfl ?_
      refine ov_cV (as := [ov_i x, ov_i y]) (st := []) (d2 := d - 1) d_245_45 lk_Mo_285 rfl (Nat.le_of_ble_eq_true rfl) (c := 1) (zb_90 I1) (zs_90 I1) ⟨by decide, rfl⟩ (by omega) (c_Mo_isTimed_90 (d - 1) (by omega) U I1 x y (by omega) (by omega) (by omega)) ?_
      rintro _ _ _ ⟨v12, rfl, rfl, rfl, f11⟩
      show ov_R u d ov_m245 48 [(0, ov_r 90), (1, ov_i x), (2, ov_i y), (3, ov_i way), (4, ov_i s)] [ov_i v12] z (ov_up h 90 0 0) (P_Mo_green_90 F z h x y way s)
      have f13 : (v12 = 0 ∨ v12 = 1) ∧ (v12 = 1 → ((h 96 (10 + 4 * (6 * y + x))) = 1 ∨ (h 96 (10 + 4 * (6 * y + x))) = 2)) ∧ (v12 = 0 → ¬ ((h 96 (10 + 4 * (6 * y + x))) = 1 ∨ (h 96 (10 + 4 * (6 * y + x))) = 2)) := f11
      clear f11
      refine ov_ifeq (tgt := 63) d_245_48 (by decide) (by omega) (fun c14 => ?_) (fun c14 => ?_)
      · skip
        have f13_ : v12 = 0 := by omega
        have f15 : ¬ ((h 96 (10 + 4 * (6 * y + x))) = 1 ∨ (h 96 (10 + 4 * (6 * y + x))) = 2) := f13.2.2 (by omega)
        clear f13
        refine ov_blk (ls2 := [(0, ov_r 90), (1, ov_i x), (2, ov_i y), (3, ov_i way), (4, ov_i s)]) (st2 := [ov_i 1]) (pc2 := 64) b_245_63_1 rfl rfl ?_
        refine ov_goto (tgt := 68) d_245_64 (by decide) ?_
        refine ov_blk (ls2 := [(0, ov_r 90), (1, ov_i x), (2, ov_i y), (3, ov_i way), (4, ov_i s), (5, ov_i 1)]) (st2 := [ov_i 1]) (pc2 := 72) b_245_68_2 rfl rfl ?_
        refine ov_ifeq (tgt := 79) d_245_72 (by decide) (by omega) (fun c16 => ?_) (fun c16 => ?_)
        · omega
        · skip
          refine ov_blk (ls2 := [(0, ov_r 90), (1, ov_i x), (2, ov_i y), (3, ov_i way), (4, ov_i s), (5, ov_i 1)]) (st2 := [ov_i 1]) (pc2 := 76) b_245_75_1 rfl rfl ?_
          refine ov_goto (tgt := 80) d_245_76 (by decide) ?_
          exact ov_reti (st := []) d_245_80 rfl ⟨_, rfl, I1, ⟨rfl, rfl, rfl, rfl, rfl, rfl, rfl, rfl, rfl, rfl, rfl, rfl, (by show -2147483648 ≤ 1 ∧ 1 ≤ 2147483647; omega)⟩, rfl, rfl, rfl, rfl, rfl, rfl, rfl, rfl, rfl, rfl, rfl, rfl, rfl, rfl, rfl⟩
      · skip
        have f13_ : v12 = 1 := by omega
        have f17 : ((h 96 (10 + 4 * (6 * y + x))) = 1 ∨ (h 96 (10 + 4 * (6 * y + x))) = 2) := f13.2.1 (by omega)
        clear f13
        refine ov_blk (ls2 := [(0, ov_r 90), (1, ov_i x), (2, ov_i y), (3, ov_i way), (4, ov_i s)]) (st2 := [ov_i s, ov_i way, ov_i y, ov_i x, ov_r 90]) (pc2 := 57) b_245_51_5 rfl rfl ?_
        have w1 := ov_WT_at W (c := 6 * y + x) (by omega)
        refine ov_cV (as := [ov_i x, ov_i y, ov_i way, ov_i s]) (st := []) (d2 := d - 1) d_245_57 lk_Mo_292 rfl (Nat.le_of_ble_eq_true rfl) (c := 1) (zb_90 I1) (zs_90 I1) ⟨by decide, rfl⟩ (by omega) (c_Mo_isGreen_90 (d - 1) (by omega) U I1 x y way s (by omega) (by omega) (by omega) (by omega) (by omega) (by show 1 ≤ (h 96 (10 + 4 * (6 * y + x) + 1)); omega) (by omega)) ?_
        rintro _ _ _ ⟨v19, rfl, rfl, rfl, f18⟩
        show ov_R u d ov_m245 60 [(0, ov_r 90), (1, ov_i x), (2, ov_i y), (3, ov_i way), (4, ov_i s)] [ov_i v19] z (ov_up h 90 0 0) (P_Mo_green_90 F z h x y way s)
        have f20 : (v19 = 0 ∨ v19 = 1) ∧ (v19 = 1 → (ov_ph s ((h 96 (10 + 4 * (6 * y + x) + 2))) ((h 96 (10 + 4 * (6 * y + x) + 1))) < (h 96 (10 + 4 * (6 * y + x) + 3)) ∧ way = 0) ∨ (¬ ov_ph s ((h 96 (10 + 4 * (6 * y + x) + 2))) ((h 96 (10 + 4 * (6 * y + x) + 1))) < (h 96 (10 + 4 * (6 * y + x) + 3)) ∧ ¬ way = 0)) ∧ (v19 = 0 → (ov_ph s ((h 96 (10 + 4 * (6 * y + x) + 2))) ((h 96 (10 + 4 * (6 * y + x) + 1))) < (h 96 (10 + 4 * (6 * y + x) + 3)) ∧ ¬ way = 0) ∨ (¬ ov_ph s ((h 96 (10 + 4 * (6 * y + x) + 2))) ((h 96 (10 + 4 * (6 * y + x) + 1))) < (h 96 (10 + 4 * (6 * y + x) + 3)) ∧ way = 0)) := f18
        clear f18
        refine ov_ifeq (tgt := 67) d_245_60 (by decide) (by omega) (fun c21 => ?_) (fun c21 => ?_)
        · skip
          have f20_ : v19 = 0 := by omega
          have f22 : (ov_ph s ((h 96 (10 + 4 * (6 * y + x) + 2))) ((h 96 (10 + 4 * (6 * y + x) + 1))) < (h 96 (10 + 4 * (6 * y + x) + 3)) ∧ ¬ way = 0) ∨ (¬ ov_ph s ((h 96 (10 + 4 * (6 * y + x) + 2))) ((h 96 (10 + 4 * (6 * y + x) + 1))) < (h 96 (10 + 4 * (6 * y + x) + 3)) ∧ way = 0) := f20.2.2 (by omega)
          clear f20
          refine ov_blk (ls2 := [(0, ov_r 90), (1, ov_i x), (2, ov_i y), (3, ov_i way), (4, ov_i s), (5, ov_i 0)]) (st2 := [ov_i 0]) (pc2 := 72) b_245_67_3 rfl rfl ?_
          refine ov_ifeq (tgt := 79) d_245_72 (by decide) (by omega) (fun c23 => ?_) (fun c23 => ?_)
          · skip
            refine ov_blk (ls2 := [(0, ov_r 90), (1, ov_i x), (2, ov_i y), (3, ov_i way), (4, ov_i s), (5, ov_i 0)]) (st2 := [ov_i 0]) (pc2 := 80) b_245_79_1 rfl rfl ?_
            exact ov_reti (st := []) d_245_80 rfl ⟨_, rfl, I1, ⟨rfl, rfl, rfl, rfl, rfl, rfl, rfl, rfl, rfl, rfl, rfl, rfl, (by show -2147483648 ≤ 0 ∧ 0 ≤ 2147483647; omega)⟩, rfl, rfl, rfl, rfl, rfl, rfl, rfl, rfl, rfl, rfl, rfl, rfl, rfl, rfl, rfl⟩
          · omega
        · skip
          have f20_ : v19 = 1 := by omega
          have f24 : (ov_ph s ((h 96 (10 + 4 * (6 * y + x) + 2))) ((h 96 (10 + 4 * (6 * y + x) + 1))) < (h 96 (10 + 4 * (6 * y + x) + 3)) ∧ way = 0) ∨ (¬ ov_ph s ((h 96 (10 + 4 * (6 * y + x) + 2))) ((h 96 (10 + 4 * (6 * y + x) + 1))) < (h 96 (10 + 4 * (6 * y + x) + 3)) ∧ ¬ way = 0) := f20.2.1 (by omega)
          clear f20
          refine ov_blk (ls2 := [(0, ov_r 90), (1, ov_i x), (2, ov_i y), (3, ov_i way), (4, ov_i s)]) (st2 := [ov_i 1]) (pc2 := 64) b_245_63_1 rfl rfl ?_
          refine ov_goto (tgt := 68) d_245_64 (by decide) ?_
          refine ov_blk (ls2 := [(0, ov_r 90), (1, ov_i x), (2, ov_i y), (3, ov_i way), (4, ov_i s), (5, ov_i 1)]) (st2 := [ov_i 1]) (pc2 := 72) b_245_68_2 rfl rfl ?_
          refine ov_ifeq (tgt := 79) d_245_72 (by decide) (by omega) (fun c25 => ?_) (fun c25 => ?_)
          · omega
          · skip
            refine ov_blk (ls2 := [(0, ov_r 90), (1, ov_i x), (2, ov_i y), (3, ov_i way), (4, ov_i s), (5, ov_i 1)]) (st2 := [ov_i 1]) (pc2 := 76) b_245_75_1 rfl rfl ?_
            refine ov_goto (tgt := 80) d_245_76 (by decide) ?_
            exact ov_reti (st := []) d_245_80 rfl ⟨_, rfl, I1, ⟨rfl, rfl, rfl, rfl, rfl, rfl, rfl, rfl, rfl, rfl, rfl, rfl, (by show -2147483648 ≤ 1 ∧ 1 ≤ 2147483647; omega)⟩, rfl, rfl, rfl, rfl, rfl, rfl, rfl, rfl, rfl, rfl, rfl, rfl, rfl, rfl, rfl⟩
    · skip
      refine ov_blk (ls2 := [(0, ov_r 90), (1, ov_i x), (2, ov_i y), (3, ov_i way), (4, ov_i s)]) (st2 := [ov_i 1, ov_i way]) (pc2 := 31) b_245_29_2 rfl rfl ?_
      refine ov_icne (tgt := 38) d_245_31 (by decide) (by omega) (by omega) (fun c26 => ?_) (fun c26 => ?_)
      · skip
        refine ov_blk (ls2 := [(0, ov_r 90), (1, ov_i x), (2, ov_i y), (3, ov_i way), (4, ov_i s)]) (st2 := [ov_i 0]) (pc2 := 39) b_245_38_1 rfl rfl ?_
        refine ov_goto (tgt := 68) d_245_39 (by decide) ?_
        refine ov_blk (ls2 := [(0, ov_r 90), (1, ov_i x), (2, ov_i y), (3, ov_i way), (4, ov_i s), (5, ov_i 0)]) (st2 := [ov_i 0]) (pc2 := 72) b_245_68_2 rfl rfl ?_
        refine ov_ifeq (tgt := 79) d_245_72 (by decide) (by omega) (fun c27 => ?_) (fun c27 => ?_)
        · skip
          refine ov_blk (ls2 := [(0, ov_r 90), (1, ov_i x), (2, ov_i y), (3, ov_i way), (4, ov_i s), (5, ov_i 0)]) (st2 := [ov_i 0]) (pc2 := 80) b_245_79_1 rfl rfl ?_
          exact ov_reti (st := []) d_245_80 rfl ⟨_, rfl, I1, ⟨rfl, rfl, rfl, rfl, rfl, rfl, rfl, rfl, rfl, rfl, rfl, rfl, (by show -2147483648 ≤ 0 ∧ 0 ≤ 2147483647; omega)⟩, rfl, rfl, rfl, rfl, rfl, rfl, rfl, rfl, rfl, rfl, rfl, rfl, rfl, rfl, rfl⟩
        · omega
      · skip
        refine ov_blk (ls2 := [(0, ov_r 90), (1, ov_i x), (2, ov_i y), (3, ov_i way), (4, ov_i s)]) (st2 := [ov_i 1]) (pc2 := 35) b_245_34_1 rfl rfl ?_
        refine ov_goto (tgt := 68) d_245_35 (by decide) ?_
        refine ov_blk (ls2 := [(0, ov_r 90), (1, ov_i x), (2, ov_i y), (3, ov_i way), (4, ov_i s), (5, ov_i 1)]) (st2 := [ov_i 1]) (pc2 := 72) b_245_68_2 rfl rfl ?_
        refine ov_ifeq (tgt := 79) d_245_72 (by decide) (by omega) (fun c28 => ?_) (fun c28 => ?_)
        · omega
        · skip
          refine ov_blk (ls2 := [(0, ov_r 90), (1, ov_i x), (2, ov_i y), (3, ov_i way), (4, ov_i s), (5, ov_i 1)]) (st2 := [ov_i 1]) (pc2 := 76) b_245_75_1 rfl rfl ?_
          refine ov_goto (tgt := 80) d_245_76 (by decide) ?_
          exact ov_reti (st := []) d_245_80 rfl ⟨_, rfl, I1, ⟨rfl, rfl, rfl, rfl, rfl, rfl, rfl, rfl, rfl, rfl, rfl, rfl, (by show -2147483648 ≤ 1 ∧ 1 ≤ 2147483647; omega)⟩, rfl, rfl, rfl, rfl, rfl, rfl, rfl, rfl, rfl, rfl, rfl, rfl, rfl, rfl, rfl⟩
  · skip
    have f4_ : v3 = 0 := by omega
    clear f4
    refine ov_blk (ls2 := [(0, ov_r 90), (1, ov_i x), (2, ov_i y), (3, ov_i way), (4, ov_i s)]) (st2 := [ov_i (-1)]) (pc2 := 18) b_245_17_1 rfl rfl ?_
    exact ov_reti (st := []) d_245_18 rfl ⟨_, rfl, I1, ⟨rfl, rfl, rfl, rfl, rfl, rfl, rfl, rfl, rfl, rfl, rfl, rfl, (by show -2147483648 ≤ (-1) ∧ (-1) ≤ 2147483647; omega)⟩, rfl, rfl, rfl, rfl, rfl, rfl, rfl, rfl, rfl, rfl, rfl, rfl, rfl, rfl, rfl⟩
abbrev P_Mo_until_90 (F : ov_H × ov_Z) (z : ov_Z) (h : ov_H) (x : Int) (y : Int) (way : Int) (s : Int) : Option ov_V → ov_Z → ov_H → Prop := fun r0 z' h' => ∃ r : Int, r0 = some (ov_i r) ∧ ov_N F z' h' ∧ ((h' 90 2) = (h 90 2) ∧ (h' 90 7) = (h 90 7) ∧ (h' 90 8) = (h 90 8) ∧ (h' 90 13) = (h 90 13) ∧ (h' 90 20) = (h 90 20) ∧ (h' 90 22) = (h 90 22) ∧ (h' 90 25) = (h 90 25) ∧ (h' 90 26) = (h 90 26) ∧ (h' 90 28) = (h 90 28) ∧ (h' 90 29) = (h 90 29) ∧ (h' 90 30) = (h 90 30) ∧ (h' 90 34) = (h 90 34) ∧ -2147483648 ≤ r ∧ r ≤ 2147483647) ∧ h' 91 = h 91 ∧ h' 92 = h 92 ∧ h' 93 = h 93 ∧ h' 94 = h 94 ∧ h' 95 = h 95 ∧ h' 96 = h 96 ∧ h' 97 = h 97 ∧ h' 98 = h 98 ∧ h' 99 = h 99 ∧ h' 100 = h 100 ∧ h' 103 = h 103 ∧ h' 105 = h 105 ∧ h' 106 = h 106 ∧ h' 109 = h 109 ∧ h' 114 = h 114
set_option maxHeartbeats 4000000 in
theorem c_Mo_until_90 {u : ov_U} {F : ov_H × ov_Z} {z : ov_Z} {h : ov_H} (d : Nat) (hd : 4 ≤ d) (U : ov_cap u) (I : ov_N F z h) (x : Int) (y : Int) (way : Int) (s : Int) (g_x : ov_g x) (g_y : ov_g y) (g_way : ov_g way) (g_s : ov_g s) (W : ov_WT (h 96)) : ov_T u d ov_m251 [ov_r 90, ov_i x, ov_i y, ov_i way, ov_i s] z h (P_Mo_until_90 F z h x y way s) := by
  refine ov_en rfl (Nat.le_of_ble_eq_true rfl) ?_
  show ov_R u d ov_m251 0 [(0, ov_r 90), (1, ov_i x), (2, ov_i y), (3, ov_i way), (4, ov_i s)] [] z h (P_Mo_until_90 F z h x y way s)
  refine ov_blk (ls2 := [(0, ov_r 90), (1, ov_i x), (2, ov_i y), (3, ov_i way), (4, ov_i s)]) (st2 := [ov_i 0, ov_r 90]) (pc2 := 2) b_251_0_2 rfl rfl ?_
  refine ov_putf (x := 0) d_251_2 fl_Mo_1 (zb_90 I) (zs_90 I) rfl nk_0 rfl ?_
  have I1 := up_90_0 (x := 0) I (by omega)
  refine ov_blk (ls2 := [(0, ov_r 90), (1, ov_i x), (2, ov_i y), (3, ov_i way), (4, ov_i s)]) (st2 := [ov_i s, ov_i way, ov_i y, ov_i x, ov_r 90]) (pc2 := 11) b_251_5_5 rfl rfl ?_
  refine ov_cV (as := [ov_i x, ov_i y, ov_i way, ov_i s]) (st := []) (d2 := d - 1) d_251_11 lk_Mo_312 rfl (Nat.le_of_ble_eq_true rfl) (c := 1) (zb_90 I1) (zs_90 I1) ⟨by decide, rfl⟩ (by omega) (c_Mo_mayAsk_90 (d - 1) (by omega) U I1 x y way s (by omega) (by omega) (by omega) (by omega)) ?_
  rintro _ _ _ ⟨v3, rfl, rfl, rfl, f2⟩
  show ov_R u d ov_m251 14 [(0, ov_r 90), (1, ov_i x), (2, ov_i y), (3, ov_i way), (4, ov_i s)] [ov_i v3] z (ov_up h 90 0 0) (P_Mo_until_90 F z h x y way s)
  have f4 : (v3 = 0 ∨ v3 = 1) ∧ (v3 = 1 → 0 ≤ x ∧ x ≤ 5 ∧ 0 ≤ y ∧ y ≤ 8 ∧ 0 ≤ way ∧ way ≤ 1 ∧ 0 ≤ s ∧ s ≤ 1000000 ∧ ((way = 0 → x < (h 96 0) - 1) ∧ (¬ way = 0 → y < (h 96 1) - 1)) ∧ (((h 96 (10 + 4 * (6 * y + x))) = 1 ∨ (h 96 (10 + 4 * (6 * y + x))) = 2) → (way = 0 → 0 < (h 96 (10 + 4 * (6 * y + x) + 3))) ∧ (¬ way = 0 → (h 96 (10 + 4 * (6 * y + x) + 3)) < (h 96 (10 + 4 * (6 * y + x) + 1))))) := f2
  clear f2
  refine ov_ifeq (tgt := 29) d_251_14 (by decide) (by omega) (fun c5 => ?_) (fun c5 => ?_)
  · skip
    have f4_ : v3 = 0 := by omega
    clear f4
    refine ov_blk (ls2 := [(0, ov_r 90), (1, ov_i x), (2, ov_i y), (3, ov_i way), (4, ov_i s)]) (st2 := [ov_i (-1)]) (pc2 := 30) b_251_29_1 rfl rfl ?_
    exact ov_reti (st := []) d_251_30 rfl ⟨_, rfl, I1, ⟨rfl, rfl, rfl, rfl, rfl, rfl, rfl, rfl, rfl, rfl, rfl, rfl, (by show -2147483648 ≤ (-1) ∧ (-1) ≤ 2147483647; omega)⟩, rfl, rfl, rfl, rfl, rfl, rfl, rfl, rfl, rfl, rfl, rfl, rfl, rfl, rfl, rfl⟩
  · skip
    have f4_ : v3 = 1 := by omega
    have f6 : 0 ≤ x ∧ x ≤ 5 ∧ 0 ≤ y ∧ y ≤ 8 ∧ 0 ≤ way ∧ way ≤ 1 ∧ 0 ≤ s ∧ s ≤ 1000000 ∧ ((way = 0 → x < (h 96 0) - 1) ∧ (¬ way = 0 → y < (h 96 1) - 1)) ∧ (((h 96 (10 + 4 * (6 * y + x))) = 1 ∨ (h 96 (10 + 4 * (6 * y + x))) = 2) → (way = 0 → 0 < (h 96 (10 + 4 * (6 * y + x) + 3))) ∧ (¬ way = 0 → (h 96 (10 + 4 * (6 * y + x) + 3)) < (h 96 (10 + 4 * (6 * y + x) + 1)))) := f4.2 (by omega)
    clear f4
    refine ov_blk (ls2 := [(0, ov_r 90), (1, ov_i x), (2, ov_i y), (3, ov_i way), (4, ov_i s)]) (st2 := [ov_i s, ov_i way, ov_i y, ov_i x, ov_r 90]) (pc2 := 23) b_251_17_5 rfl rfl ?_
    refine ov_cV (as := [ov_i x, ov_i y, ov_i way, ov_i s]) (st := []) (d2 := d - 1) d_251_23 lk_Mo_315 rfl (Nat.le_of_ble_eq_true rfl) (c := 1) (zb_90 I1) (zs_90 I1) ⟨by decide, rfl⟩ (by omega) (c_Mo_waitFor_90 (d - 1) (by omega) U I1 x y way s (by omega) (by omega) (by omega) (by omega) (by omega) (by omega) (by omega) (by show (((h 96 (10 + 4 * (6 * y + x))) = 1 ∨ (h 96 (10 + 4 * (6 * y + x))) = 2) → (way = 0 → 0 < (h 96 (10 + 4 * (6 * y + x) + 3))) ∧ (¬ way = 0 → (h 96 (10 + 4 * (6 * y + x) + 3)) < (h 96 (10 + 4 * (6 * y + x) + 1)))); omega) W) ?_
    rintro _ _ _ ⟨v8, rfl, rfl, rfl, f7⟩
    show ov_R u d ov_m251 26 [(0, ov_r 90), (1, ov_i x), (2, ov_i y), (3, ov_i way), (4, ov_i s)] [ov_i v8] z (ov_up h 90 0 0) (P_Mo_until_90 F z h x y way s)
    have f9 : 0 ≤ v8 ∧ v8 ≤ 59 ∧ v8 = ov_wm (h 96) (6 * y + x) way s := f7
    clear f7
    refine ov_goto (tgt := 30) d_251_26 (by decide) ?_
    exact ov_reti (st := []) d_251_30 rfl ⟨_, rfl, I1, ⟨rfl, rfl, rfl, rfl, rfl, rfl, rfl, rfl, rfl, rfl, rfl, rfl, (by show -2147483648 ≤ v8 ∧ v8 ≤ 2147483647; omega)⟩, rfl, rfl, rfl, rfl, rfl, rfl, rfl, rfl, rfl, rfl, rfl, rfl, rfl, rfl, rfl⟩
abbrev P_Mo_copies_90 (F : ov_H × ov_Z) (z : ov_Z) (h : ov_H) (fr : Int) (tt : Int) (m : Int) : Option ov_V → ov_Z → ov_H → Prop := fun r0 z' h' => r0 = none ∧ ov_N F z' h' ∧ ((h' 90 2) = (h 90 2) ∧ (h' 90 7) = (h 90 7) ∧ (h' 90 8) = (h 90 8) ∧ (h' 90 13) = (h 90 13) ∧ (h' 90 20) = (h 90 20) ∧ (h' 90 22) = (h 90 22) ∧ (h' 90 25) = (h 90 25) ∧ (h' 90 26) = (h 90 26) ∧ (h' 90 28) = (h 90 28) ∧ (h' 90 29) = (h 90 29) ∧ (h' 90 30) = (h 90 30) ∧ (h' 90 34) = (h 90 34)) ∧ h' 91 = h 91 ∧ h' 92 = h 92 ∧ h' 93 = h 93 ∧ h' 94 = h 94 ∧ h' 95 = h 95 ∧ h' 96 = h 96 ∧ h' 97 = h 97 ∧ h' 98 = h 98 ∧ h' 99 = h 99 ∧ h' 100 = h 100 ∧ h' 105 = h 105 ∧ h' 106 = h 106 ∧ h' 109 = h 109 ∧ h' 114 = h 114 ∧ (∀ j : Int, j < 120 * tt ∨ 120 * tt + m ≤ j → (h' 103) j = (h 103) j)
set_option maxHeartbeats 4000000 in
theorem c_Mo_copies_90 {u : ov_U} {F : ov_H × ov_Z} {z : ov_Z} {h : ov_H} (d : Nat) (hd : 0 ≤ d) (U : ov_cap u) (I : ov_N F z h) (fr : Int) (tt : Int) (m : Int) (g_fr : ov_g fr) (g_tt : ov_g tt) (g_m : ov_g m) (p0 : 0 ≤ fr ∧ fr ≤ 20) (p1 : 0 ≤ tt ∧ tt ≤ 20) (p2 : 0 ≤ m ∧ m ≤ 120) : ov_T u d ov_m255 [ov_r 90, ov_i fr, ov_i tt, ov_i m] z h (P_Mo_copies_90 F z h fr tt m) := by
  refine ov_en rfl (Nat.le_of_ble_eq_true rfl) ?_
  show ov_R u d ov_m255 0 [(0, ov_r 90), (1, ov_i fr), (2, ov_i tt), (3, ov_i m)] [] z h (P_Mo_copies_90 F z h fr tt m)
  refine ov_blk (ls2 := [(0, ov_r 90), (1, ov_i fr), (2, ov_i tt), (3, ov_i m), (4, ov_i 0)]) (st2 := []) (pc2 := 3) b_255_0_2 rfl rfl ?_
  have L4 : ∀ (n1 : Nat) (x4 : Int) (z5 : ov_Z) (h6 : ov_H) (I7 : ov_N F z5 h6) (E8 : h6 91 = h 91) (E9 : h6 92 = h 92) (E10 : h6 93 = h 93) (E11 : h6 94 = h 94) (E12 : h6 95 = h 95) (E13 : h6 96 = h 96) (E14 : h6 97 = h 97) (E15 : h6 98 = h 98) (E16 : h6 99 = h 99) (E17 : h6 100 = h 100) (E18 : h6 105 = h 105) (E19 : h6 106 = h 106) (E20 : h6 109 = h 109) (E21 : h6 114 = h 114) (xc : ∀ j : Int, j < 120 * tt ∨ 120 * tt + x4 ≤ j → (h6 103) j = (h 103) j) (q3 : 0 ≤ x4 ∧ x4 ≤ m ∧ (h6 90 2) = (h 90 2) ∧ (h6 90 7) = (h 90 7) ∧ (h6 90 8) = (h 90 8) ∧ (h6 90 13) = (h 90 13) ∧ (h6 90 20) = (h 90 20) ∧ (h6 90 22) = (h 90 22) ∧ (h6 90 25) = (h 90 25) ∧ (h6 90 26) = (h 90 26) ∧ (h6 90 28) = (h 90 28) ∧ (h6 90 29) = (h 90 29) ∧ (h6 90 30) = (h 90 30) ∧ (h6 90 34) = (h 90 34)), m - x4 < (n1 : Int) → ov_R u d ov_m255 3 [(0, ov_r 90), (1, ov_i fr), (2, ov_i tt), (3, ov_i m), (4, ov_i x4)] [] z5 h6 (P_Mo_copies_90 F z h fr tt m) := by
    intro n1
    induction n1 with
    | zero =>
      intro x4 z5 h6 I7 E8 E9 E10 E11 E12 E13 E14 E15 E16 E17 E18 E19 E20 E21 xc q3 hn22
      exact absurd hn22 (by omega)
    | succ n1 ih2 =>
      intro x4 z5 h6 I7 E8 E9 E10 E11 E12 E13 E14 E15 E16 E17 E18 E19 E20 E21 xc q3 hn22
      refine ov_blk (ls2 := [(0, ov_r 90), (1, ov_i fr), (2, ov_i tt), (3, ov_i m), (4, ov_i x4)]) (st2 := [ov_i m, ov_i x4]) (pc2 := 6) b_255_3_2 rfl rfl ?_
      refine ov_icge (tgt := 39) d_255_6 (by decide) (by omega) (by omega) (fun c23 => ?_) (fun c23 => ?_)
      · skip
        exact ov_retv (st := []) d_255_39 rfl ⟨rfl, I7, (by show (h6 90 2) = (h 90 2) ∧ (h6 90 7) = (h 90 7) ∧ (h6 90 8) = (h 90 8) ∧ (h6 90 13) = (h 90 13) ∧ (h6 90 20) = (h 90 20) ∧ (h6 90 22) = (h 90 22) ∧ (h6 90 25) = (h 90 25) ∧ (h6 90 26) = (h 90 26) ∧ (h6 90 28) = (h 90 28) ∧ (h6 90 29) = (h 90 29) ∧ (h6 90 30) = (h 90 30) ∧ (h6 90 34) = (h 90 34); omega), E8, E9, E10, E11, E12, E13, E14, E15, E16, E17, E18, E19, E20, E21, (fun j hj => xc j (by omega))⟩
      · skip
        refine ov_blk (ls2 := [(0, ov_r 90), (1, ov_i fr), (2, ov_i tt), (3, ov_i m), (4, ov_i x4)]) (st2 := [ov_r 90]) (pc2 := 10) b_255_9_1 rfl rfl ?_
        refine ov_getf (v := ov_r 103) d_255_10 fl_Mo_102 (zb_90 I7) (zs_90 I7) (congrArg ov_r (rg_90_19 I7)) ?_
        refine ov_blk (ls2 := [(0, ov_r 90), (1, ov_i fr), (2, ov_i tt), (3, ov_i m), (4, ov_i x4)]) (st2 := [ov_r 90, ov_i ((120 * tt) + x4), ov_r 103]) (pc2 := 21) b_255_13_6 rfl rfl ?_
        refine ov_getf (v := ov_r 103) d_255_21 fl_Mo_102 (zb_90 I7) (zs_90 I7) (congrArg ov_r (rg_90_19 I7)) ?_
        refine ov_blk (ls2 := [(0, ov_r 90), (1, ov_i fr), (2, ov_i tt), (3, ov_i m), (4, ov_i x4)]) (st2 := [ov_i ((120 * fr) + x4), ov_r 103, ov_i ((120 * tt) + x4), ov_r 103]) (pc2 := 31) b_255_24_5 rfl rfl ?_
        refine ov_iald d_255_31 (zb_103 I7) (zs_103 I7) (by omega) ?_
        have g24 := g103 I7 ((120 * fr) + x4)
        refine ov_iast d_255_32 (zb_103 I7) (zs_103 I7) (by omega) ?_
        have gw := ra_103 I7 (120 * fr + x4)
        have I25 := ua_103 (k := ((120 * tt) + x4)) (x := (h6 103 ((120 * fr) + x4))) I7 (by refine ⟨?_, ?_, ?_, ?_, ?_, ?_⟩ <;> omega)
        refine ov_blk (ls2 := [(0, ov_r 90), (1, ov_i fr), (2, ov_i tt), (3, ov_i m), (4, ov_i (x4 + 1))]) (st2 := []) (pc2 := 36) b_255_33_1 rfl rfl ?_
        refine ov_goto (tgt := 3) d_255_36 (by decide) ?_
        exact ih2 (x4 + 1) _ _ I25 E8 E9 E10 E11 E12 E13 E14 E15 E16 E17 E18 E19 E20 E21 (fun j hj => by rw [ov_up_j (by omega)]; exact xc j (by omega)) (by show 0 ≤ (x4 + 1) ∧ (x4 + 1) ≤ m ∧ (h6 90 2) = (h 90 2) ∧ (h6 90 7) = (h 90 7) ∧ (h6 90 8) = (h 90 8) ∧ (h6 90 13) = (h 90 13) ∧ (h6 90 20) = (h 90 20) ∧ (h6 90 22) = (h 90 22) ∧ (h6 90 25) = (h 90 25) ∧ (h6 90 26) = (h 90 26) ∧ (h6 90 28) = (h 90 28) ∧ (h6 90 29) = (h 90 29) ∧ (h6 90 30) = (h 90 30) ∧ (h6 90 34) = (h 90 34); omega) (by omega)
  exact L4 200 0 _ _ I rfl rfl rfl rfl rfl rfl rfl rfl rfl rfl rfl rfl rfl rfl (fun j _ => rfl) (by show 0 ≤ 0 ∧ 0 ≤ m ∧ (h 90 2) = (h 90 2) ∧ (h 90 7) = (h 90 7) ∧ (h 90 8) = (h 90 8) ∧ (h 90 13) = (h 90 13) ∧ (h 90 20) = (h 90 20) ∧ (h 90 22) = (h 90 22) ∧ (h 90 25) = (h 90 25) ∧ (h 90 26) = (h 90 26) ∧ (h 90 28) = (h 90 28) ∧ (h 90 29) = (h 90 29) ∧ (h 90 30) = (h 90 30) ∧ (h 90 34) = (h 90 34); omega) (by omega)
abbrev P_Mo_begins_90 (F : ov_H × ov_Z) (z : ov_Z) (h : ov_H) : Option ov_V → ov_Z → ov_H → Prop := fun r0 z' h' => r0 = none ∧ ov_N F z' h' ∧ ((h' 90 2) = (h 90 2) ∧ (h' 90 7) = (h 90 7) ∧ (h' 90 8) = (h 90 8) ∧ (h' 90 13) = (h 90 13) ∧ (h' 90 25) = (h 90 25) ∧ (h' 90 26) = (h 90 26) ∧ (h' 90 28) = (h 90 28) ∧ (h' 90 29) = (h 90 29) ∧ (h' 90 30) = (h 90 30) ∧ (h' 90 34) = (h 90 34) ∧ (h' 90 22) = (h 90 22) + 1 ∧ (h' 100 0) = 0) ∧ h' 91 = h 91 ∧ h' 92 = h 92 ∧ h' 93 = h 93 ∧ h' 94 = h 94 ∧ h' 95 = h 95 ∧ h' 96 = h 96 ∧ h' 97 = h 97 ∧ h' 98 = h 98 ∧ h' 99 = h 99 ∧ h' 105 = h 105 ∧ h' 106 = h 106 ∧ h' 109 = h 109 ∧ h' 114 = h 114
set_option maxHeartbeats 4000000 in
theorem c_Mo_begins_90 {u : ov_U} {F : ov_H × ov_Z} {z : ov_Z} {h : ov_H} (d : Nat) (hd : 0 ≤ d) (U : ov_cap u) (I : ov_N F z h) (p0 : 0 ≤ ov_bd F ∧ ov_bd F ≤ 800000000) (p1 : 0 ≤ (h 90 22) ∧ (h 90 22) ≤ 2000000000) : ov_T u d ov_m204 [ov_r 90] z h (P_Mo_begins_90 F z h) := by
  refine ov_en rfl (Nat.le_of_ble_eq_true rfl) ?_
  show ov_R u d ov_m204 0 [(0, ov_r 90)] [] z h (P_Mo_begins_90 F z h)
  refine ov_blk (ls2 := [(0, ov_r 90), (1, ov_i 0)]) (st2 := []) (pc2 := 2) b_204_0_2 rfl rfl ?_
  have L4 : ∀ (n1 : Nat) (x1 : Int) (z5 : ov_Z) (h6 : ov_H) (I7 : ov_N F z5 h6) (E8 : h6 91 = h 91) (E9 : h6 92 = h 92) (E10 : h6 93 = h 93) (E11 : h6 94 = h 94) (E12 : h6 95 = h 95) (E13 : h6 96 = h 96) (E14 : h6 97 = h 97) (E15 : h6 98 = h 98) (E16 : h6 99 = h 99) (E17 : h6 100 = h 100) (E18 : h6 105 = h 105) (E19 : h6 106 = h 106) (E20 : h6 109 = h 109) (E21 : h6 114 = h 114) (q3 : 0 ≤ x1 ∧ x1 ≤ 120 ∧ (h6 90 2) = (h 90 2) ∧ (h6 90 7) = (h 90 7) ∧ (h6 90 8) = (h 90 8) ∧ (h6 90 13) = (h 90 13) ∧ (h6 90 20) = (h 90 20) ∧ (h6 90 22) = (h 90 22) ∧ (h6 90 25) = (h 90 25) ∧ (h6 90 26) = (h 90 26) ∧ (h6 90 28) = (h 90 28) ∧ (h6 90 29) = (h 90 29) ∧ (h6 90 30) = (h 90 30) ∧ (h6 90 34) = (h 90 34)), 120 - x1 < (n1 : Int) → ov_R u d ov_m204 2 [(0, ov_r 90), (1, ov_i x1)] [] z5 h6 (P_Mo_begins_90 F z h) := by
    intro n1
    induction n1 with
    | zero =>
      intro x1 z5 h6 I7 E8 E9 E10 E11 E12 E13 E14 E15 E16 E17 E18 E19 E20 E21 q3 hn22
      exact absurd hn22 (by omega)
    | succ n1 ih2 =>
      intro x1 z5 h6 I7 E8 E9 E10 E11 E12 E13 E14 E15 E16 E17 E18 E19 E20 E21 q3 hn22
      refine ov_blk (ls2 := [(0, ov_r 90), (1, ov_i x1)]) (st2 := [ov_i 120, ov_i x1]) (pc2 := 5) b_204_2_2 rfl rfl ?_
      refine ov_icge (tgt := 21) d_204_5 (by decide) (by omega) (by omega) (fun c23 => ?_) (fun c23 => ?_)
      · skip
        refine ov_blk (ls2 := [(0, ov_r 90), (1, ov_i x1)]) (st2 := [ov_r 90]) (pc2 := 22) b_204_21_1 rfl rfl ?_
        refine ov_getf (v := ov_r 100) d_204_22 fl_Mo_93 (zb_90 I7) (zs_90 I7) (congrArg ov_r (rg_90_16 I7)) ?_
        refine ov_blk (ls2 := [(0, ov_r 90), (1, ov_i x1)]) (st2 := [ov_i 0, ov_i 0, ov_r 100]) (pc2 := 27) b_204_25_2 rfl rfl ?_
        refine ov_iast d_204_27 (zb_100 I7) (zs_100 I7) (by omega) ?_
        have I24 := ua_100 (k := 0) (x := 0) I7 (by refine ⟨?_, ?_, ?_, ?_⟩ <;> omega)
        refine ov_blk (ls2 := [(0, ov_r 90), (1, ov_i x1)]) (st2 := [ov_i 0, ov_r 90]) (pc2 := 30) b_204_28_2 rfl rfl ?_
        refine ov_putf (x := 0) d_204_30 fl_Mo_319 (zb_90 I24) (zs_90 I24) rfl nk_0 rfl ?_
        have I25 := up_90_20 (x := 0) I24 (by omega)
        refine ov_blk (ls2 := [(0, ov_r 90), (1, ov_i x1)]) (st2 := [ov_r 90, ov_r 90]) (pc2 := 35) b_204_33_2 rfl rfl ?_
        refine ov_getf (v := ov_i (h6 90 22)) d_204_35 fl_Mo_322 (zb_90 I25) (zs_90 I25) rfl ?_
        have g26 := rg_90_22 I7
        refine ov_blk (ls2 := [(0, ov_r 90), (1, ov_i x1)]) (st2 := [ov_i ((h6 90 22) + 1), ov_r 90]) (pc2 := 40) b_204_38_2 rfl rfl ?_
        refine ov_putf (x := ((h6 90 22) + 1)) d_204_40 fl_Mo_322 (zb_90 I25) (zs_90 I25) rfl nk_0 rfl ?_
        have I27 := up_90_22 (x := ((h6 90 22) + 1)) I25 (by omega)
        refine ov_blk (ls2 := [(0, ov_r 90), (1, ov_i 0)]) (st2 := []) (pc2 := 45) b_204_43_2 rfl rfl ?_
        have L31 : ∀ (n28 : Nat) (x1_ : Int) (z32 : ov_Z) (h33 : ov_H) (I34 : ov_N F z32 h33) (E35 : h33 91 = h 91) (E36 : h33 92 = h 92) (E37 : h33 93 = h 93) (E38 : h33 94 = h 94) (E39 : h33 95 = h 95) (E40 : h33 96 = h 96) (E41 : h33 97 = h 97) (E42 : h33 98 = h 98) (E43 : h33 99 = h 99) (E44 : h33 103 = h6 103) (E45 : h33 105 = h 105) (E46 : h33 106 = h 106) (E47 : h33 109 = h 109) (E48 : h33 114 = h 114) (q30 : 0 ≤ x1_ ∧ x1_ ≤ 4 ∧ (h33 100 0) = 0 ∧ (h33 90 2) = (h6 90 2) ∧ (h33 90 7) = (h6 90 7) ∧ (h33 90 8) = (h6 90 8) ∧ (h33 90 13) = (h6 90 13) ∧ (h33 90 20) = 0 ∧ (h33 90 22) = ((h6 90 22) + 1) ∧ (h33 90 25) = (h6 90 25) ∧ (h33 90 26) = (h6 90 26) ∧ (h33 90 28) = (h6 90 28) ∧ (h33 90 29) = (h6 90 29) ∧ (h33 90 30) = (h6 90 30) ∧ (h33 90 34) = (h6 90 34)), 4 - x1_ < (n28 : Int) → ov_R u d ov_m204 45 [(0, ov_r 90), (1, ov_i x1_)] [] z32 h33 (P_Mo_begins_90 F z h) := by
          intro n28
          induction n28 with
          | zero =>
            intro x1_ z32 h33 I34 E35 E36 E37 E38 E39 E40 E41 E42 E43 E44 E45 E46 E47 E48 q30 hn49
            exact absurd hn49 (by omega)
          | succ n28 ih29 =>
            intro x1_ z32 h33 I34 E35 E36 E37 E38 E39 E40 E41 E42 E43 E44 E45 E46 E47 E48 q30 hn49
            refine ov_blk (ls2 := [(0, ov_r 90), (1, ov_i x1_)]) (st2 := [ov_i 4, ov_i x1_]) (pc2 := 47) b_204_45_2 rfl rfl ?_
            refine ov_icge (tgt := 63) d_204_47 (by decide) (by omega) (by omega) (fun c50 => ?_) (fun c50 => ?_)
            · skip
              exact ov_retv (st := []) d_204_63 rfl ⟨rfl, I34, (by show (h33 90 2) = (h 90 2) ∧ (h33 90 7) = (h 90 7) ∧ (h33 90 8) = (h 90 8) ∧ (h33 90 13) = (h 90 13) ∧ (h33 90 25) = (h 90 25) ∧ (h33 90 26) = (h 90 26) ∧ (h33 90 28) = (h 90 28) ∧ (h33 90 29) = (h 90 29) ∧ (h33 90 30) = (h 90 30) ∧ (h33 90 34) = (h 90 34) ∧ (h33 90 22) = (h 90 22) + 1 ∧ (h33 100 0) = 0; omega), E35, E36, E37, E38, E39, E40, E41, E42, E43, E45, E46, E47, E48⟩
            · skip
              refine ov_blk (ls2 := [(0, ov_r 90), (1, ov_i x1_)]) (st2 := [ov_r 90]) (pc2 := 51) b_204_50_1 rfl rfl ?_
              refine ov_getf (v := ov_r 104) d_204_51 fl_Mo_105 (zb_90 I34) (zs_90 I34) (congrArg ov_r (rg_90_21 I34)) ?_
              refine ov_blk (ls2 := [(0, ov_r 90), (1, ov_i x1_)]) (st2 := [ov_i 0, ov_i x1_, ov_r 104]) (pc2 := 56) b_204_54_2 rfl rfl ?_
              refine ov_zast d_204_56 (zb_104 I34) (zs_104 I34) (by omega) (by omega) ?_
              have I51 := ua_104 (k := x1_) (x := 0) I34 (by omega)
              refine ov_blk (ls2 := [(0, ov_r 90), (1, ov_i (x1_ + 1))]) (st2 := []) (pc2 := 60) b_204_57_1 rfl rfl ?_
              refine ov_goto (tgt := 45) d_204_60 (by decide) ?_
              exact ih29 (x1_ + 1) _ _ I51 E35 E36 E37 E38 E39 E40 E41 E42 E43 E44 E45 E46 E47 E48 (by show 0 ≤ (x1_ + 1) ∧ (x1_ + 1) ≤ 4 ∧ (h33 100 0) = 0 ∧ (h33 90 2) = (h6 90 2) ∧ (h33 90 7) = (h6 90 7) ∧ (h33 90 8) = (h6 90 8) ∧ (h33 90 13) = (h6 90 13) ∧ (h33 90 20) = 0 ∧ (h33 90 22) = ((h6 90 22) + 1) ∧ (h33 90 25) = (h6 90 25) ∧ (h33 90 26) = (h6 90 26) ∧ (h33 90 28) = (h6 90 28) ∧ (h33 90 29) = (h6 90 29) ∧ (h33 90 30) = (h6 90 30) ∧ (h33 90 34) = (h6 90 34); omega) (by omega)
        exact L31 5 0 _ _ I27 E8 E9 E10 E11 E12 E13 E14 E15 E16 rfl E18 E19 E20 E21 (by show 0 ≤ 0 ∧ 0 ≤ 4 ∧ 0 = 0 ∧ (h6 90 2) = (h6 90 2) ∧ (h6 90 7) = (h6 90 7) ∧ (h6 90 8) = (h6 90 8) ∧ (h6 90 13) = (h6 90 13) ∧ 0 = 0 ∧ ((h6 90 22) + 1) = ((h6 90 22) + 1) ∧ (h6 90 25) = (h6 90 25) ∧ (h6 90 26) = (h6 90 26) ∧ (h6 90 28) = (h6 90 28) ∧ (h6 90 29) = (h6 90 29) ∧ (h6 90 30) = (h6 90 30) ∧ (h6 90 34) = (h6 90 34); omega) (by omega)
      · skip
        refine ov_blk (ls2 := [(0, ov_r 90), (1, ov_i x1)]) (st2 := [ov_r 90]) (pc2 := 9) b_204_8_1 rfl rfl ?_
        refine ov_getf (v := ov_r 103) d_204_9 fl_Mo_102 (zb_90 I7) (zs_90 I7) (congrArg ov_r (rg_90_19 I7)) ?_
        refine ov_blk (ls2 := [(0, ov_r 90), (1, ov_i x1)]) (st2 := [ov_i 0, ov_i x1, ov_r 103]) (pc2 := 14) b_204_12_2 rfl rfl ?_
        refine ov_iast d_204_14 (zb_103 I7) (zs_103 I7) (by omega) ?_
        have I52 := ua_103 (k := x1) (x := 0) I7 (by refine ⟨?_, ?_, ?_, ?_, ?_, ?_⟩ <;> omega)
        refine ov_blk (ls2 := [(0, ov_r 90), (1, ov_i (x1 + 1))]) (st2 := []) (pc2 := 18) b_204_15_1 rfl rfl ?_
        refine ov_goto (tgt := 2) d_204_18 (by decide) ?_
        exact ih2 (x1 + 1) _ _ I52 E8 E9 E10 E11 E12 E13 E14 E15 E16 E17 E18 E19 E20 E21 (by show 0 ≤ (x1 + 1) ∧ (x1 + 1) ≤ 120 ∧ (h6 90 2) = (h 90 2) ∧ (h6 90 7) = (h 90 7) ∧ (h6 90 8) = (h 90 8) ∧ (h6 90 13) = (h 90 13) ∧ (h6 90 20) = (h 90 20) ∧ (h6 90 22) = (h 90 22) ∧ (h6 90 25) = (h 90 25) ∧ (h6 90 26) = (h 90 26) ∧ (h6 90 28) = (h 90 28) ∧ (h6 90 29) = (h 90 29) ∧ (h6 90 30) = (h 90 30) ∧ (h6 90 34) = (h 90 34); omega) (by omega)
  exact L4 121 0 _ _ I rfl rfl rfl rfl rfl rfl rfl rfl rfl rfl rfl rfl rfl rfl (by show 0 ≤ 0 ∧ 0 ≤ 120 ∧ (h 90 2) = (h 90 2) ∧ (h 90 7) = (h 90 7) ∧ (h 90 8) = (h 90 8) ∧ (h 90 13) = (h 90 13) ∧ (h 90 20) = (h 90 20) ∧ (h 90 22) = (h 90 22) ∧ (h 90 25) = (h 90 25) ∧ (h 90 26) = (h 90 26) ∧ (h 90 28) = (h 90 28) ∧ (h 90 29) = (h 90 29) ∧ (h 90 30) = (h 90 30) ∧ (h 90 34) = (h 90 34); omega) (by omega)
abbrev P_Mo_keeps_90 (F : ov_H × ov_Z) (z : ov_Z) (h : ov_H) : Option ov_V → ov_Z → ov_H → Prop := fun r0 z' h' => r0 = none ∧ ov_N F z' h' ∧ ((h' 90 2) = (h 90 2) ∧ (h' 90 7) = (h 90 7) ∧ (h' 90 8) = (h 90 8) ∧ (h' 90 13) = (h 90 13) ∧ (h' 90 22) = (h 90 22) ∧ (h' 90 25) = (h 90 25) ∧ (h' 90 26) = (h 90 26) ∧ (h' 90 28) = (h 90 28) ∧ (h' 90 29) = (h 90 29) ∧ (h' 90 30) = (h 90 30) ∧ (h' 90 34) = (h 90 34)) ∧ h' 91 = h 91 ∧ h' 92 = h 92 ∧ h' 93 = h 93 ∧ h' 94 = h 94 ∧ h' 95 = h 95 ∧ h' 96 = h 96 ∧ h' 97 = h 97 ∧ h' 98 = h 98 ∧ h' 99 = h 99 ∧ h' 100 = h 100 ∧ h' 105 = h 105 ∧ h' 106 = h 106 ∧ h' 109 = h 109 ∧ h' 114 = h 114 ∧ (∀ j : Int, j < 600 → (h' 103) j = (h 103) j)
set_option maxHeartbeats 4000000 in
theorem c_Mo_keeps_90 {u : ov_U} {F : ov_H × ov_Z} {z : ov_Z} {h : ov_H} (d : Nat) (hd : 1 ≤ d) (U : ov_cap u) (I : ov_N F z h) : ov_T u d ov_m254 [ov_r 90] z h (P_Mo_keeps_90 F z h) := by
  refine ov_en rfl (Nat.le_of_ble_eq_true rfl) ?_
  show ov_R u d ov_m254 0 [(0, ov_r 90)] [] z h (P_Mo_keeps_90 F z h)
  refine ov_blk (ls2 := [(0, ov_r 90)]) (st2 := [ov_r 90]) (pc2 := 1) b_254_0_1 rfl rfl ?_
  refine ov_getf (v := ov_i (h 90 20)) d_254_1 fl_Mo_319 (zb_90 I) (zs_90 I) rfl ?_
  have g1 := rg_90_20 I
  refine ov_blk (ls2 := [(0, ov_r 90)]) (st2 := [ov_i 16, ov_i (h 90 20)]) (pc2 := 6) b_254_4_1 rfl rfl ?_
  refine ov_icne (tgt := 47) d_254_6 (by decide) (by omega) (by omega) (fun c2 => ?_) (fun c2 => ?_)
  · skip
    refine ov_blk (ls2 := [(0, ov_r 90)]) (st2 := [ov_r 90, ov_i 5, ov_i 0, ov_r 90]) (pc2 := 51) b_254_47_4 rfl rfl ?_
    refine ov_getf (v := ov_i (h 90 20)) d_254_51 fl_Mo_319 (zb_90 I) (zs_90 I) rfl ?_
    refine ov_blk (ls2 := [(0, ov_r 90)]) (st2 := [ov_i 58, ov_i (5 + (h 90 20)), ov_i 0, ov_r 90]) (pc2 := 57) b_254_54_2 rfl rfl ?_
    refine ov_cV (as := [ov_i 0, ov_i (5 + (h 90 20)), ov_i 58]) (st := []) (d2 := d - 1) d_254_57 lk_Mo_325 rfl (Nat.le_of_ble_eq_true rfl) (c := 1) (zb_90 I) (zs_90 I) ⟨by decide, rfl⟩ (by omega) (c_Mo_copies_90 (d - 1) (by omega) U I 0 (5 + (h 90 20)) 58 (by omega) (by omega) (by omega) (by omega) (by omega) (by omega)) ?_
    rintro _ z20 h21 ⟨rfl, I22, f4, e5, e6, e7, e8, e9, e10, e11, e12, e13, e14, e15, e16, e17, e18, y19⟩
    have E23 : h21 91 = h 91 := e5
    have E24 : h21 92 = h 92 := e6
    have E25 : h21 93 = h 93 := e7
    have E26 : h21 94 = h 94 := e8
    have E27 : h21 95 = h 95 := e9
    have E28 : h21 96 = h 96 := e10
    have E29 : h21 97 = h 97 := e11
    have E30 : h21 98 = h 98 := e12
    have E31 : h21 99 = h 99 := e13
    have E32 : h21 100 = h 100 := e14
    have E33 : h21 105 = h 105 := e15
    have E34 : h21 106 = h 106 := e16
    have E35 : h21 109 = h 109 := e17
    have E36 : h21 114 = h 114 := e18
    show ov_R u d ov_m254 60 [(0, ov_r 90)] [] z20 h21 (P_Mo_keeps_90 F z h)
    have f37 : (h21 90 2) = (h 90 2) ∧ (h21 90 7) = (h 90 7) ∧ (h21 90 8) = (h 90 8) ∧ (h21 90 13) = (h 90 13) ∧ (h21 90 20) = (h 90 20) ∧ (h21 90 22) = (h 90 22) ∧ (h21 90 25) = (h 90 25) ∧ (h21 90 26) = (h 90 26) ∧ (h21 90 28) = (h 90 28) ∧ (h21 90 29) = (h 90 29) ∧ (h21 90 30) = (h 90 30) ∧ (h21 90 34) = (h 90 34) := f4
    clear f4
    have y19_ : ∀ j : Int, j < 120 * (5 + (h 90 20)) ∨ 120 * (5 + (h 90 20)) + (58 : Int) ≤ j → (h21 103) j = (h 103) j := y19
    refine ov_blk (ls2 := [(0, ov_r 90)]) (st2 := [ov_r 90, ov_r 90]) (pc2 := 62) b_254_60_2 rfl rfl ?_
    refine ov_getf (v := ov_i (h21 90 20)) d_254_62 fl_Mo_319 (zb_90 I22) (zs_90 I22) rfl ?_
    have g38 := rg_90_20 I22
    refine ov_blk (ls2 := [(0, ov_r 90)]) (st2 := [ov_i ((h21 90 20) + 1), ov_r 90]) (pc2 := 67) b_254_65_2 rfl rfl ?_
    refine ov_putf (x := ((h21 90 20) + 1)) d_254_67 fl_Mo_319 (zb_90 I22) (zs_90 I22) rfl nk_0 rfl ?_
    have I39 := up_90_20 (x := ((h21 90 20) + 1)) I22 (by omega)
    have xk0 : ∀ j : Int, j < 600 → (ov_up h21 90 20 ((h21 90 20) + 1)) 103 j = h 103 j := fun j hj => by show h21 103 j = _; rw [y19_ j (by omega)]
    exact ov_retv (st := []) d_254_70 rfl ⟨rfl, I39, (by show (h21 90 2) = (h 90 2) ∧ (h21 90 7) = (h 90 7) ∧ (h21 90 8) = (h 90 8) ∧ (h21 90 13) = (h 90 13) ∧ (h21 90 22) = (h 90 22) ∧ (h21 90 25) = (h 90 25) ∧ (h21 90 26) = (h 90 26) ∧ (h21 90 28) = (h 90 28) ∧ (h21 90 29) = (h 90 29) ∧ (h21 90 30) = (h 90 30) ∧ (h21 90 34) = (h 90 34); omega), E23, E24, E25, E26, E27, E28, E29, E30, E31, E32, E33, E34, E35, E36, xk0⟩
  · skip
    refine ov_blk (ls2 := [(0, ov_r 90), (1, ov_i 1)]) (st2 := []) (pc2 := 11) b_254_9_2 rfl rfl ?_
    have L43 : ∀ (n40 : Nat) (x1 : Int) (z44 : ov_Z) (h45 : ov_H) (I46 : ov_N F z44 h45) (E47 : h45 91 = h 91) (E48 : h45 92 = h 92) (E49 : h45 93 = h 93) (E50 : h45 94 = h 94) (E51 : h45 95 = h 95) (E52 : h45 96 = h 96) (E53 : h45 97 = h 97) (E54 : h45 98 = h 98) (E55 : h45 99 = h 99) (E56 : h45 100 = h 100) (E57 : h45 105 = h 105) (E58 : h45 106 = h 106) (E59 : h45 109 = h 109) (E60 : h45 114 = h 114) (xl : ∀ j : Int, j < 600 → (h45 103) j = (h 103) j) (q42 : 1 ≤ x1 ∧ x1 ≤ 16 ∧ (h45 90 20) = 16 ∧ (h45 90 2) = (h 90 2) ∧ (h45 90 7) = (h 90 7) ∧ (h45 90 8) = (h 90 8) ∧ (h45 90 13) = (h 90 13) ∧ (h45 90 20) = (h 90 20) ∧ (h45 90 22) = (h 90 22) ∧ (h45 90 25) = (h 90 25) ∧ (h45 90 26) = (h 90 26) ∧ (h45 90 28) = (h 90 28) ∧ (h45 90 29) = (h 90 29) ∧ (h45 90 30) = (h 90 30) ∧ (h45 90 34) = (h 90 34)), 16 - x1 < (n40 : Int) → ov_R u d ov_m254 11 [(0, ov_r 90), (1, ov_i x1)] [] z44 h45 (P_Mo_keeps_90 F z h) := by
      intro n40
      induction n40 with
      | zero =>
        intro x1 z44 h45 I46 E47 E48 E49 E50 E51 E52 E53 E54 E55 E56 E57 E58 E59 E60 xl q42 hn61
        exact absurd hn61 (by omega)
      | succ n40 ih41 =>
        intro x1 z44 h45 I46 E47 E48 E49 E50 E51 E52 E53 E54 E55 E56 E57 E58 E59 E60 xl q42 hn61
        refine ov_blk (ls2 := [(0, ov_r 90), (1, ov_i x1)]) (st2 := [ov_i 16, ov_i x1]) (pc2 := 14) b_254_11_2 rfl rfl ?_
        refine ov_icge (tgt := 37) d_254_14 (by decide) (by omega) (by omega) (fun c62 => ?_) (fun c62 => ?_)
        · skip
          refine ov_blk (ls2 := [(0, ov_r 90), (1, ov_i x1)]) (st2 := [ov_r 90, ov_r 90]) (pc2 := 39) b_254_37_2 rfl rfl ?_
          refine ov_getf (v := ov_i (h45 90 20)) d_254_39 fl_Mo_319 (zb_90 I46) (zs_90 I46) rfl ?_
          have g63 := rg_90_20 I46
          refine ov_blk (ls2 := [(0, ov_r 90), (1, ov_i x1)]) (st2 := [ov_i ((h45 90 20) - 1), ov_r 90]) (pc2 := 44) b_254_42_2 rfl rfl ?_
          refine ov_putf (x := ((h45 90 20) - 1)) d_254_44 fl_Mo_319 (zb_90 I46) (zs_90 I46) rfl nk_0 rfl ?_
          have I64 := up_90_20 (x := ((h45 90 20) - 1)) I46 (by omega)
          refine ov_blk (ls2 := [(0, ov_r 90), (1, ov_i x1)]) (st2 := [ov_r 90, ov_i 5, ov_i 0, ov_r 90]) (pc2 := 51) b_254_47_4 rfl rfl ?_
          refine ov_getf (v := ov_i ((h45 90 20) - 1)) d_254_51 fl_Mo_319 (zb_90 I64) (zs_90 I64) rfl ?_
          refine ov_blk (ls2 := [(0, ov_r 90), (1, ov_i x1)]) (st2 := [ov_i 58, ov_i (5 + ((h45 90 20) - 1)), ov_i 0, ov_r 90]) (pc2 := 57) b_254_54_2 rfl rfl ?_
          refine ov_cV (as := [ov_i 0, ov_i (5 + ((h45 90 20) - 1)), ov_i 58]) (st := []) (d2 := d - 1) d_254_57 lk_Mo_325 rfl (Nat.le_of_ble_eq_true rfl) (c := 1) (zb_90 I64) (zs_90 I64) ⟨by decide, rfl⟩ (by omega) (c_Mo_copies_90 (d - 1) (by omega) U I64 0 (5 + ((h45 90 20) - 1)) 58 (by omega) (by omega) (by omega) (by omega) (by omega) (by omega)) ?_
          rintro _ z81 h82 ⟨rfl, I83, f65, e66, e67, e68, e69, e70, e71, e72, e73, e74, e75, e76, e77, e78, e79, y80⟩
          have E84 : h82 91 = h 91 := Eq.trans e66 E47
          have E85 : h82 92 = h 92 := Eq.trans e67 E48
          have E86 : h82 93 = h 93 := Eq.trans e68 E49
          have E87 : h82 94 = h 94 := Eq.trans e69 E50
          have E88 : h82 95 = h 95 := Eq.trans e70 E51
          have E89 : h82 96 = h 96 := Eq.trans e71 E52
          have E90 : h82 97 = h 97 := Eq.trans e72 E53
          have E91 : h82 98 = h 98 := Eq.trans e73 E54
          have E92 : h82 99 = h 99 := Eq.trans e74 E55
          have E93 : h82 100 = h 100 := Eq.trans e75 E56
          have E94 : h82 105 = h 105 := Eq.trans e76 E57
          have E95 : h82 106 = h 106 := Eq.trans e77 E58
          have E96 : h82 109 = h 109 := Eq.trans e78 E59
          have E97 : h82 114 = h 114 := Eq.trans e79 E60
          show ov_R u d ov_m254 60 [(0, ov_r 90), (1, ov_i x1)] [] z81 h82 (P_Mo_keeps_90 F z h)
          have f98 : (h82 90 2) = (h45 90 2) ∧ (h82 90 7) = (h45 90 7) ∧ (h82 90 8) = (h45 90 8) ∧ (h82 90 13) = (h45 90 13) ∧ (h82 90 20) = ((h45 90 20) - 1) ∧ (h82 90 22) = (h45 90 22) ∧ (h82 90 25) = (h45 90 25) ∧ (h82 90 26) = (h45 90 26) ∧ (h82 90 28) = (h45 90 28) ∧ (h82 90 29) = (h45 90 29) ∧ (h82 90 30) = (h45 90 30) ∧ (h82 90 34) = (h45 90 34) := f65
          clear f65
          have y80_ : ∀ j : Int, j < 120 * (5 + ((h45 90 20) - 1)) ∨ 120 * (5 + ((h45 90 20) - 1)) + (58 : Int) ≤ j → (h82 103) j = (h45 103) j := y80
          refine ov_blk (ls2 := [(0, ov_r 90), (1, ov_i x1)]) (st2 := [ov_r 90, ov_r 90]) (pc2 := 62) b_254_60_2 rfl rfl ?_
          refine ov_getf (v := ov_i (h82 90 20)) d_254_62 fl_Mo_319 (zb_90 I83) (zs_90 I83) rfl ?_
          have g99 := rg_90_20 I83
          refine ov_blk (ls2 := [(0, ov_r 90), (1, ov_i x1)]) (st2 := [ov_i ((h82 90 20) + 1), ov_r 90]) (pc2 := 67) b_254_65_2 rfl rfl ?_
          refine ov_putf (x := ((h82 90 20) + 1)) d_254_67 fl_Mo_319 (zb_90 I83) (zs_90 I83) rfl nk_0 rfl ?_
          have I100 := up_90_20 (x := ((h82 90 20) + 1)) I83 (by omega)
          have xk0 : ∀ j : Int, j < 600 → (ov_up h82 90 20 ((h82 90 20) + 1)) 103 j = h 103 j := fun j hj => by show h82 103 j = _; rw [y80_ j (by omega)]; exact xl j hj
          exact ov_retv (st := []) d_254_70 rfl ⟨rfl, I100, (by show (h82 90 2) = (h 90 2) ∧ (h82 90 7) = (h 90 7) ∧ (h82 90 8) = (h 90 8) ∧ (h82 90 13) = (h 90 13) ∧ (h82 90 22) = (h 90 22) ∧ (h82 90 25) = (h 90 25) ∧ (h82 90 26) = (h 90 26) ∧ (h82 90 28) = (h 90 28) ∧ (h82 90 29) = (h 90 29) ∧ (h82 90 30) = (h 90 30) ∧ (h82 90 34) = (h 90 34); omega), E84, E85, E86, E87, E88, E89, E90, E91, E92, E93, E94, E95, E96, E97, xk0⟩
        · skip
          refine ov_blk (ls2 := [(0, ov_r 90), (1, ov_i x1)]) (st2 := [ov_i 58, ov_i ((5 + x1) - 1), ov_i (5 + x1), ov_r 90]) (pc2 := 28) b_254_17_10 rfl rfl ?_
          refine ov_cV (as := [ov_i (5 + x1), ov_i ((5 + x1) - 1), ov_i 58]) (st := []) (d2 := d - 1) d_254_28 lk_Mo_325 rfl (Nat.le_of_ble_eq_true rfl) (c := 1) (zb_90 I46) (zs_90 I46) ⟨by decide, rfl⟩ (by omega) (c_Mo_copies_90 (d - 1) (by omega) U I46 (5 + x1) ((5 + x1) - 1) 58 (by omega) (by omega) (by omega) (by omega) (by omega) (by omega)) ?_
          rintro _ z117 h118 ⟨rfl, I119, f101, e102, e103, e104, e105, e106, e107, e108, e109, e110, e111, e112, e113, e114, e115, y116⟩
          have E120 : h118 91 = h 91 := Eq.trans e102 E47
          have E121 : h118 92 = h 92 := Eq.trans e103 E48
          have E122 : h118 93 = h 93 := Eq.trans e104 E49
          have E123 : h118 94 = h 94 := Eq.trans e105 E50
          have E124 : h118 95 = h 95 := Eq.trans e106 E51
          have E125 : h118 96 = h 96 := Eq.trans e107 E52
          have E126 : h118 97 = h 97 := Eq.trans e108 E53
          have E127 : h118 98 = h 98 := Eq.trans e109 E54
          have E128 : h118 99 = h 99 := Eq.trans e110 E55
          have E129 : h118 100 = h 100 := Eq.trans e111 E56
          have E130 : h118 105 = h 105 := Eq.trans e112 E57
          have E131 : h118 106 = h 106 := Eq.trans e113 E58
          have E132 : h118 109 = h 109 := Eq.trans e114 E59
          have E133 : h118 114 = h 114 := Eq.trans e115 E60
          show ov_R u d ov_m254 31 [(0, ov_r 90), (1, ov_i x1)] [] z117 h118 (P_Mo_keeps_90 F z h)
          have f134 : (h118 90 2) = (h45 90 2) ∧ (h118 90 7) = (h45 90 7) ∧ (h118 90 8) = (h45 90 8) ∧ (h118 90 13) = (h45 90 13) ∧ (h118 90 20) = (h45 90 20) ∧ (h118 90 22) = (h45 90 22) ∧ (h118 90 25) = (h45 90 25) ∧ (h118 90 26) = (h45 90 26) ∧ (h118 90 28) = (h45 90 28) ∧ (h118 90 29) = (h45 90 29) ∧ (h118 90 30) = (h45 90 30) ∧ (h118 90 34) = (h45 90 34) := f101
          clear f101
          have y116_ : ∀ j : Int, j < 120 * ((5 + x1) - 1) ∨ 120 * ((5 + x1) - 1) + (58 : Int) ≤ j → (h118 103) j = (h45 103) j := y116
          refine ov_blk (ls2 := [(0, ov_r 90), (1, ov_i (x1 + 1))]) (st2 := []) (pc2 := 34) b_254_31_1 rfl rfl ?_
          refine ov_goto (tgt := 11) d_254_34 (by decide) ?_
          have xl2 : ∀ j : Int, j < 600 → (h118 103) j = h 103 j := fun j hj => by rw [y116_ j (by omega)]; exact xl j hj
          exact ih41 (x1 + 1) _ _ I119 E120 E121 E122 E123 E124 E125 E126 E127 E128 E129 E130 E131 E132 E133 xl2 (by show 1 ≤ (x1 + 1) ∧ (x1 + 1) ≤ 16 ∧ (h118 90 20) = 16 ∧ (h118 90 2) = (h 90 2) ∧ (h118 90 7) = (h 90 7) ∧ (h118 90 8) = (h 90 8) ∧ (h118 90 13) = (h 90 13) ∧ (h118 90 20) = (h 90 20) ∧ (h118 90 22) = (h 90 22) ∧ (h118 90 25) = (h 90 25) ∧ (h118 90 26) = (h 90 26) ∧ (h118 90 28) = (h 90 28) ∧ (h118 90 29) = (h 90 29) ∧ (h118 90 30) = (h 90 30) ∧ (h118 90 34) = (h 90 34); omega) (by omega)
    exact L43 17 1 _ _ I rfl rfl rfl rfl rfl rfl rfl rfl rfl rfl rfl rfl rfl rfl (fun j _ => rfl) (by show 1 ≤ 1 ∧ 1 ≤ 16 ∧ (h 90 20) = 16 ∧ (h 90 2) = (h 90 2) ∧ (h 90 7) = (h 90 7) ∧ (h 90 8) = (h 90 8) ∧ (h 90 13) = (h 90 13) ∧ (h 90 20) = (h 90 20) ∧ (h 90 22) = (h 90 22) ∧ (h 90 25) = (h 90 25) ∧ (h 90 26) = (h 90 26) ∧ (h 90 28) = (h 90 28) ∧ (h 90 29) = (h 90 29) ∧ (h 90 30) = (h 90 30) ∧ (h 90 34) = (h 90 34); omega) (by omega)
abbrev P_Mo_go_90 (F : ov_H × ov_Z) (z : ov_Z) (h : ov_H) (way : Int) (run : Int) : Option ov_V → ov_Z → ov_H → Prop := fun r0 z' h' => ∃ r : Int, r0 = some (ov_i r) ∧ ov_N F z' h' ∧ ((h' 90 2) = (h 90 2) ∧ (h' 90 7) = (h 90 7) ∧ (h' 90 8) = (h 90 8) ∧ (h' 90 13) = (h 90 13) ∧ (h' 90 22) = (h 90 22) ∧ (h' 90 25) = (h 90 25) ∧ (h' 90 26) = (h 90 26) ∧ (h' 90 28) = (h 90 28) ∧ (h' 90 29) = (h 90 29) ∧ (h' 90 30) = (h 90 30) ∧ (h' 90 34) = (h 90 34) ∧ -2147483648 ≤ r ∧ r ≤ 2147483647) ∧ h' 91 = h 91 ∧ h' 92 = h 92 ∧ h' 93 = h 93 ∧ h' 94 = h 94 ∧ h' 95 = h 95 ∧ h' 96 = h 96 ∧ h' 97 = h 97 ∧ h' 98 = h 98 ∧ h' 99 = h 99 ∧ h' 100 = h 100 ∧ h' 105 = h 105 ∧ h' 106 = h 106 ∧ h' 109 = h 109 ∧ h' 114 = h 114 ∧ (∀ j : Int, 4 ≤ j → j ≤ 57 → (h' 103) j = (h 103) j)
set_option maxHeartbeats 4000000 in
theorem c_Mo_go_90 {u : ov_U} {F : ov_H × ov_Z} {z : ov_Z} {h : ov_H} (d : Nat) (hd : 3 ≤ d) (U : ov_cap u) (I : ov_N F z h) (way : Int) (run : Int) (g_way : ov_g way) (g_run : run = 0 ∨ run = 1) (p0 : (h 103 2) ≤ ov_bd F - 1000) (p1 : 0 ≤ ov_bd F ∧ ov_bd F ≤ 800000000) (W : ov_WT (h 96)) : ov_T u d ov_m253 [ov_r 90, ov_i way, ov_i run] z h (P_Mo_go_90 F z h way run) := by
  refine ov_en rfl (Nat.le_of_ble_eq_true rfl) ?_
  show ov_R u d ov_m253 0 [(0, ov_r 90), (1, ov_i way), (2, ov_i run)] [] z h (P_Mo_go_90 F z h way run)
  have t0 := t96_0 I
  have t1 := t96_1 I
  refine ov_blk (ls2 := [(0, ov_r 90), (1, ov_i way), (2, ov_i run)]) (st2 := [ov_i 0, ov_r 90]) (pc2 := 2) b_253_0_2 rfl rfl ?_
  refine ov_putf (x := 0) d_253_2 fl_Mo_1 (zb_90 I) (zs_90 I) rfl nk_0 rfl ?_
  have I1 := up_90_0 (x := 0) I (by omega)
  refine ov_blk (ls2 := [(0, ov_r 90), (1, ov_i way), (2, ov_i run)]) (st2 := [ov_r 90]) (pc2 := 6) b_253_5_1 rfl rfl ?_
  refine ov_getf (v := ov_r 103) d_253_6 fl_Mo_102 (zb_90 I1) (zs_90 I1) (congrArg ov_r (rg_90_19 I1)) ?_
  refine ov_blk (ls2 := [(0, ov_r 90), (1, ov_i way), (2, ov_i run)]) (st2 := [ov_i 0, ov_r 103]) (pc2 := 10) b_253_9_1 rfl rfl ?_
  refine ov_iald d_253_10 (zb_103 I1) (zs_103 I1) (by omega) ?_
  show ov_R u d ov_m253 11 [(0, ov_r 90), (1, ov_i way), (2, ov_i run)] [ov_i (h 103 0)] z (ov_up h 90 0 0) (P_Mo_go_90 F z h way run)
  have g2 := s103_0 I
  refine ov_blk (ls2 := [(0, ov_r 90), (1, ov_i way), (2, ov_i run), (3, ov_i (h 103 0))]) (st2 := [ov_r 90]) (pc2 := 13) b_253_11_2 rfl rfl ?_
  refine ov_getf (v := ov_r 103) d_253_13 fl_Mo_102 (zb_90 I1) (zs_90 I1) (congrArg ov_r (rg_90_19 I1)) ?_
  refine ov_blk (ls2 := [(0, ov_r 90), (1, ov_i way), (2, ov_i run), (3, ov_i (h 103 0))]) (st2 := [ov_i 1, ov_r 103]) (pc2 := 17) b_253_16_1 rfl rfl ?_
  refine ov_iald d_253_17 (zb_103 I1) (zs_103 I1) (by omega) ?_
  show ov_R u d ov_m253 18 [(0, ov_r 90), (1, ov_i way), (2, ov_i run), (3, ov_i (h 103 0))] [ov_i (h 103 1)] z (ov_up h 90 0 0) (P_Mo_go_90 F z h way run)
  have g3 := s103_1 I
  refine ov_blk (ls2 := [(0, ov_r 90), (1, ov_i way), (2, ov_i run), (3, ov_i (h 103 0)), (4, ov_i (h 103 1))]) (st2 := [ov_i 1, ov_i 0, ov_i way]) (pc2 := 23) b_253_18_4 rfl rfl ?_
  refine ov_cS (as := [ov_i way, ov_i 0, ov_i 1]) (st := []) (d2 := d - 1) d_253_23 lk_Mo_299 rfl (Nat.le_of_ble_eq_true rfl) (by omega) (c_Mo_within (d - 1) (by omega) U I1 way 0 1 (by omega) (by omega) (by omega)) ?_
  rintro _ _ _ ⟨v5, rfl, rfl, rfl, f4⟩
  show ov_R u d ov_m253 26 [(0, ov_r 90), (1, ov_i way), (2, ov_i run), (3, ov_i (h 103 0)), (4, ov_i (h 103 1))] [ov_i v5] z (ov_up h 90 0 0) (P_Mo_go_90 F z h way run)
  have f6 : (v5 = 0 ∨ v5 = 1) ∧ (v5 = 1 → (0 : Int) ≤ way ∧ way ≤ (1 : Int)) ∧ (v5 = 0 → way < (0 : Int) ∨ (1 : Int) < way) := f4
  clear f4
  refine ov_ifeq (tgt := 70) d_253_26 (by decide) (by omega) (fun c7 => ?_) (fun c7 => ?_)
  · skip
    have f6_ : v5 = 0 := by omega
    have f8 : way < (0 : Int) ∨ (1 : Int) < way := f6.2.2 (by omega)
    clear f6
    refine ov_blk (ls2 := [(0, ov_r 90), (1, ov_i way), (2, ov_i run), (3, ov_i (h 103 0)), (4, ov_i (h 103 1))]) (st2 := [ov_i (-1)]) (pc2 := 71) b_253_70_1 rfl rfl ?_
    exact ov_reti (st := []) d_253_71 rfl ⟨_, rfl, I1, ⟨rfl, rfl, rfl, rfl, rfl, rfl, rfl, rfl, rfl, rfl, rfl, (by show -2147483648 ≤ (-1) ∧ (-1) ≤ 2147483647; omega)⟩, rfl, rfl, rfl, rfl, rfl, rfl, rfl, rfl, rfl, rfl, rfl, rfl, rfl, rfl, (fun j h1 h2 => rfl)⟩
  · skip
    have f6_ : v5 = 1 := by omega
    have f9 : (0 : Int) ≤ way ∧ way ≤ (1 : Int) := f6.2.1 (by omega)
    clear f6
    refine ov_blk (ls2 := [(0, ov_r 90), (1, ov_i way), (2, ov_i run), (3, ov_i (h 103 0)), (4, ov_i (h 103 1))]) (st2 := [ov_i way, ov_i (h 103 1), ov_i (h 103 0), ov_r 90]) (pc2 := 34) b_253_29_4 rfl rfl ?_
    refine ov_cV (as := [ov_i (h 103 0), ov_i (h 103 1), ov_i way]) (st := []) (d2 := d - 1) d_253_34 lk_Mo_309 rfl (Nat.le_of_ble_eq_true rfl) (c := 1) (zb_90 I1) (zs_90 I1) ⟨by decide, rfl⟩ (by omega) (c_Mo_canGo_90 (d - 1) (by omega) U I1 (h 103 0) (h 103 1) way (by omega) (by omega) (by omega) (by omega) (by omega)) ?_
    rintro _ _ _ ⟨v11, rfl, rfl, rfl, f10⟩
    show ov_R u d ov_m253 37 [(0, ov_r 90), (1, ov_i way), (2, ov_i run), (3, ov_i (h 103 0)), (4, ov_i (h 103 1))] [ov_i v11] z (ov_up h 90 0 0) (P_Mo_go_90 F z h way run)
    have f12 : (v11 = 0 ∨ v11 = 1) ∧ v11 = ov_cgi (h 96) (h 103 0) (h 103 1) way ∧ (v11 = 1 → ((way = 0 → (h 103 0) < (h 96 0) - 1) ∧ (¬ way = 0 → (h 103 1) < (h 96 1) - 1)) ∧ (((h 96 (10 + 4 * (6 * (h 103 1) + (h 103 0)))) = 1 ∨ (h 96 (10 + 4 * (6 * (h 103 1) + (h 103 0)))) = 2) → (way = 0 → 0 < (h 96 (10 + 4 * (6 * (h 103 1) + (h 103 0)) + 3))) ∧ (¬ way = 0 → (h 96 (10 + 4 * (6 * (h 103 1) + (h 103 0)) + 3)) < (h 96 (10 + 4 * (6 * (h 103 1) + (h 103 0)) + 1))))) := f10
    clear f10
    refine ov_ifeq (tgt := 70) d_253_37 (by decide) (by omega) (fun c13 => ?_) (fun c13 => ?_)
    · skip
      have f12_ : v11 = 0 := by omega
      have f14 : v11 = ov_cgi (h 96) (h 103 0) (h 103 1) way := f12.2.1
      clear f12
      refine ov_blk (ls2 := [(0, ov_r 90), (1, ov_i way), (2, ov_i run), (3, ov_i (h 103 0)), (4, ov_i (h 103 1))]) (st2 := [ov_i (-1)]) (pc2 := 71) b_253_70_1 rfl rfl ?_
      exact ov_reti (st := []) d_253_71 rfl ⟨_, rfl, I1, ⟨rfl, rfl, rfl, rfl, rfl, rfl, rfl, rfl, rfl, rfl, rfl, (by show -2147483648 ≤ (-1) ∧ (-1) ≤ 2147483647; omega)⟩, rfl, rfl, rfl, rfl, rfl, rfl, rfl, rfl, rfl, rfl, rfl, rfl, rfl, rfl, (fun j h1 h2 => rfl)⟩
    · skip
      have f12_ : v11 = 1 := by omega
      have f15 : v11 = ov_cgi (h 96) (h 103 0) (h 103 1) way := f12.2.1
      have f16 : ((way = 0 → (h 103 0) < (h 96 0) - 1) ∧ (¬ way = 0 → (h 103 1) < (h 96 1) - 1)) ∧ (((h 96 (10 + 4 * (6 * (h 103 1) + (h 103 0)))) = 1 ∨ (h 96 (10 + 4 * (6 * (h 103 1) + (h 103 0)))) = 2) → (way = 0 → 0 < (h 96 (10 + 4 * (6 * (h 103 1) + (h 103 0)) + 3))) ∧ (¬ way = 0 → (h 96 (10 + 4 * (6 * (h 103 1) + (h 103 0)) + 3)) < (h 96 (10 + 4 * (6 * (h 103 1) + (h 103 0)) + 1)))) := f12.2.2 (by omega)
      clear f12
      refine ov_blk (ls2 := [(0, ov_r 90), (1, ov_i way), (2, ov_i run), (3, ov_i (h 103 0)), (4, ov_i (h 103 1))]) (st2 := [ov_i run]) (pc2 := 41) b_253_40_1 rfl rfl ?_
      refine ov_ifeq (tgt := 72) d_253_41 (by decide) (by omega) (fun c17 => ?_) (fun c17 => ?_)
      · skip
        refine ov_blk (ls2 := [(0, ov_r 90), (1, ov_i way), (2, ov_i run), (3, ov_i (h 103 0)), (4, ov_i (h 103 1))]) (st2 := [ov_r 90]) (pc2 := 73) b_253_72_1 rfl rfl ?_
        refine ov_cV (as := []) (st := []) (d2 := d - 1) d_253_73 lk_Mo_329 rfl (Nat.le_of_ble_eq_true rfl) (c := 1) (zb_90 I1) (zs_90 I1) ⟨by decide, rfl⟩ (by omega) (c_Mo_keeps_90 (d - 1) (by omega) U I1) ?_
        rintro _ z34 h35 ⟨rfl, I36, f18, e19, e20, e21, e22, e23, e24, e25, e26, e27, e28, e29, e30, e31, e32, y33⟩
        have E37 : h35 91 = h 91 := e19
        have E38 : h35 92 = h 92 := e20
        have E39 : h35 93 = h 93 := e21
        have E40 : h35 94 = h 94 := e22
        have E41 : h35 95 = h 95 := e23
        have E42 : h35 96 = h 96 := e24
        have E43 : h35 97 = h 97 := e25
        have E44 : h35 98 = h 98 := e26
        have E45 : h35 99 = h 99 := e27
        have E46 : h35 100 = h 100 := e28
        have E47 : h35 105 = h 105 := e29
        have E48 : h35 106 = h 106 := e30
        have E49 : h35 109 = h 109 := e31
        have E50 : h35 114 = h 114 := e32
        show ov_R u d ov_m253 76 [(0, ov_r 90), (1, ov_i way), (2, ov_i run), (3, ov_i (h 103 0)), (4, ov_i (h 103 1))] [] z34 h35 (P_Mo_go_90 F z h way run)
        have f51 : (h35 90 2) = (h 90 2) ∧ (h35 90 7) = (h 90 7) ∧ (h35 90 8) = (h 90 8) ∧ (h35 90 13) = (h 90 13) ∧ (h35 90 22) = (h 90 22) ∧ (h35 90 25) = (h 90 25) ∧ (h35 90 26) = (h 90 26) ∧ (h35 90 28) = (h 90 28) ∧ (h35 90 29) = (h 90 29) ∧ (h35 90 30) = (h 90 30) ∧ (h35 90 34) = (h 90 34) := f18
        clear f18
        have y33_ : ∀ j : Int, j < 600 → (h35 103) j = (h 103) j := y33
        have xg0 := y33_ 0 (by decide)
        have xg1 := y33_ 1 (by decide)
        have xg2 := y33_ 2 (by decide)
        have xg3 := y33_ 3 (by decide)
        refine ov_blk (ls2 := [(0, ov_r 90), (1, ov_i way), (2, ov_i run), (3, ov_i (h 103 0)), (4, ov_i (h 103 1))]) (st2 := [ov_r 90]) (pc2 := 77) b_253_76_1 rfl rfl ?_
        refine ov_getf (v := ov_r 103) d_253_77 fl_Mo_102 (zb_90 I36) (zs_90 I36) (congrArg ov_r (rg_90_19 I36)) ?_
        refine ov_blk (ls2 := [(0, ov_r 90), (1, ov_i way), (2, ov_i run), (3, ov_i (h 103 0)), (4, ov_i (h 103 1))]) (st2 := [ov_i 2, ov_r 103, ov_i 2, ov_r 103]) (pc2 := 82) b_253_80_2 rfl rfl ?_
        refine ov_iald d_253_82 (zb_103 I36) (zs_103 I36) (by omega) ?_
        have g52 := s103_2 I36
        refine ov_blk (ls2 := [(0, ov_r 90), (1, ov_i way), (2, ov_i run), (3, ov_i (h 103 0)), (4, ov_i (h 103 1))]) (st2 := [ov_r 90, ov_i way, ov_i (h 103 1), ov_i (h 103 0), ov_r 90, ov_i (h35 103 2), ov_i 2, ov_r 103]) (pc2 := 89) b_253_83_5 rfl rfl ?_
        refine ov_getf (v := ov_r 103) d_253_89 fl_Mo_102 (zb_90 I36) (zs_90 I36) (congrArg ov_r (rg_90_19 I36)) ?_
        refine ov_blk (ls2 := [(0, ov_r 90), (1, ov_i way), (2, ov_i run), (3, ov_i (h 103 0)), (4, ov_i (h 103 1))]) (st2 := [ov_i 2, ov_r 103, ov_i way, ov_i (h 103 1), ov_i (h 103 0), ov_r 90, ov_i (h35 103 2), ov_i 2, ov_r 103]) (pc2 := 93) b_253_92_1 rfl rfl ?_
        refine ov_iald d_253_93 (zb_103 I36) (zs_103 I36) (by omega) ?_
        have cf54 : h35 96 (10 + 4 * (6 * (h 103 1) + (h 103 0))) = h 96 (10 + 4 * (6 * (h 103 1) + (h 103 0))) := congrFun E42 (10 + 4 * (6 * (h 103 1) + (h 103 0)))
        have cf55 : h35 96 (10 + 4 * (6 * (h 103 1) + (h 103 0)) + 3) = h 96 (10 + 4 * (6 * (h 103 1) + (h 103 0)) + 3) := congrFun E42 (10 + 4 * (6 * (h 103 1) + (h 103 0)) + 3)
        have cf56 : h35 96 (10 + 4 * (6 * (h 103 1) + (h 103 0)) + 1) = h 96 (10 + 4 * (6 * (h 103 1) + (h 103 0)) + 1) := congrFun E42 (10 + 4 * (6 * (h 103 1) + (h 103 0)) + 1)
        refine ov_cV (as := [ov_i (h 103 0), ov_i (h 103 1), ov_i way, ov_i (h35 103 2)]) (st := [ov_i (h35 103 2), ov_i 2, ov_r 103]) (d2 := d - 1) d_253_94 lk_Mo_315 rfl (Nat.le_of_ble_eq_true rfl) (c := 1) (zb_90 I36) (zs_90 I36) ⟨by decide, rfl⟩ (by omega) (c_Mo_waitFor_90 (d - 1) (by omega) U I36 (h 103 0) (h 103 1) way (h35 103 2) (by omega) (by omega) (by omega) (by omega) (by omega) (by omega) (by omega) (by show (((h35 96 (10 + 4 * (6 * (h 103 1) + (h 103 0)))) = 1 ∨ (h35 96 (10 + 4 * (6 * (h 103 1) + (h 103 0)))) = 2) → (way = 0 → 0 < (h35 96 (10 + 4 * (6 * (h 103 1) + (h 103 0)) + 3))) ∧ (¬ way = 0 → (h35 96 (10 + 4 * (6 * (h 103 1) + (h 103 0)) + 3)) < (h35 96 (10 + 4 * (6 * (h 103 1) + (h 103 0)) + 1)))); omega) (by rw [show h35 96 = h 96 from E42]; exact W)) ?_
        rintro _ _ _ ⟨v58, rfl, rfl, rfl, f57⟩
        show ov_R u d ov_m253 97 [(0, ov_r 90), (1, ov_i way), (2, ov_i run), (3, ov_i (h 103 0)), (4, ov_i (h 103 1))] [ov_i v58, ov_i (h35 103 2), ov_i 2, ov_r 103] z34 h35 (P_Mo_go_90 F z h way run)
        rw [show h35 96 = h 96 from E42] at f57
        have f59 : 0 ≤ v58 ∧ v58 ≤ 59 ∧ v58 = ov_wm (h 96) (6 * (h 103 1) + (h 103 0)) way (h35 103 2) := f57
        clear f57
        refine ov_blk (ls2 := [(0, ov_r 90), (1, ov_i way), (2, ov_i run), (3, ov_i (h 103 0)), (4, ov_i (h 103 1))]) (st2 := [ov_i run, ov_i v58, ov_i (h35 103 2), ov_i 2, ov_r 103]) (pc2 := 98) b_253_97_1 rfl rfl ?_
        refine ov_ifeq (tgt := 108) d_253_98 (by decide) (by omega) (fun c60 => ?_) (fun c60 => ?_)
        · skip
          refine ov_blk (ls2 := [(0, ov_r 90), (1, ov_i way), (2, ov_i run), (3, ov_i (h 103 0)), (4, ov_i (h 103 1))]) (st2 := [ov_r 90, ov_i v58, ov_i (h35 103 2), ov_i 2, ov_r 103]) (pc2 := 109) b_253_108_1 rfl rfl ?_
          refine ov_getf (v := ov_r 96) d_253_109 fl_Mo_81 (zb_90 I36) (zs_90 I36) (congrArg ov_r (rg_90_10 I36)) ?_
          refine ov_blk (ls2 := [(0, ov_r 90), (1, ov_i way), (2, ov_i run), (3, ov_i (h 103 0)), (4, ov_i (h 103 1))]) (st2 := [ov_i 2, ov_r 96, ov_i v58, ov_i (h35 103 2), ov_i 2, ov_r 103]) (pc2 := 113) b_253_112_1 rfl rfl ?_
          refine ov_iald d_253_113 (zb_96 I36) (zs_96 I36) (by omega) ?_
          rw [show h35 96 = h 96 from E42]
          have g61 := t96_2 I
          refine ov_blk (ls2 := [(0, ov_r 90), (1, ov_i way), (2, ov_i run), (3, ov_i (h 103 0)), (4, ov_i (h 103 1))]) (st2 := [ov_i (v58 + (h 96 2)), ov_i (h35 103 2), ov_i 2, ov_r 103]) (pc2 := 115) b_253_114_1 rfl rfl ?_
          refine ov_havw (fun w62 gw62 qw62 => ?_)
          refine ov_blk (ls2 := [(0, ov_r 90), (1, ov_i way), (2, ov_i run), (3, ov_i (h 103 0)), (4, ov_i (h 103 1))]) (st2 := [ov_i ((h35 103 2) + w62), ov_i 2, ov_r 103]) (pc2 := 116) b_253_115_1 rfl rfl ?_
          refine ov_havw (fun w63 gw63 qw63 => ?_)
          refine ov_iast d_253_116 (zb_103 I36) (zs_103 I36) (by omega) ?_
          have I64 := ua_103 (k := 2) (x := w63) I36 (by refine ⟨?_, ?_, ?_, ?_, ?_, ?_⟩ <;> omega)
          refine ov_blk (ls2 := [(0, ov_r 90), (1, ov_i way), (2, ov_i run), (3, ov_i (h 103 0)), (4, ov_i (h 103 1))]) (st2 := [ov_r 90]) (pc2 := 118) b_253_117_1 rfl rfl ?_
          refine ov_getf (v := ov_r 103) d_253_118 fl_Mo_102 (zb_90 I64) (zs_90 I64) (congrArg ov_r (rg_90_19 I64)) ?_
          refine ov_blk (ls2 := [(0, ov_r 90), (1, ov_i way), (2, ov_i run), (3, ov_i (h 103 0)), (4, ov_i (h 103 1))]) (st2 := [ov_i 0, ov_r 103, ov_i 0, ov_r 103]) (pc2 := 123) b_253_121_2 rfl rfl ?_
          refine ov_iald d_253_123 (zb_103 I64) (zs_103 I64) (by omega) ?_
          show ov_R u d ov_m253 124 [(0, ov_r 90), (1, ov_i way), (2, ov_i run), (3, ov_i (h 103 0)), (4, ov_i (h 103 1))] [ov_i (h35 103 0), ov_i 0, ov_r 103] z34 (ov_up h35 103 2 w63) (P_Mo_go_90 F z h way run)
          have g65 := s103_0 I36
          refine ov_blk (ls2 := [(0, ov_r 90), (1, ov_i way), (2, ov_i run), (3, ov_i (h 103 0)), (4, ov_i (h 103 1))]) (st2 := [ov_i ((h35 103 0) + (1 - way)), ov_i 0, ov_r 103]) (pc2 := 128) b_253_124_4 rfl rfl ?_
          refine ov_havw (fun w66 gw66 qw66 => ?_)
          refine ov_iast d_253_128 (zb_103 I64) (zs_103 I64) (by omega) ?_
          have I67 := ua_103 (k := 0) (x := w66) I64 (by refine ⟨?_, ?_, ?_, ?_, ?_, ?_⟩ <;> omega)
          refine ov_blk (ls2 := [(0, ov_r 90), (1, ov_i way), (2, ov_i run), (3, ov_i (h 103 0)), (4, ov_i (h 103 1))]) (st2 := [ov_r 90]) (pc2 := 130) b_253_129_1 rfl rfl ?_
          refine ov_getf (v := ov_r 103) d_253_130 fl_Mo_102 (zb_90 I67) (zs_90 I67) (congrArg ov_r (rg_90_19 I67)) ?_
          refine ov_blk (ls2 := [(0, ov_r 90), (1, ov_i way), (2, ov_i run), (3, ov_i (h 103 0)), (4, ov_i (h 103 1))]) (st2 := [ov_i 1, ov_r 103, ov_i 1, ov_r 103]) (pc2 := 135) b_253_133_2 rfl rfl ?_
          refine ov_iald d_253_135 (zb_103 I67) (zs_103 I67) (by omega) ?_
          show ov_R u d ov_m253 136 [(0, ov_r 90), (1, ov_i way), (2, ov_i run), (3, ov_i (h 103 0)), (4, ov_i (h 103 1))] [ov_i (h35 103 1), ov_i 1, ov_r 103] z34 (ov_up (ov_up h35 103 2 w63) 103 0 w66) (P_Mo_go_90 F z h way run)
          have g68 := s103_1 I36
          refine ov_blk (ls2 := [(0, ov_r 90), (1, ov_i way), (2, ov_i run), (3, ov_i (h 103 0)), (4, ov_i (h 103 1))]) (st2 := [ov_i ((h35 103 1) + way), ov_i 1, ov_r 103]) (pc2 := 138) b_253_136_2 rfl rfl ?_
          refine ov_havw (fun w69 gw69 qw69 => ?_)
          refine ov_iast d_253_138 (zb_103 I67) (zs_103 I67) (by omega) ?_
          have I70 := ua_103 (k := 1) (x := w69) I67 (by refine ⟨?_, ?_, ?_, ?_, ?_, ?_⟩ <;> omega)
          refine ov_blk (ls2 := [(0, ov_r 90), (1, ov_i way), (2, ov_i run), (3, ov_i (h 103 0)), (4, ov_i (h 103 1))]) (st2 := [ov_r 90]) (pc2 := 140) b_253_139_1 rfl rfl ?_
          refine ov_getf (v := ov_r 103) d_253_140 fl_Mo_102 (zb_90 I70) (zs_90 I70) (congrArg ov_r (rg_90_19 I70)) ?_
          refine ov_blk (ls2 := [(0, ov_r 90), (1, ov_i way), (2, ov_i run), (3, ov_i (h 103 0)), (4, ov_i (h 103 1))]) (st2 := [ov_i 3, ov_r 103, ov_i 3, ov_r 103]) (pc2 := 145) b_253_143_2 rfl rfl ?_
          refine ov_iald d_253_145 (zb_103 I70) (zs_103 I70) (by omega) ?_
          show ov_R u d ov_m253 146 [(0, ov_r 90), (1, ov_i way), (2, ov_i run), (3, ov_i (h 103 0)), (4, ov_i (h 103 1))] [ov_i (h35 103 3), ov_i 3, ov_r 103] z34 (ov_up (ov_up (ov_up h35 103 2 w63) 103 0 w66) 103 1 w69) (P_Mo_go_90 F z h way run)
          have g71 := g103 I36 3
          refine ov_blk (ls2 := [(0, ov_r 90), (1, ov_i way), (2, ov_i run), (3, ov_i (h 103 0)), (4, ov_i (h 103 1))]) (st2 := [ov_i run, ov_i (h35 103 3), ov_i 3, ov_r 103]) (pc2 := 147) b_253_146_1 rfl rfl ?_
          refine ov_ifeq (tgt := 154) d_253_147 (by decide) (by omega) (fun c72 => ?_) (fun c72 => ?_)
          · skip
            refine ov_blk (ls2 := [(0, ov_r 90), (1, ov_i way), (2, ov_i run), (3, ov_i (h 103 0)), (4, ov_i (h 103 1))]) (st2 := [ov_i ((h35 103 3) + 0), ov_i 3, ov_r 103]) (pc2 := 156) b_253_154_2 rfl rfl ?_
            refine ov_havw (fun w73 gw73 qw73 => ?_)
            refine ov_iast d_253_156 (zb_103 I70) (zs_103 I70) (by omega) ?_
            have I74 := ua_103 (k := 3) (x := w73) I70 (by refine ⟨?_, ?_, ?_, ?_, ?_, ?_⟩ <;> omega)
            refine ov_blk (ls2 := [(0, ov_r 90), (1, ov_i way), (2, ov_i run), (3, ov_i (h 103 0)), (4, ov_i (h 103 1))]) (st2 := [ov_r 90]) (pc2 := 158) b_253_157_1 rfl rfl ?_
            refine ov_getf (v := ov_r 103) d_253_158 fl_Mo_102 (zb_90 I74) (zs_90 I74) (congrArg ov_r (rg_90_19 I74)) ?_
            refine ov_blk (ls2 := [(0, ov_r 90), (1, ov_i way), (2, ov_i run), (3, ov_i (h 103 0)), (4, ov_i (h 103 1))]) (st2 := [ov_i 2, ov_r 103]) (pc2 := 162) b_253_161_1 rfl rfl ?_
            refine ov_iald d_253_162 (zb_103 I74) (zs_103 I74) (by omega) ?_
            show ov_R u d ov_m253 163 [(0, ov_r 90), (1, ov_i way), (2, ov_i run), (3, ov_i (h 103 0)), (4, ov_i (h 103 1))] [ov_i w63] z34 (ov_up (ov_up (ov_up (ov_up h35 103 2 w63) 103 0 w66) 103 1 w69) 103 3 w73) (P_Mo_go_90 F z h way run)
            exact ov_reti (st := []) d_253_163 rfl ⟨_, rfl, I74, (by show (h35 90 2) = (h 90 2) ∧ (h35 90 7) = (h 90 7) ∧ (h35 90 8) = (h 90 8) ∧ (h35 90 13) = (h 90 13) ∧ (h35 90 22) = (h 90 22) ∧ (h35 90 25) = (h 90 25) ∧ (h35 90 26) = (h 90 26) ∧ (h35 90 28) = (h 90 28) ∧ (h35 90 29) = (h 90 29) ∧ (h35 90 30) = (h 90 30) ∧ (h35 90 34) = (h 90 34) ∧ -2147483648 ≤ w63 ∧ w63 ≤ 2147483647; omega), E37, E38, E39, E40, E41, E42, E43, E44, E45, E46, E47, E48, E49, E50, (fun j h1 h2 => by show (ov_up (ov_up (ov_up (ov_up h35 103 2 w63) 103 0 w66) 103 1 w69) 103 3 w73) 103 j = h 103 j; rw [ov_up_j (by omega)]; rw [ov_up_j (by omega)]; rw [ov_up_j (by omega)]; rw [ov_up_j (by omega)]; exact y33_ j (by omega))⟩
          · omega
        · omega
      · skip
        refine ov_blk (ls2 := [(0, ov_r 90), (1, ov_i way), (2, ov_i run), (3, ov_i (h 103 0)), (4, ov_i (h 103 1))]) (st2 := [ov_r 90]) (pc2 := 45) b_253_44_1 rfl rfl ?_
        refine ov_getf (v := ov_r 96) d_253_45 fl_Mo_81 (zb_90 I1) (zs_90 I1) (congrArg ov_r (rg_90_10 I1)) ?_
        refine ov_blk (ls2 := [(0, ov_r 90), (1, ov_i way), (2, ov_i run), (3, ov_i (h 103 0)), (4, ov_i (h 103 1))]) (st2 := [ov_i 6, ov_r 96]) (pc2 := 50) b_253_48_1 rfl rfl ?_
        refine ov_iald d_253_50 (zb_96 I1) (zs_96 I1) (by omega) ?_
        show ov_R u d ov_m253 51 [(0, ov_r 90), (1, ov_i way), (2, ov_i run), (3, ov_i (h 103 0)), (4, ov_i (h 103 1))] [ov_i (h 96 6)] z (ov_up h 90 0 0) (P_Mo_go_90 F z h way run)
        have g75 := t96_6 I
        refine ov_blk (ls2 := [(0, ov_r 90), (1, ov_i way), (2, ov_i run), (3, ov_i (h 103 0)), (4, ov_i (h 103 1))]) (st2 := [ov_i 1, ov_i (h 96 6)]) (pc2 := 52) b_253_51_1 rfl rfl ?_
        refine ov_iceq (tgt := 70) d_253_52 (by decide) (by omega) (by omega) (fun c76 => ?_) (fun c76 => ?_)
        · skip
          refine ov_blk (ls2 := [(0, ov_r 90), (1, ov_i way), (2, ov_i run), (3, ov_i (h 103 0)), (4, ov_i (h 103 1))]) (st2 := [ov_i (-1)]) (pc2 := 71) b_253_70_1 rfl rfl ?_
          exact ov_reti (st := []) d_253_71 rfl ⟨_, rfl, I1, ⟨rfl, rfl, rfl, rfl, rfl, rfl, rfl, rfl, rfl, rfl, rfl, (by show -2147483648 ≤ (-1) ∧ (-1) ≤ 2147483647; omega)⟩, rfl, rfl, rfl, rfl, rfl, rfl, rfl, rfl, rfl, rfl, rfl, rfl, rfl, rfl, (fun j h1 h2 => rfl)⟩
        · skip
          refine ov_blk (ls2 := [(0, ov_r 90), (1, ov_i way), (2, ov_i run), (3, ov_i (h 103 0)), (4, ov_i (h 103 1))]) (st2 := [ov_r 90]) (pc2 := 56) b_253_55_1 rfl rfl ?_
          refine ov_getf (v := ov_r 103) d_253_56 fl_Mo_102 (zb_90 I1) (zs_90 I1) (congrArg ov_r (rg_90_19 I1)) ?_
          refine ov_blk (ls2 := [(0, ov_r 90), (1, ov_i way), (2, ov_i run), (3, ov_i (h 103 0)), (4, ov_i (h 103 1))]) (st2 := [ov_i 3, ov_r 103]) (pc2 := 60) b_253_59_1 rfl rfl ?_
          refine ov_iald d_253_60 (zb_103 I1) (zs_103 I1) (by omega) ?_
          show ov_R u d ov_m253 61 [(0, ov_r 90), (1, ov_i way), (2, ov_i run), (3, ov_i (h 103 0)), (4, ov_i (h 103 1))] [ov_i (h 103 3)] z (ov_up h 90 0 0) (P_Mo_go_90 F z h way run)
          have g77 := g103 I 3
          refine ov_blk (ls2 := [(0, ov_r 90), (1, ov_i way), (2, ov_i run), (3, ov_i (h 103 0)), (4, ov_i (h 103 1))]) (st2 := [ov_r 90, ov_i (h 103 3)]) (pc2 := 62) b_253_61_1 rfl rfl ?_
          refine ov_getf (v := ov_r 96) d_253_62 fl_Mo_81 (zb_90 I1) (zs_90 I1) (congrArg ov_r (rg_90_10 I1)) ?_
          refine ov_blk (ls2 := [(0, ov_r 90), (1, ov_i way), (2, ov_i run), (3, ov_i (h 103 0)), (4, ov_i (h 103 1))]) (st2 := [ov_i 5, ov_r 96, ov_i (h 103 3)]) (pc2 := 66) b_253_65_1 rfl rfl ?_
          refine ov_iald d_253_66 (zb_96 I1) (zs_96 I1) (by omega) ?_
          show ov_R u d ov_m253 67 [(0, ov_r 90), (1, ov_i way), (2, ov_i run), (3, ov_i (h 103 0)), (4, ov_i (h 103 1))] [ov_i (h 96 5), ov_i (h 103 3)] z (ov_up h 90 0 0) (P_Mo_go_90 F z h way run)
          have g78 := t96_5 I
          refine ov_icne (tgt := 72) d_253_67 (by decide) (by omega) (by omega) (fun c79 => ?_) (fun c79 => ?_)
          · skip
            refine ov_blk (ls2 := [(0, ov_r 90), (1, ov_i way), (2, ov_i run), (3, ov_i (h 103 0)), (4, ov_i (h 103 1))]) (st2 := [ov_r 90]) (pc2 := 73) b_253_72_1 rfl rfl ?_
            refine ov_cV (as := []) (st := []) (d2 := d - 1) d_253_73 lk_Mo_329 rfl (Nat.le_of_ble_eq_true rfl) (c := 1) (zb_90 I1) (zs_90 I1) ⟨by decide, rfl⟩ (by omega) (c_Mo_keeps_90 (d - 1) (by omega) U I1) ?_
            rintro _ z96 h97 ⟨rfl, I98, f80, e81, e82, e83, e84, e85, e86, e87, e88, e89, e90, e91, e92, e93, e94, y95⟩
            have E99 : h97 91 = h 91 := e81
            have E100 : h97 92 = h 92 := e82
            have E101 : h97 93 = h 93 := e83
            have E102 : h97 94 = h 94 := e84
            have E103 : h97 95 = h 95 := e85
            have E104 : h97 96 = h 96 := e86
            have E105 : h97 97 = h 97 := e87
            have E106 : h97 98 = h 98 := e88
            have E107 : h97 99 = h 99 := e89
            have E108 : h97 100 = h 100 := e90
            have E109 : h97 105 = h 105 := e91
            have E110 : h97 106 = h 106 := e92
            have E111 : h97 109 = h 109 := e93
            have E112 : h97 114 = h 114 := e94
            show ov_R u d ov_m253 76 [(0, ov_r 90), (1, ov_i way), (2, ov_i run), (3, ov_i (h 103 0)), (4, ov_i (h 103 1))] [] z96 h97 (P_Mo_go_90 F z h way run)
            have f113 : (h97 90 2) = (h 90 2) ∧ (h97 90 7) = (h 90 7) ∧ (h97 90 8) = (h 90 8) ∧ (h97 90 13) = (h 90 13) ∧ (h97 90 22) = (h 90 22) ∧ (h97 90 25) = (h 90 25) ∧ (h97 90 26) = (h 90 26) ∧ (h97 90 28) = (h 90 28) ∧ (h97 90 29) = (h 90 29) ∧ (h97 90 30) = (h 90 30) ∧ (h97 90 34) = (h 90 34) := f80
            clear f80
            have y95_ : ∀ j : Int, j < 600 → (h97 103) j = (h 103) j := y95
            have xg0 := y95_ 0 (by decide)
            have xg1 := y95_ 1 (by decide)
            have xg2 := y95_ 2 (by decide)
            have xg3 := y95_ 3 (by decide)
            refine ov_blk (ls2 := [(0, ov_r 90), (1, ov_i way), (2, ov_i run), (3, ov_i (h 103 0)), (4, ov_i (h 103 1))]) (st2 := [ov_r 90]) (pc2 := 77) b_253_76_1 rfl rfl ?_
            refine ov_getf (v := ov_r 103) d_253_77 fl_Mo_102 (zb_90 I98) (zs_90 I98) (congrArg ov_r (rg_90_19 I98)) ?_
            refine ov_blk (ls2 := [(0, ov_r 90), (1, ov_i way), (2, ov_i run), (3, ov_i (h 103 0)), (4, ov_i (h 103 1))]) (st2 := [ov_i 2, ov_r 103, ov_i 2, ov_r 103]) (pc2 := 82) b_253_80_2 rfl rfl ?_
            refine ov_iald d_253_82 (zb_103 I98) (zs_103 I98) (by omega) ?_
            have g114 := s103_2 I98
            refine ov_blk (ls2 := [(0, ov_r 90), (1, ov_i way), (2, ov_i run), (3, ov_i (h 103 0)), (4, ov_i (h 103 1))]) (st2 := [ov_r 90, ov_i way, ov_i (h 103 1), ov_i (h 103 0), ov_r 90, ov_i (h97 103 2), ov_i 2, ov_r 103]) (pc2 := 89) b_253_83_5 rfl rfl ?_
            refine ov_getf (v := ov_r 103) d_253_89 fl_Mo_102 (zb_90 I98) (zs_90 I98) (congrArg ov_r (rg_90_19 I98)) ?_
            refine ov_blk (ls2 := [(0, ov_r 90), (1, ov_i way), (2, ov_i run), (3, ov_i (h 103 0)), (4, ov_i (h 103 1))]) (st2 := [ov_i 2, ov_r 103, ov_i way, ov_i (h 103 1), ov_i (h 103 0), ov_r 90, ov_i (h97 103 2), ov_i 2, ov_r 103]) (pc2 := 93) b_253_92_1 rfl rfl ?_
            refine ov_iald d_253_93 (zb_103 I98) (zs_103 I98) (by omega) ?_
            have cf116 : h97 96 (10 + 4 * (6 * (h 103 1) + (h 103 0))) = h 96 (10 + 4 * (6 * (h 103 1) + (h 103 0))) := congrFun E104 (10 + 4 * (6 * (h 103 1) + (h 103 0)))
            have cf117 : h97 96 (10 + 4 * (6 * (h 103 1) + (h 103 0)) + 3) = h 96 (10 + 4 * (6 * (h 103 1) + (h 103 0)) + 3) := congrFun E104 (10 + 4 * (6 * (h 103 1) + (h 103 0)) + 3)
            have cf118 : h97 96 (10 + 4 * (6 * (h 103 1) + (h 103 0)) + 1) = h 96 (10 + 4 * (6 * (h 103 1) + (h 103 0)) + 1) := congrFun E104 (10 + 4 * (6 * (h 103 1) + (h 103 0)) + 1)
            refine ov_cV (as := [ov_i (h 103 0), ov_i (h 103 1), ov_i way, ov_i (h97 103 2)]) (st := [ov_i (h97 103 2), ov_i 2, ov_r 103]) (d2 := d - 1) d_253_94 lk_Mo_315 rfl (Nat.le_of_ble_eq_true rfl) (c := 1) (zb_90 I98) (zs_90 I98) ⟨by decide, rfl⟩ (by omega) (c_Mo_waitFor_90 (d - 1) (by omega) U I98 (h 103 0) (h 103 1) way (h97 103 2) (by omega) (by omega) (by omega) (by omega) (by omega) (by omega) (by omega) (by show (((h97 96 (10 + 4 * (6 * (h 103 1) + (h 103 0)))) = 1 ∨ (h97 96 (10 + 4 * (6 * (h 103 1) + (h 103 0)))) = 2) → (way = 0 → 0 < (h97 96 (10 + 4 * (6 * (h 103 1) + (h 103 0)) + 3))) ∧ (¬ way = 0 → (h97 96 (10 + 4 * (6 * (h 103 1) + (h 103 0)) + 3)) < (h97 96 (10 + 4 * (6 * (h 103 1) + (h 103 0)) + 1)))); omega) (by rw [show h97 96 = h 96 from E104]; exact W)) ?_
            rintro _ _ _ ⟨v120, rfl, rfl, rfl, f119⟩
            show ov_R u d ov_m253 97 [(0, ov_r 90), (1, ov_i way), (2, ov_i run), (3, ov_i (h 103 0)), (4, ov_i (h 103 1))] [ov_i v120, ov_i (h97 103 2), ov_i 2, ov_r 103] z96 h97 (P_Mo_go_90 F z h way run)
            rw [show h97 96 = h 96 from E104] at f119
            have f121 : 0 ≤ v120 ∧ v120 ≤ 59 ∧ v120 = ov_wm (h 96) (6 * (h 103 1) + (h 103 0)) way (h97 103 2) := f119
            clear f119
            refine ov_blk (ls2 := [(0, ov_r 90), (1, ov_i way), (2, ov_i run), (3, ov_i (h 103 0)), (4, ov_i (h 103 1))]) (st2 := [ov_i run, ov_i v120, ov_i (h97 103 2), ov_i 2, ov_r 103]) (pc2 := 98) b_253_97_1 rfl rfl ?_
            refine ov_ifeq (tgt := 108) d_253_98 (by decide) (by omega) (fun c122 => ?_) (fun c122 => ?_)
            · omega
            · skip
              refine ov_blk (ls2 := [(0, ov_r 90), (1, ov_i way), (2, ov_i run), (3, ov_i (h 103 0)), (4, ov_i (h 103 1))]) (st2 := [ov_r 90, ov_i v120, ov_i (h97 103 2), ov_i 2, ov_r 103]) (pc2 := 102) b_253_101_1 rfl rfl ?_
              refine ov_cV (as := []) (st := [ov_i v120, ov_i (h97 103 2), ov_i 2, ov_r 103]) (d2 := d - 1) d_253_102 lk_Mo_332 rfl (Nat.le_of_ble_eq_true rfl) (c := 1) (zb_90 I98) (zs_90 I98) ⟨by decide, rfl⟩ (by omega) (c_Mo_runTime_90 (d - 1) (by omega) U I98) ?_
              rintro _ _ _ ⟨v124, rfl, rfl, rfl, f123⟩
              show ov_R u d ov_m253 105 [(0, ov_r 90), (1, ov_i way), (2, ov_i run), (3, ov_i (h 103 0)), (4, ov_i (h 103 1))] [ov_i v124, ov_i v120, ov_i (h97 103 2), ov_i 2, ov_r 103] z96 h97 (P_Mo_go_90 F z h way run)
              have f125 : 0 ≤ v124 ∧ v124 ≤ 30 := f123
              clear f123
              refine ov_goto (tgt := 114) d_253_105 (by decide) ?_
              refine ov_blk (ls2 := [(0, ov_r 90), (1, ov_i way), (2, ov_i run), (3, ov_i (h 103 0)), (4, ov_i (h 103 1))]) (st2 := [ov_i (v120 + v124), ov_i (h97 103 2), ov_i 2, ov_r 103]) (pc2 := 115) b_253_114_1 rfl rfl ?_
              refine ov_havw (fun w126 gw126 qw126 => ?_)
              refine ov_blk (ls2 := [(0, ov_r 90), (1, ov_i way), (2, ov_i run), (3, ov_i (h 103 0)), (4, ov_i (h 103 1))]) (st2 := [ov_i ((h97 103 2) + w126), ov_i 2, ov_r 103]) (pc2 := 116) b_253_115_1 rfl rfl ?_
              refine ov_havw (fun w127 gw127 qw127 => ?_)
              refine ov_iast d_253_116 (zb_103 I98) (zs_103 I98) (by omega) ?_
              have I128 := ua_103 (k := 2) (x := w127) I98 (by refine ⟨?_, ?_, ?_, ?_, ?_, ?_⟩ <;> omega)
              refine ov_blk (ls2 := [(0, ov_r 90), (1, ov_i way), (2, ov_i run), (3, ov_i (h 103 0)), (4, ov_i (h 103 1))]) (st2 := [ov_r 90]) (pc2 := 118) b_253_117_1 rfl rfl ?_
              refine ov_getf (v := ov_r 103) d_253_118 fl_Mo_102 (zb_90 I128) (zs_90 I128) (congrArg ov_r (rg_90_19 I128)) ?_
              refine ov_blk (ls2 := [(0, ov_r 90), (1, ov_i way), (2, ov_i run), (3, ov_i (h 103 0)), (4, ov_i (h 103 1))]) (st2 := [ov_i 0, ov_r 103, ov_i 0, ov_r 103]) (pc2 := 123) b_253_121_2 rfl rfl ?_
              refine ov_iald d_253_123 (zb_103 I128) (zs_103 I128) (by omega) ?_
              show ov_R u d ov_m253 124 [(0, ov_r 90), (1, ov_i way), (2, ov_i run), (3, ov_i (h 103 0)), (4, ov_i (h 103 1))] [ov_i (h97 103 0), ov_i 0, ov_r 103] z96 (ov_up h97 103 2 w127) (P_Mo_go_90 F z h way run)
              have g129 := s103_0 I98
              refine ov_blk (ls2 := [(0, ov_r 90), (1, ov_i way), (2, ov_i run), (3, ov_i (h 103 0)), (4, ov_i (h 103 1))]) (st2 := [ov_i ((h97 103 0) + (1 - way)), ov_i 0, ov_r 103]) (pc2 := 128) b_253_124_4 rfl rfl ?_
              refine ov_havw (fun w130 gw130 qw130 => ?_)
              refine ov_iast d_253_128 (zb_103 I128) (zs_103 I128) (by omega) ?_
              have I131 := ua_103 (k := 0) (x := w130) I128 (by refine ⟨?_, ?_, ?_, ?_, ?_, ?_⟩ <;> omega)
              refine ov_blk (ls2 := [(0, ov_r 90), (1, ov_i way), (2, ov_i run), (3, ov_i (h 103 0)), (4, ov_i (h 103 1))]) (st2 := [ov_r 90]) (pc2 := 130) b_253_129_1 rfl rfl ?_
              refine ov_getf (v := ov_r 103) d_253_130 fl_Mo_102 (zb_90 I131) (zs_90 I131) (congrArg ov_r (rg_90_19 I131)) ?_
              refine ov_blk (ls2 := [(0, ov_r 90), (1, ov_i way), (2, ov_i run), (3, ov_i (h 103 0)), (4, ov_i (h 103 1))]) (st2 := [ov_i 1, ov_r 103, ov_i 1, ov_r 103]) (pc2 := 135) b_253_133_2 rfl rfl ?_
              refine ov_iald d_253_135 (zb_103 I131) (zs_103 I131) (by omega) ?_
              show ov_R u d ov_m253 136 [(0, ov_r 90), (1, ov_i way), (2, ov_i run), (3, ov_i (h 103 0)), (4, ov_i (h 103 1))] [ov_i (h97 103 1), ov_i 1, ov_r 103] z96 (ov_up (ov_up h97 103 2 w127) 103 0 w130) (P_Mo_go_90 F z h way run)
              have g132 := s103_1 I98
              refine ov_blk (ls2 := [(0, ov_r 90), (1, ov_i way), (2, ov_i run), (3, ov_i (h 103 0)), (4, ov_i (h 103 1))]) (st2 := [ov_i ((h97 103 1) + way), ov_i 1, ov_r 103]) (pc2 := 138) b_253_136_2 rfl rfl ?_
              refine ov_havw (fun w133 gw133 qw133 => ?_)
              refine ov_iast d_253_138 (zb_103 I131) (zs_103 I131) (by omega) ?_
              have I134 := ua_103 (k := 1) (x := w133) I131 (by refine ⟨?_, ?_, ?_, ?_, ?_, ?_⟩ <;> omega)
              refine ov_blk (ls2 := [(0, ov_r 90), (1, ov_i way), (2, ov_i run), (3, ov_i (h 103 0)), (4, ov_i (h 103 1))]) (st2 := [ov_r 90]) (pc2 := 140) b_253_139_1 rfl rfl ?_
              refine ov_getf (v := ov_r 103) d_253_140 fl_Mo_102 (zb_90 I134) (zs_90 I134) (congrArg ov_r (rg_90_19 I134)) ?_
              refine ov_blk (ls2 := [(0, ov_r 90), (1, ov_i way), (2, ov_i run), (3, ov_i (h 103 0)), (4, ov_i (h 103 1))]) (st2 := [ov_i 3, ov_r 103, ov_i 3, ov_r 103]) (pc2 := 145) b_253_143_2 rfl rfl ?_
              refine ov_iald d_253_145 (zb_103 I134) (zs_103 I134) (by omega) ?_
              show ov_R u d ov_m253 146 [(0, ov_r 90), (1, ov_i way), (2, ov_i run), (3, ov_i (h 103 0)), (4, ov_i (h 103 1))] [ov_i (h97 103 3), ov_i 3, ov_r 103] z96 (ov_up (ov_up (ov_up h97 103 2 w127) 103 0 w130) 103 1 w133) (P_Mo_go_90 F z h way run)
              have g135 := g103 I98 3
              refine ov_blk (ls2 := [(0, ov_r 90), (1, ov_i way), (2, ov_i run), (3, ov_i (h 103 0)), (4, ov_i (h 103 1))]) (st2 := [ov_i run, ov_i (h97 103 3), ov_i 3, ov_r 103]) (pc2 := 147) b_253_146_1 rfl rfl ?_
              refine ov_ifeq (tgt := 154) d_253_147 (by decide) (by omega) (fun c136 => ?_) (fun c136 => ?_)
              · omega
              · skip
                refine ov_blk (ls2 := [(0, ov_r 90), (1, ov_i way), (2, ov_i run), (3, ov_i (h 103 0)), (4, ov_i (h 103 1))]) (st2 := [ov_i 1, ov_i (h97 103 3), ov_i 3, ov_r 103]) (pc2 := 151) b_253_150_1 rfl rfl ?_
                refine ov_goto (tgt := 155) d_253_151 (by decide) ?_
                refine ov_blk (ls2 := [(0, ov_r 90), (1, ov_i way), (2, ov_i run), (3, ov_i (h 103 0)), (4, ov_i (h 103 1))]) (st2 := [ov_i ((h97 103 3) + 1), ov_i 3, ov_r 103]) (pc2 := 156) b_253_155_1 rfl rfl ?_
                refine ov_havw (fun w137 gw137 qw137 => ?_)
                refine ov_iast d_253_156 (zb_103 I134) (zs_103 I134) (by omega) ?_
                have I138 := ua_103 (k := 3) (x := w137) I134 (by refine ⟨?_, ?_, ?_, ?_, ?_, ?_⟩ <;> omega)
                refine ov_blk (ls2 := [(0, ov_r 90), (1, ov_i way), (2, ov_i run), (3, ov_i (h 103 0)), (4, ov_i (h 103 1))]) (st2 := [ov_r 90]) (pc2 := 158) b_253_157_1 rfl rfl ?_
                refine ov_getf (v := ov_r 103) d_253_158 fl_Mo_102 (zb_90 I138) (zs_90 I138) (congrArg ov_r (rg_90_19 I138)) ?_
                refine ov_blk (ls2 := [(0, ov_r 90), (1, ov_i way), (2, ov_i run), (3, ov_i (h 103 0)), (4, ov_i (h 103 1))]) (st2 := [ov_i 2, ov_r 103]) (pc2 := 162) b_253_161_1 rfl rfl ?_
                refine ov_iald d_253_162 (zb_103 I138) (zs_103 I138) (by omega) ?_
                show ov_R u d ov_m253 163 [(0, ov_r 90), (1, ov_i way), (2, ov_i run), (3, ov_i (h 103 0)), (4, ov_i (h 103 1))] [ov_i w127] z96 (ov_up (ov_up (ov_up (ov_up h97 103 2 w127) 103 0 w130) 103 1 w133) 103 3 w137) (P_Mo_go_90 F z h way run)
                exact ov_reti (st := []) d_253_163 rfl ⟨_, rfl, I138, (by show (h97 90 2) = (h 90 2) ∧ (h97 90 7) = (h 90 7) ∧ (h97 90 8) = (h 90 8) ∧ (h97 90 13) = (h 90 13) ∧ (h97 90 22) = (h 90 22) ∧ (h97 90 25) = (h 90 25) ∧ (h97 90 26) = (h 90 26) ∧ (h97 90 28) = (h 90 28) ∧ (h97 90 29) = (h 90 29) ∧ (h97 90 30) = (h 90 30) ∧ (h97 90 34) = (h 90 34) ∧ -2147483648 ≤ w127 ∧ w127 ≤ 2147483647; omega), E99, E100, E101, E102, E103, E104, E105, E106, E107, E108, E109, E110, E111, E112, (fun j h1 h2 => by show (ov_up (ov_up (ov_up (ov_up h97 103 2 w127) 103 0 w130) 103 1 w133) 103 3 w137) 103 j = h 103 j; rw [ov_up_j (by omega)]; rw [ov_up_j (by omega)]; rw [ov_up_j (by omega)]; rw [ov_up_j (by omega)]; exact y95_ j (by omega))⟩
          · skip
            refine ov_blk (ls2 := [(0, ov_r 90), (1, ov_i way), (2, ov_i run), (3, ov_i (h 103 0)), (4, ov_i (h 103 1))]) (st2 := [ov_i (-1)]) (pc2 := 71) b_253_70_1 rfl rfl ?_
            exact ov_reti (st := []) d_253_71 rfl ⟨_, rfl, I1, ⟨rfl, rfl, rfl, rfl, rfl, rfl, rfl, rfl, rfl, rfl, rfl, (by show -2147483648 ≤ (-1) ∧ (-1) ≤ 2147483647; omega)⟩, rfl, rfl, rfl, rfl, rfl, rfl, rfl, rfl, rfl, rfl, rfl, rfl, rfl, rfl, (fun j h1 h2 => rfl)⟩
abbrev P_Mo_stay_90 (F : ov_H × ov_Z) (z : ov_Z) (h : ov_H) (m : Int) : Option ov_V → ov_Z → ov_H → Prop := fun r0 z' h' => ∃ r : Int, r0 = some (ov_i r) ∧ ov_N F z' h' ∧ ((h' 90 2) = (h 90 2) ∧ (h' 90 7) = (h 90 7) ∧ (h' 90 8) = (h 90 8) ∧ (h' 90 13) = (h 90 13) ∧ (h' 90 22) = (h 90 22) ∧ (h' 90 25) = (h 90 25) ∧ (h' 90 26) = (h 90 26) ∧ (h' 90 28) = (h 90 28) ∧ (h' 90 29) = (h 90 29) ∧ (h' 90 30) = (h 90 30) ∧ (h' 90 34) = (h 90 34) ∧ -2147483648 ≤ r ∧ r ≤ 2147483647) ∧ h' 91 = h 91 ∧ h' 92 = h 92 ∧ h' 93 = h 93 ∧ h' 94 = h 94 ∧ h' 95 = h 95 ∧ h' 96 = h 96 ∧ h' 97 = h 97 ∧ h' 98 = h 98 ∧ h' 99 = h 99 ∧ h' 100 = h 100 ∧ h' 105 = h 105 ∧ h' 106 = h 106 ∧ h' 109 = h 109 ∧ h' 114 = h 114 ∧ (∀ j : Int, 4 ≤ j → j ≤ 57 → (h' 103) j = (h 103) j)
set_option maxHeartbeats 4000000 in
theorem c_Mo_stay_90 {u : ov_U} {F : ov_H × ov_Z} {z : ov_Z} {h : ov_H} (d : Nat) (hd : 2 ≤ d) (U : ov_cap u) (I : ov_N F z h) (m : Int) (g_m : ov_g m) (p0 : (h 103 2) ≤ ov_bd F - 1000) (p1 : 0 ≤ ov_bd F ∧ ov_bd F ≤ 800000000) : ov_T u d ov_m257 [ov_r 90, ov_i m] z h (P_Mo_stay_90 F z h m) := by
  refine ov_en rfl (Nat.le_of_ble_eq_true rfl) ?_
  show ov_R u d ov_m257 0 [(0, ov_r 90), (1, ov_i m)] [] z h (P_Mo_stay_90 F z h m)
  refine ov_blk (ls2 := [(0, ov_r 90), (1, ov_i m)]) (st2 := [ov_i 0, ov_r 90]) (pc2 := 2) b_257_0_2 rfl rfl ?_
  refine ov_putf (x := 0) d_257_2 fl_Mo_1 (zb_90 I) (zs_90 I) rfl nk_0 rfl ?_
  have I1 := up_90_0 (x := 0) I (by omega)
  refine ov_blk (ls2 := [(0, ov_r 90), (1, ov_i m)]) (st2 := [ov_i 1000, ov_i 1, ov_i m]) (pc2 := 10) b_257_5_3 rfl rfl ?_
  refine ov_cS (as := [ov_i m, ov_i 1, ov_i 1000]) (st := []) (d2 := d - 1) d_257_10 lk_Mo_299 rfl (Nat.le_of_ble_eq_true rfl) (by omega) (c_Mo_within (d - 1) (by omega) U I1 m 1 1000 (by omega) (by omega) (by omega)) ?_
  rintro _ _ _ ⟨v3, rfl, rfl, rfl, f2⟩
  show ov_R u d ov_m257 13 [(0, ov_r 90), (1, ov_i m)] [ov_i v3] z (ov_up h 90 0 0) (P_Mo_stay_90 F z h m)
  have f4 : (v3 = 0 ∨ v3 = 1) ∧ (v3 = 1 → (1 : Int) ≤ m ∧ m ≤ (1000 : Int)) ∧ (v3 = 0 → m < (1 : Int) ∨ (1000 : Int) < m) := f2
  clear f2
  refine ov_ifne (tgt := 18) d_257_13 (by decide) (by omega) (fun c5 => ?_) (fun c5 => ?_)
  · skip
    have f4_ : v3 = 1 := by omega
    have f6 : (1 : Int) ≤ m ∧ m ≤ (1000 : Int) := f4.2.1 (by omega)
    clear f4
    refine ov_blk (ls2 := [(0, ov_r 90), (1, ov_i m)]) (st2 := [ov_r 90]) (pc2 := 19) b_257_18_1 rfl rfl ?_
    refine ov_cV (as := []) (st := []) (d2 := d - 1) d_257_19 lk_Mo_329 rfl (Nat.le_of_ble_eq_true rfl) (c := 1) (zb_90 I1) (zs_90 I1) ⟨by decide, rfl⟩ (by omega) (c_Mo_keeps_90 (d - 1) (by omega) U I1) ?_
    rintro _ z23 h24 ⟨rfl, I25, f7, e8, e9, e10, e11, e12, e13, e14, e15, e16, e17, e18, e19, e20, e21, y22⟩
    have E26 : h24 91 = h 91 := e8
    have E27 : h24 92 = h 92 := e9
    have E28 : h24 93 = h 93 := e10
    have E29 : h24 94 = h 94 := e11
    have E30 : h24 95 = h 95 := e12
    have E31 : h24 96 = h 96 := e13
    have E32 : h24 97 = h 97 := e14
    have E33 : h24 98 = h 98 := e15
    have E34 : h24 99 = h 99 := e16
    have E35 : h24 100 = h 100 := e17
    have E36 : h24 105 = h 105 := e18
    have E37 : h24 106 = h 106 := e19
    have E38 : h24 109 = h 109 := e20
    have E39 : h24 114 = h 114 := e21
    show ov_R u d ov_m257 22 [(0, ov_r 90), (1, ov_i m)] [] z23 h24 (P_Mo_stay_90 F z h m)
    have f40 : (h24 90 2) = (h 90 2) ∧ (h24 90 7) = (h 90 7) ∧ (h24 90 8) = (h 90 8) ∧ (h24 90 13) = (h 90 13) ∧ (h24 90 22) = (h 90 22) ∧ (h24 90 25) = (h 90 25) ∧ (h24 90 26) = (h 90 26) ∧ (h24 90 28) = (h 90 28) ∧ (h24 90 29) = (h 90 29) ∧ (h24 90 30) = (h 90 30) ∧ (h24 90 34) = (h 90 34) := f7
    clear f7
    have y22_ : ∀ j : Int, j < 600 → (h24 103) j = (h 103) j := y22
    have xg0 := y22_ 0 (by decide)
    have xg1 := y22_ 1 (by decide)
    have xg2 := y22_ 2 (by decide)
    have xg3 := y22_ 3 (by decide)
    refine ov_blk (ls2 := [(0, ov_r 90), (1, ov_i m)]) (st2 := [ov_r 90]) (pc2 := 23) b_257_22_1 rfl rfl ?_
    refine ov_getf (v := ov_r 103) d_257_23 fl_Mo_102 (zb_90 I25) (zs_90 I25) (congrArg ov_r (rg_90_19 I25)) ?_
    refine ov_blk (ls2 := [(0, ov_r 90), (1, ov_i m)]) (st2 := [ov_i 2, ov_r 103, ov_i 2, ov_r 103]) (pc2 := 28) b_257_26_2 rfl rfl ?_
    refine ov_iald d_257_28 (zb_103 I25) (zs_103 I25) (by omega) ?_
    have g41 := s103_2 I25
    refine ov_blk (ls2 := [(0, ov_r 90), (1, ov_i m)]) (st2 := [ov_i ((h24 103 2) + m), ov_i 2, ov_r 103]) (pc2 := 31) b_257_29_2 rfl rfl ?_
    refine ov_iast d_257_31 (zb_103 I25) (zs_103 I25) (by omega) ?_
    have I42 := ua_103 (k := 2) (x := ((h24 103 2) + m)) I25 (by refine ⟨?_, ?_, ?_, ?_, ?_, ?_⟩ <;> omega)
    refine ov_blk (ls2 := [(0, ov_r 90), (1, ov_i m)]) (st2 := [ov_r 90]) (pc2 := 33) b_257_32_1 rfl rfl ?_
    refine ov_getf (v := ov_r 103) d_257_33 fl_Mo_102 (zb_90 I42) (zs_90 I42) (congrArg ov_r (rg_90_19 I42)) ?_
    refine ov_blk (ls2 := [(0, ov_r 90), (1, ov_i m)]) (st2 := [ov_i 2, ov_r 103]) (pc2 := 37) b_257_36_1 rfl rfl ?_
    refine ov_iald d_257_37 (zb_103 I42) (zs_103 I42) (by omega) ?_
    show ov_R u d ov_m257 38 [(0, ov_r 90), (1, ov_i m)] [ov_i ((h24 103 2) + m)] z23 (ov_up h24 103 2 ((h24 103 2) + m)) (P_Mo_stay_90 F z h m)
    exact ov_reti (st := []) d_257_38 rfl ⟨_, rfl, I42, (by show (h24 90 2) = (h 90 2) ∧ (h24 90 7) = (h 90 7) ∧ (h24 90 8) = (h 90 8) ∧ (h24 90 13) = (h 90 13) ∧ (h24 90 22) = (h 90 22) ∧ (h24 90 25) = (h 90 25) ∧ (h24 90 26) = (h 90 26) ∧ (h24 90 28) = (h 90 28) ∧ (h24 90 29) = (h 90 29) ∧ (h24 90 30) = (h 90 30) ∧ (h24 90 34) = (h 90 34) ∧ -2147483648 ≤ ((h24 103 2) + m) ∧ ((h24 103 2) + m) ≤ 2147483647; omega), E26, E27, E28, E29, E30, E31, E32, E33, E34, E35, E36, E37, E38, E39, (fun j h1 h2 => by show (ov_up h24 103 2 ((h24 103 2) + m)) 103 j = h 103 j; rw [ov_up_j (by omega)]; exact y22_ j (by omega))⟩
  · skip
    have f4_ : v3 = 0 := by omega
    have f43 : m < (1 : Int) ∨ (1000 : Int) < m := f4.2.2 (by omega)
    clear f4
    refine ov_blk (ls2 := [(0, ov_r 90), (1, ov_i m)]) (st2 := [ov_i (-1)]) (pc2 := 17) b_257_16_1 rfl rfl ?_
    exact ov_reti (st := []) d_257_17 rfl ⟨_, rfl, I1, ⟨rfl, rfl, rfl, rfl, rfl, rfl, rfl, rfl, rfl, rfl, rfl, (by show -2147483648 ≤ (-1) ∧ (-1) ≤ 2147483647; omega)⟩, rfl, rfl, rfl, rfl, rfl, rfl, rfl, rfl, rfl, rfl, rfl, rfl, rfl, rfl, (fun j h1 h2 => rfl)⟩
abbrev P_Mo_look_90 (F : ov_H × ov_Z) (z : ov_Z) (h : ov_H) : Option ov_V → ov_Z → ov_H → Prop := fun r0 z' h' => ∃ r : Int, r0 = some (ov_i r) ∧ ov_N F z' h' ∧ ((h' 90 2) = (h 90 2) ∧ (h' 90 7) = (h 90 7) ∧ (h' 90 8) = (h 90 8) ∧ (h' 90 13) = (h 90 13) ∧ (h' 90 25) = (h 90 25) ∧ (h' 90 26) = (h 90 26) ∧ (h' 90 28) = (h 90 28) ∧ (h' 90 29) = (h 90 29) ∧ (h' 90 30) = (h 90 30) ∧ (h' 90 34) = (h 90 34) ∧ (r = 0 ∨ r = 1) ∧ (h 90 22) ≤ (h' 90 22) ∧ (h' 90 22) ≤ (h 90 22) + 1) ∧ h' 91 = h 91 ∧ h' 92 = h 92 ∧ h' 93 = h 93 ∧ h' 94 = h 94 ∧ h' 95 = h 95 ∧ h' 96 = h 96 ∧ h' 97 = h 97 ∧ h' 98 = h 98 ∧ h' 99 = h 99 ∧ h' 100 = h 100 ∧ h' 105 = h 105 ∧ h' 106 = h 106 ∧ h' 109 = h 109 ∧ h' 114 = h 114 ∧ (((h' 90 22) = (h 90 22) ∧ (h' 103) = (h 103)) ∨ (h' 90 22) = (h 90 22) + 1)
set_option maxHeartbeats 4000000 in
theorem c_Mo_look_90 {u : ov_U} {F : ov_H × ov_Z} {z : ov_Z} {h : ov_H} (d : Nat) (hd : 2 ≤ d) (U : ov_cap u) (I : ov_N F z h) (p0 : 0 ≤ (h 90 22) ∧ (h 90 22) ≤ 2000000000) : ov_T u d ov_m258 [ov_r 90] z h (P_Mo_look_90 F z h) := by
  refine ov_en rfl (Nat.le_of_ble_eq_true rfl) ?_
  show ov_R u d ov_m258 0 [(0, ov_r 90)] [] z h (P_Mo_look_90 F z h)
  refine ov_blk (ls2 := [(0, ov_r 90)]) (st2 := [ov_i 0, ov_r 90]) (pc2 := 2) b_258_0_2 rfl rfl ?_
  refine ov_putf (x := 0) d_258_2 fl_Mo_1 (zb_90 I) (zs_90 I) rfl nk_0 rfl ?_
  have I1 := up_90_0 (x := 0) I (by omega)
  refine ov_blk (ls2 := [(0, ov_r 90)]) (st2 := [ov_r 90]) (pc2 := 6) b_258_5_1 rfl rfl ?_
  refine ov_getf (v := ov_r 103) d_258_6 fl_Mo_102 (zb_90 I1) (zs_90 I1) (congrArg ov_r (rg_90_19 I1)) ?_
  refine ov_blk (ls2 := [(0, ov_r 90)]) (st2 := [ov_i 0, ov_r 103]) (pc2 := 10) b_258_9_1 rfl rfl ?_
  refine ov_iald d_258_10 (zb_103 I1) (zs_103 I1) (by omega) ?_
  show ov_R u d ov_m258 11 [(0, ov_r 90)] [ov_i (h 103 0)] z (ov_up h 90 0 0) (P_Mo_look_90 F z h)
  have g2 := s103_0 I
  refine ov_blk (ls2 := [(0, ov_r 90), (1, ov_i (h 103 0))]) (st2 := [ov_r 90]) (pc2 := 13) b_258_11_2 rfl rfl ?_
  refine ov_getf (v := ov_r 103) d_258_13 fl_Mo_102 (zb_90 I1) (zs_90 I1) (congrArg ov_r (rg_90_19 I1)) ?_
  refine ov_blk (ls2 := [(0, ov_r 90), (1, ov_i (h 103 0))]) (st2 := [ov_i 1, ov_r 103]) (pc2 := 17) b_258_16_1 rfl rfl ?_
  refine ov_iald d_258_17 (zb_103 I1) (zs_103 I1) (by omega) ?_
  show ov_R u d ov_m258 18 [(0, ov_r 90), (1, ov_i (h 103 0))] [ov_i (h 103 1)] z (ov_up h 90 0 0) (P_Mo_look_90 F z h)
  have g3 := s103_1 I
  refine ov_blk (ls2 := [(0, ov_r 90), (1, ov_i (h 103 0)), (2, ov_i (h 103 1))]) (st2 := [ov_i (h 103 1), ov_i (h 103 0), ov_r 90]) (pc2 := 22) b_258_18_4 rfl rfl ?_
  refine ov_cV (as := [ov_i (h 103 0), ov_i (h 103 1)]) (st := []) (d2 := d - 1) d_258_22 lk_Mo_282 rfl (Nat.le_of_ble_eq_true rfl) (c := 1) (zb_90 I1) (zs_90 I1) ⟨by decide, rfl⟩ (by omega) (c_Mo_kindAt_90 (d - 1) (by omega) U I1 (h 103 0) (h 103 1) (by omega) (by omega) (by omega)) ?_
  rintro _ _ _ ⟨v5, rfl, rfl, rfl, f4⟩
  show ov_R u d ov_m258 25 [(0, ov_r 90), (1, ov_i (h 103 0)), (2, ov_i (h 103 1))] [ov_i v5] z (ov_up h 90 0 0) (P_Mo_look_90 F z h)
  have f6 : v5 = (h 96 (10 + 4 * (6 * (h 103 1) + (h 103 0)))) - 1 ∧ -1 ≤ v5 ∧ v5 ≤ 3 := f4
  clear f4
  refine ov_blk (ls2 := [(0, ov_r 90), (1, ov_i (h 103 0)), (2, ov_i (h 103 1))]) (st2 := [ov_i 1, ov_i v5]) (pc2 := 26) b_258_25_1 rfl rfl ?_
  refine ov_icne (tgt := 38) d_258_26 (by decide) (by omega) (by omega) (fun c7 => ?_) (fun c7 => ?_)
  · skip
    refine ov_blk (ls2 := [(0, ov_r 90), (1, ov_i (h 103 0)), (2, ov_i (h 103 1))]) (st2 := [ov_i 0]) (pc2 := 39) b_258_38_1 rfl rfl ?_
    exact ov_retz (st := []) d_258_39 rfl (by omega) ⟨_, rfl, I1, ⟨rfl, rfl, rfl, rfl, rfl, rfl, rfl, rfl, rfl, rfl, (by show (0 = 0 ∨ 0 = 1) ∧ (h 90 22) ≤ (h 90 22) ∧ (h 90 22) ≤ (h 90 22) + 1; omega)⟩, rfl, rfl, rfl, rfl, rfl, rfl, rfl, rfl, rfl, rfl, rfl, rfl, rfl, rfl, (Or.inl ⟨rfl, rfl⟩)⟩
  · skip
    refine ov_blk (ls2 := [(0, ov_r 90), (1, ov_i (h 103 0)), (2, ov_i (h 103 1))]) (st2 := [ov_i (h 103 1), ov_i (h 103 0), ov_r 90]) (pc2 := 32) b_258_29_3 rfl rfl ?_
    refine ov_cV (as := [ov_i (h 103 0), ov_i (h 103 1)]) (st := []) (d2 := d - 1) d_258_32 lk_Mo_302 rfl (Nat.le_of_ble_eq_true rfl) (c := 1) (zb_90 I1) (zs_90 I1) ⟨by decide, rfl⟩ (by omega) (c_Mo_isKnown_90 (d - 1) (by omega) U I1 (h 103 0) (h 103 1) (by omega) (by omega) (by omega)) ?_
    rintro _ _ _ ⟨v9, rfl, rfl, rfl, f8⟩
    show ov_R u d ov_m258 35 [(0, ov_r 90), (1, ov_i (h 103 0)), (2, ov_i (h 103 1))] [ov_i v9] z (ov_up h 90 0 0) (P_Mo_look_90 F z h)
    have f10 : (v9 = 0 ∨ v9 = 1) ∧ (v9 = 1 → ((h 96 (10 + 4 * (6 * (h 103 1) + (h 103 0)))) = 2 ∧ (h 103 (4 + 6 * (h 103 1) + (h 103 0))) = 1)) ∧ (v9 = 0 → ¬ ((h 96 (10 + 4 * (6 * (h 103 1) + (h 103 0)))) = 2 ∧ (h 103 (4 + 6 * (h 103 1) + (h 103 0))) = 1)) := f8
    clear f8
    refine ov_ifeq (tgt := 40) d_258_35 (by decide) (by omega) (fun c11 => ?_) (fun c11 => ?_)
    · skip
      have f10_ : v9 = 0 := by omega
      have f12 : ¬ ((h 96 (10 + 4 * (6 * (h 103 1) + (h 103 0)))) = 2 ∧ (h 103 (4 + 6 * (h 103 1) + (h 103 0))) = 1) := f10.2.2 (by omega)
      clear f10
      refine ov_blk (ls2 := [(0, ov_r 90), (1, ov_i (h 103 0)), (2, ov_i (h 103 1))]) (st2 := [ov_r 90]) (pc2 := 41) b_258_40_1 rfl rfl ?_
      refine ov_cV (as := []) (st := []) (d2 := d - 1) d_258_41 lk_Mo_329 rfl (Nat.le_of_ble_eq_true rfl) (c := 1) (zb_90 I1) (zs_90 I1) ⟨by decide, rfl⟩ (by omega) (c_Mo_keeps_90 (d - 1) (by omega) U I1) ?_
      rintro _ z29 h30 ⟨rfl, I31, f13, e14, e15, e16, e17, e18, e19, e20, e21, e22, e23, e24, e25, e26, e27, y28⟩
      have E32 : h30 91 = h 91 := e14
      have E33 : h30 92 = h 92 := e15
      have E34 : h30 93 = h 93 := e16
      have E35 : h30 94 = h 94 := e17
      have E36 : h30 95 = h 95 := e18
      have E37 : h30 96 = h 96 := e19
      have E38 : h30 97 = h 97 := e20
      have E39 : h30 98 = h 98 := e21
      have E40 : h30 99 = h 99 := e22
      have E41 : h30 100 = h 100 := e23
      have E42 : h30 105 = h 105 := e24
      have E43 : h30 106 = h 106 := e25
      have E44 : h30 109 = h 109 := e26
      have E45 : h30 114 = h 114 := e27
      show ov_R u d ov_m258 44 [(0, ov_r 90), (1, ov_i (h 103 0)), (2, ov_i (h 103 1))] [] z29 h30 (P_Mo_look_90 F z h)
      have f46 : (h30 90 2) = (h 90 2) ∧ (h30 90 7) = (h 90 7) ∧ (h30 90 8) = (h 90 8) ∧ (h30 90 13) = (h 90 13) ∧ (h30 90 22) = (h 90 22) ∧ (h30 90 25) = (h 90 25) ∧ (h30 90 26) = (h 90 26) ∧ (h30 90 28) = (h 90 28) ∧ (h30 90 29) = (h 90 29) ∧ (h30 90 30) = (h 90 30) ∧ (h30 90 34) = (h 90 34) := f13
      clear f13
      have y28_ : ∀ j : Int, j < 600 → (h30 103) j = (h 103) j := y28
      refine ov_blk (ls2 := [(0, ov_r 90), (1, ov_i (h 103 0)), (2, ov_i (h 103 1))]) (st2 := [ov_r 90]) (pc2 := 45) b_258_44_1 rfl rfl ?_
      refine ov_getf (v := ov_r 103) d_258_45 fl_Mo_102 (zb_90 I31) (zs_90 I31) (congrArg ov_r (rg_90_19 I31)) ?_
      refine ov_blk (ls2 := [(0, ov_r 90), (1, ov_i (h 103 0)), (2, ov_i (h 103 1))]) (st2 := [ov_i 1, ov_i ((4 + (6 * (h 103 1))) + (h 103 0)), ov_r 103]) (pc2 := 57) b_258_48_8 rfl rfl ?_
      refine ov_iast d_258_57 (zb_103 I31) (zs_103 I31) (by omega) ?_
      have I47 := ua_103 (k := ((4 + (6 * (h 103 1))) + (h 103 0))) (x := 1) I31 (by refine ⟨?_, ?_, ?_, ?_, ?_, ?_⟩ <;> omega)
      refine ov_blk (ls2 := [(0, ov_r 90), (1, ov_i (h 103 0)), (2, ov_i (h 103 1))]) (st2 := [ov_r 90, ov_r 90]) (pc2 := 60) b_258_58_2 rfl rfl ?_
      refine ov_getf (v := ov_i (h30 90 22)) d_258_60 fl_Mo_322 (zb_90 I47) (zs_90 I47) rfl ?_
      have g48 := rg_90_22 I31
      refine ov_blk (ls2 := [(0, ov_r 90), (1, ov_i (h 103 0)), (2, ov_i (h 103 1))]) (st2 := [ov_i ((h30 90 22) + 1), ov_r 90]) (pc2 := 65) b_258_63_2 rfl rfl ?_
      refine ov_putf (x := ((h30 90 22) + 1)) d_258_65 fl_Mo_322 (zb_90 I47) (zs_90 I47) rfl nk_0 rfl ?_
      have I49 := up_90_22 (x := ((h30 90 22) + 1)) I47 (by omega)
      refine ov_blk (ls2 := [(0, ov_r 90), (1, ov_i (h 103 0)), (2, ov_i (h 103 1))]) (st2 := [ov_i 1]) (pc2 := 69) b_258_68_1 rfl rfl ?_
      exact ov_retz (st := []) d_258_69 rfl (by omega) ⟨_, rfl, I49, (by show (h30 90 2) = (h 90 2) ∧ (h30 90 7) = (h 90 7) ∧ (h30 90 8) = (h 90 8) ∧ (h30 90 13) = (h 90 13) ∧ (h30 90 25) = (h 90 25) ∧ (h30 90 26) = (h 90 26) ∧ (h30 90 28) = (h 90 28) ∧ (h30 90 29) = (h 90 29) ∧ (h30 90 30) = (h 90 30) ∧ (h30 90 34) = (h 90 34) ∧ (1 = 0 ∨ 1 = 1) ∧ (h 90 22) ≤ ((h30 90 22) + 1) ∧ ((h30 90 22) + 1) ≤ (h 90 22) + 1; omega), E32, E33, E34, E35, E36, E37, E38, E39, E40, E41, E42, E43, E44, E45, (Or.inr (by show ((h30 90 22) + 1) = h 90 22 + 1; omega))⟩
    · skip
      have f10_ : v9 = 1 := by omega
      have f50 : ((h 96 (10 + 4 * (6 * (h 103 1) + (h 103 0)))) = 2 ∧ (h 103 (4 + 6 * (h 103 1) + (h 103 0))) = 1) := f10.2.1 (by omega)
      clear f10
      refine ov_blk (ls2 := [(0, ov_r 90), (1, ov_i (h 103 0)), (2, ov_i (h 103 1))]) (st2 := [ov_i 0]) (pc2 := 39) b_258_38_1 rfl rfl ?_
      exact ov_retz (st := []) d_258_39 rfl (by omega) ⟨_, rfl, I1, ⟨rfl, rfl, rfl, rfl, rfl, rfl, rfl, rfl, rfl, rfl, (by show (0 = 0 ∨ 0 = 1) ∧ (h 90 22) ≤ (h 90 22) ∧ (h 90 22) ≤ (h 90 22) + 1; omega)⟩, rfl, rfl, rfl, rfl, rfl, rfl, rfl, rfl, rfl, rfl, rfl, rfl, rfl, rfl, (Or.inl ⟨rfl, rfl⟩)⟩
abbrev P_Mo_undo_90 (F : ov_H × ov_Z) (z : ov_Z) (h : ov_H) : Option ov_V → ov_Z → ov_H → Prop := fun r0 z' h' => ∃ r : Int, r0 = some (ov_i r) ∧ ov_N F z' h' ∧ ((h' 90 2) = (h 90 2) ∧ (h' 90 7) = (h 90 7) ∧ (h' 90 8) = (h 90 8) ∧ (h' 90 13) = (h 90 13) ∧ (h' 90 25) = (h 90 25) ∧ (h' 90 26) = (h 90 26) ∧ (h' 90 28) = (h 90 28) ∧ (h' 90 29) = (h 90 29) ∧ (h' 90 30) = (h 90 30) ∧ (h' 90 34) = (h 90 34) ∧ (r = 0 ∨ r = 1) ∧ (h 90 22) ≤ (h' 90 22) ∧ (h' 90 22) ≤ (h 90 22) + 1) ∧ h' 91 = h 91 ∧ h' 92 = h 92 ∧ h' 93 = h 93 ∧ h' 94 = h 94 ∧ h' 95 = h 95 ∧ h' 96 = h 96 ∧ h' 97 = h 97 ∧ h' 98 = h 98 ∧ h' 99 = h 99 ∧ h' 100 = h 100 ∧ h' 105 = h 105 ∧ h' 106 = h 106 ∧ h' 109 = h 109 ∧ h' 114 = h 114 ∧ (((h' 90 22) = (h 90 22) ∧ (h' 103) = (h 103)) ∨ (h' 90 22) = (h 90 22) + 1)
set_option maxHeartbeats 4000000 in
theorem c_Mo_undo_90 {u : ov_U} {F : ov_H × ov_Z} {z : ov_Z} {h : ov_H} (d : Nat) (hd : 1 ≤ d) (U : ov_cap u) (I : ov_N F z h) (p0 : 0 ≤ (h 90 22) ∧ (h 90 22) ≤ 2000000000) : ov_T u d ov_m259 [ov_r 90] z h (P_Mo_undo_90 F z h) := by
  refine ov_en rfl (Nat.le_of_ble_eq_true rfl) ?_
  show ov_R u d ov_m259 0 [(0, ov_r 90)] [] z h (P_Mo_undo_90 F z h)
  refine ov_blk (ls2 := [(0, ov_r 90)]) (st2 := [ov_i 0, ov_r 90]) (pc2 := 2) b_259_0_2 rfl rfl ?_
  refine ov_putf (x := 0) d_259_2 fl_Mo_1 (zb_90 I) (zs_90 I) rfl nk_0 rfl ?_
  have I1 := up_90_0 (x := 0) I (by omega)
  refine ov_blk (ls2 := [(0, ov_r 90)]) (st2 := [ov_r 90]) (pc2 := 6) b_259_5_1 rfl rfl ?_
  refine ov_getf (v := ov_i (h 90 20)) d_259_6 fl_Mo_319 (zb_90 I1) (zs_90 I1) rfl ?_
  have g2 := rg_90_20 I
  refine ov_ifne (tgt := 14) d_259_9 (by decide) (by omega) (fun c3 => ?_) (fun c3 => ?_)
  · skip
    refine ov_blk (ls2 := [(0, ov_r 90)]) (st2 := [ov_r 90, ov_r 90]) (pc2 := 16) b_259_14_2 rfl rfl ?_
    refine ov_getf (v := ov_i (h 90 20)) d_259_16 fl_Mo_319 (zb_90 I1) (zs_90 I1) rfl ?_
    refine ov_blk (ls2 := [(0, ov_r 90)]) (st2 := [ov_i ((h 90 20) - 1), ov_r 90]) (pc2 := 21) b_259_19_2 rfl rfl ?_
    refine ov_putf (x := ((h 90 20) - 1)) d_259_21 fl_Mo_319 (zb_90 I1) (zs_90 I1) rfl nk_0 rfl ?_
    have I5 := up_90_20 (x := ((h 90 20) - 1)) I1 (by omega)
    refine ov_blk (ls2 := [(0, ov_r 90)]) (st2 := [ov_r 90, ov_i 5, ov_r 90]) (pc2 := 27) b_259_24_3 rfl rfl ?_
    refine ov_getf (v := ov_i ((h 90 20) - 1)) d_259_27 fl_Mo_319 (zb_90 I5) (zs_90 I5) rfl ?_
    refine ov_blk (ls2 := [(0, ov_r 90)]) (st2 := [ov_i 58, ov_i 0, ov_i (5 + ((h 90 20) - 1)), ov_r 90]) (pc2 := 34) b_259_30_3 rfl rfl ?_
    refine ov_cV (as := [ov_i (5 + ((h 90 20) - 1)), ov_i 0, ov_i 58]) (st := []) (d2 := d - 1) d_259_34 lk_Mo_325 rfl (Nat.le_of_ble_eq_true rfl) (c := 1) (zb_90 I5) (zs_90 I5) ⟨by decide, rfl⟩ (by omega) (c_Mo_copies_90 (d - 1) (by omega) U I5 (5 + ((h 90 20) - 1)) 0 58 (by omega) (by omega) (by omega) (by omega) (by omega) (by omega)) ?_
    rintro _ z22 h23 ⟨rfl, I24, f6, e7, e8, e9, e10, e11, e12, e13, e14, e15, e16, e17, e18, e19, e20, y21⟩
    have E25 : h23 91 = h 91 := e7
    have E26 : h23 92 = h 92 := e8
    have E27 : h23 93 = h 93 := e9
    have E28 : h23 94 = h 94 := e10
    have E29 : h23 95 = h 95 := e11
    have E30 : h23 96 = h 96 := e12
    have E31 : h23 97 = h 97 := e13
    have E32 : h23 98 = h 98 := e14
    have E33 : h23 99 = h 99 := e15
    have E34 : h23 100 = h 100 := e16
    have E35 : h23 105 = h 105 := e17
    have E36 : h23 106 = h 106 := e18
    have E37 : h23 109 = h 109 := e19
    have E38 : h23 114 = h 114 := e20
    show ov_R u d ov_m259 37 [(0, ov_r 90)] [] z22 h23 (P_Mo_undo_90 F z h)
    have f39 : (h23 90 2) = (h 90 2) ∧ (h23 90 7) = (h 90 7) ∧ (h23 90 8) = (h 90 8) ∧ (h23 90 13) = (h 90 13) ∧ (h23 90 20) = ((h 90 20) - 1) ∧ (h23 90 22) = (h 90 22) ∧ (h23 90 25) = (h 90 25) ∧ (h23 90 26) = (h 90 26) ∧ (h23 90 28) = (h 90 28) ∧ (h23 90 29) = (h 90 29) ∧ (h23 90 30) = (h 90 30) ∧ (h23 90 34) = (h 90 34) := f6
    clear f6
    have y21_ : ∀ j : Int, j < 120 * (0 : Int) ∨ 120 * (0 : Int) + (58 : Int) ≤ j → (h23 103) j = (h 103) j := y21
    refine ov_blk (ls2 := [(0, ov_r 90)]) (st2 := [ov_r 90, ov_r 90]) (pc2 := 39) b_259_37_2 rfl rfl ?_
    refine ov_getf (v := ov_i (h23 90 22)) d_259_39 fl_Mo_322 (zb_90 I24) (zs_90 I24) rfl ?_
    have g40 := rg_90_22 I24
    refine ov_blk (ls2 := [(0, ov_r 90)]) (st2 := [ov_i ((h23 90 22) + 1), ov_r 90]) (pc2 := 44) b_259_42_2 rfl rfl ?_
    refine ov_putf (x := ((h23 90 22) + 1)) d_259_44 fl_Mo_322 (zb_90 I24) (zs_90 I24) rfl nk_0 rfl ?_
    have I41 := up_90_22 (x := ((h23 90 22) + 1)) I24 (by omega)
    refine ov_blk (ls2 := [(0, ov_r 90)]) (st2 := [ov_i 1]) (pc2 := 48) b_259_47_1 rfl rfl ?_
    exact ov_retz (st := []) d_259_48 rfl (by omega) ⟨_, rfl, I41, (by show (h23 90 2) = (h 90 2) ∧ (h23 90 7) = (h 90 7) ∧ (h23 90 8) = (h 90 8) ∧ (h23 90 13) = (h 90 13) ∧ (h23 90 25) = (h 90 25) ∧ (h23 90 26) = (h 90 26) ∧ (h23 90 28) = (h 90 28) ∧ (h23 90 29) = (h 90 29) ∧ (h23 90 30) = (h 90 30) ∧ (h23 90 34) = (h 90 34) ∧ (1 = 0 ∨ 1 = 1) ∧ (h 90 22) ≤ ((h23 90 22) + 1) ∧ ((h23 90 22) + 1) ≤ (h 90 22) + 1; omega), E25, E26, E27, E28, E29, E30, E31, E32, E33, E34, E35, E36, E37, E38, (Or.inr (by show ((h23 90 22) + 1) = h 90 22 + 1; omega))⟩
  · skip
    refine ov_blk (ls2 := [(0, ov_r 90)]) (st2 := [ov_i 0]) (pc2 := 13) b_259_12_1 rfl rfl ?_
    exact ov_retz (st := []) d_259_13 rfl (by omega) ⟨_, rfl, I1, ⟨rfl, rfl, rfl, rfl, rfl, rfl, rfl, rfl, rfl, rfl, (by show (0 = 0 ∨ 0 = 1) ∧ (h 90 22) ≤ (h 90 22) ∧ (h 90 22) ≤ (h 90 22) + 1; omega)⟩, rfl, rfl, rfl, rfl, rfl, rfl, rfl, rfl, rfl, rfl, rfl, rfl, rfl, rfl, (Or.inl ⟨rfl, rfl⟩)⟩

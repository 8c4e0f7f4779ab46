theorem b_154_0_9 : ov_ds ov_m154.2.1 0 [.iload_n 0, .iconst 2, .imul, .iload_n 1, .iadd, .bipush 13, .imul, .iload_n 2, .iadd] = true := by decide +kernel
theorem d_154_10 : decode ov_m154.2.1 10 = .ok (.ireturn, 1) := by decide +kernel
theorem b_117_0_2 : ov_ds ov_m117.2.1 0 [.iload_n 3, .aload_n 0] = true := by decide +kernel
theorem d_117_2 : decode ov_m117.2.1 2 = .ok (.getfield 18, 3) := by decide +kernel
theorem b_117_5_3 : ov_ds ov_m117.2.1 5 [.iload_n 1, .iload_n 2, .iload_n 3] = true := by decide +kernel
theorem d_117_8 : decode ov_m117.2.1 8 = .ok (.invokevirtual 53, 3) := by decide +kernel
theorem b_117_11_1 : ov_ds ov_m117.2.1 11 [.iadd] = true := by decide +kernel
theorem b_117_12_1 : ov_ds ov_m117.2.1 12 [.aload_n 0] = true := by decide +kernel
theorem d_117_13 : decode ov_m117.2.1 13 = .ok (.getfield 18, 3) := by decide +kernel
theorem d_117_16 : decode ov_m117.2.1 16 = .ok (.getfield 56, 3) := by decide +kernel
theorem b_117_19_1 : ov_ds ov_m117.2.1 19 [.iconst 0] = true := by decide +kernel
theorem d_117_20 : decode ov_m117.2.1 20 = .ok (.iaload, 1) := by decide +kernel
theorem b_117_21_1 : ov_ds ov_m117.2.1 21 [.iadd] = true := by decide +kernel
theorem d_117_22 : decode ov_m117.2.1 22 = .ok (.ireturn, 1) := by decide +kernel
theorem b_116_0_1 : ov_ds ov_m116.2.1 0 [.aload_n 0] = true := by decide +kernel
theorem d_116_1 : decode ov_m116.2.1 1 = .ok (.getfield 18, 3) := by decide +kernel
theorem b_116_4_2 : ov_ds ov_m116.2.1 4 [.iload_n 1, .iload_n 2] = true := by decide +kernel
theorem d_116_6 : decode ov_m116.2.1 6 = .ok (.invokevirtual 38, 3) := by decide +kernel
theorem d_116_9 : decode ov_m116.2.1 9 = .ok (.ifCond .eq 40, 3) := by decide +kernel
theorem d_116_49 : decode ov_m116.2.1 49 = .ok (.return_, 1) := by decide +kernel
theorem b_116_12_1 : ov_ds ov_m116.2.1 12 [.aload_n 0] = true := by decide +kernel
theorem d_116_13 : decode ov_m116.2.1 13 = .ok (.getfield 18, 3) := by decide +kernel
theorem b_116_16_2 : ov_ds ov_m116.2.1 16 [.iload_n 1, .iload_n 2] = true := by decide +kernel
theorem d_116_18 : decode ov_m116.2.1 18 = .ok (.invokevirtual 42, 3) := by decide +kernel
theorem b_116_21_2 : ov_ds ov_m116.2.1 21 [.istore_n 3, .aload_n 0] = true := by decide +kernel
theorem d_116_23 : decode ov_m116.2.1 23 = .ok (.getfield 9, 3) := by decide +kernel
theorem b_116_26_2 : ov_ds ov_m116.2.1 26 [.iload_n 3, .aload_n 0] = true := by decide +kernel
theorem d_116_28 : decode ov_m116.2.1 28 = .ok (.getfield 9, 3) := by decide +kernel
theorem b_116_31_1 : ov_ds ov_m116.2.1 31 [.iload_n 3] = true := by decide +kernel
theorem d_116_32 : decode ov_m116.2.1 32 = .ok (.iaload, 1) := by decide +kernel
theorem b_116_33_4 : ov_ds ov_m116.2.1 33 [.aload_n 0, .iload_n 1, .iload_n 2, .aload_n 0] = true := by decide +kernel
theorem d_116_37 : decode ov_m116.2.1 37 = .ok (.getfield 9, 3) := by decide +kernel
theorem b_116_40_1 : ov_ds ov_m116.2.1 40 [.iload_n 1] = true := by decide +kernel
theorem d_116_41 : decode ov_m116.2.1 41 = .ok (.iaload, 1) := by decide +kernel
theorem d_116_42 : decode ov_m116.2.1 42 = .ok (.invokevirtual 46, 3) := by decide +kernel
theorem d_116_45 : decode ov_m116.2.1 45 = .ok (.invokestatic 50, 3) := by decide +kernel
theorem d_116_48 : decode ov_m116.2.1 48 = .ok (.iastore, 1) := by decide +kernel
theorem b_114_0_2 : ov_ds ov_m114.2.1 0 [.aload_n 0, .aload_n 1] = true := by decide +kernel
theorem d_114_2 : decode ov_m114.2.1 2 = .ok (.putfield 18, 3) := by decide +kernel
theorem b_114_5_1 : ov_ds ov_m114.2.1 5 [.aload_n 0] = true := by decide +kernel
theorem d_114_6 : decode ov_m114.2.1 6 = .ok (.getfield 9, 3) := by decide +kernel
theorem b_114_9_1 : ov_ds ov_m114.2.1 9 [.iconst (-1)] = true := by decide +kernel
theorem d_114_10 : decode ov_m114.2.1 10 = .ok (.invokestatic 22, 3) := by decide +kernel
theorem b_114_13_1 : ov_ds ov_m114.2.1 13 [.aload_n 0] = true := by decide +kernel
theorem d_114_14 : decode ov_m114.2.1 14 = .ok (.getfield 9, 3) := by decide +kernel
theorem b_114_17_2 : ov_ds ov_m114.2.1 17 [.iload_n 2, .iload_n 3] = true := by decide +kernel
theorem d_114_19 : decode ov_m114.2.1 19 = .ok (.iastore, 1) := by decide +kernel
theorem b_114_20_1 : ov_ds ov_m114.2.1 20 [.aload_n 0] = true := by decide +kernel
theorem d_114_21 : decode ov_m114.2.1 21 = .ok (.getfield 18, 3) := by decide +kernel
theorem d_114_24 : decode ov_m114.2.1 24 = .ok (.invokevirtual 28, 3) := by decide +kernel
theorem b_114_27_3 : ov_ds ov_m114.2.1 27 [.istore 4, .iload_n 2, .istore 5] = true := by decide +kernel
theorem b_114_32_2 : ov_ds ov_m114.2.1 32 [.iload 5, .iload 4] = true := by decide +kernel
theorem d_114_36 : decode ov_m114.2.1 36 = .ok (.if_icmp .ge 34, 3) := by decide +kernel
theorem b_114_70_1 : ov_ds ov_m114.2.1 70 [.aload_n 0] = true := by decide +kernel
theorem d_114_71 : decode ov_m114.2.1 71 = .ok (.getfield 9, 3) := by decide +kernel
theorem b_114_74_1 : ov_ds ov_m114.2.1 74 [.iload 4] = true := by decide +kernel
theorem d_114_76 : decode ov_m114.2.1 76 = .ok (.iaload, 1) := by decide +kernel
theorem d_114_77 : decode ov_m114.2.1 77 = .ok (.ireturn, 1) := by decide +kernel
theorem b_114_39_1 : ov_ds ov_m114.2.1 39 [.aload_n 0] = true := by decide +kernel
theorem d_114_40 : decode ov_m114.2.1 40 = .ok (.getfield 9, 3) := by decide +kernel
theorem b_114_43_1 : ov_ds ov_m114.2.1 43 [.iload 5] = true := by decide +kernel
theorem d_114_45 : decode ov_m114.2.1 45 = .ok (.iaload, 1) := by decide +kernel
theorem b_114_46_1 : ov_ds ov_m114.2.1 46 [.iconst (-1)] = true := by decide +kernel
theorem d_114_47 : decode ov_m114.2.1 47 = .ok (.if_icmp .eq 17, 3) := by decide +kernel
theorem b_114_64_1 : ov_ds ov_m114.2.1 64 [.iinc 5 1] = true := by decide +kernel
theorem d_114_67 : decode ov_m114.2.1 67 = .ok (.goto (-35), 3) := by decide +kernel
theorem b_114_50_3 : ov_ds ov_m114.2.1 50 [.aload_n 0, .iload 5, .iconst 0] = true := by decide +kernel
theorem d_114_54 : decode ov_m114.2.1 54 = .ok (.invokevirtual 34, 3) := by decide +kernel
theorem b_114_57_3 : ov_ds ov_m114.2.1 57 [.aload_n 0, .iload 5, .iconst 1] = true := by decide +kernel
theorem d_114_61 : decode ov_m114.2.1 61 = .ok (.invokevirtual 34, 3) := by decide +kernel
theorem b_119_0_1 : ov_ds ov_m119.2.1 0 [.aload_n 0] = true := by decide +kernel
theorem d_119_1 : decode ov_m119.2.1 1 = .ok (.getfield 18, 3) := by decide +kernel
theorem b_119_4_2 : ov_ds ov_m119.2.1 4 [.iload_n 1, .iconst 0] = true := by decide +kernel
theorem d_119_6 : decode ov_m119.2.1 6 = .ok (.invokevirtual 38, 3) := by decide +kernel
theorem d_119_9 : decode ov_m119.2.1 9 = .ok (.ifCond .eq 35, 3) := by decide +kernel
theorem b_119_44_1 : ov_ds ov_m119.2.1 44 [.iconst 0] = true := by decide +kernel
theorem d_119_45 : decode ov_m119.2.1 45 = .ok (.ireturn, 1) := by decide +kernel
theorem b_119_12_2 : ov_ds ov_m119.2.1 12 [.aload_n 0, .aload_n 0] = true := by decide +kernel
theorem d_119_14 : decode ov_m119.2.1 14 = .ok (.getfield 18, 3) := by decide +kernel
theorem b_119_17_1 : ov_ds ov_m119.2.1 17 [.aload_n 0] = true := by decide +kernel
theorem d_119_18 : decode ov_m119.2.1 18 = .ok (.getfield 18, 3) := by decide +kernel
theorem b_119_21_2 : ov_ds ov_m119.2.1 21 [.iload_n 1, .iconst 0] = true := by decide +kernel
theorem d_119_23 : decode ov_m119.2.1 23 = .ok (.invokevirtual 42, 3) := by decide +kernel
theorem b_119_26_4 : ov_ds ov_m119.2.1 26 [.aload_n 0, .iload_n 1, .iconst 0, .iload_n 2] = true := by decide +kernel
theorem d_119_30 : decode ov_m119.2.1 30 = .ok (.invokevirtual 46, 3) := by decide +kernel
theorem d_119_33 : decode ov_m119.2.1 33 = .ok (.invokevirtual 59, 3) := by decide +kernel
theorem b_119_36_1 : ov_ds ov_m119.2.1 36 [.iload_n 3] = true := by decide +kernel
theorem d_119_37 : decode ov_m119.2.1 37 = .ok (.if_icmp .ne 7, 3) := by decide +kernel
theorem b_119_40_1 : ov_ds ov_m119.2.1 40 [.iconst 1] = true := by decide +kernel
theorem d_119_41 : decode ov_m119.2.1 41 = .ok (.goto 4, 3) := by decide +kernel
theorem b_150_0_4 : ov_ds ov_m150.2.1 0 [.aload_n 0, .aload_n 1, .iload_n 2, .iload_n 3] = true := by decide +kernel
theorem d_150_4 : decode ov_m150.2.1 4 = .ok (.invokevirtual 59, 3) := by decide +kernel
theorem b_150_7_3 : ov_ds ov_m150.2.1 7 [.istore 4, .iload 4, .iconst (-1)] = true := by decide +kernel
theorem d_150_12 : decode ov_m150.2.1 12 = .ok (.if_icmp .ne 5, 3) := by decide +kernel
theorem b_150_17_4 : ov_ds ov_m150.2.1 17 [.iload_n 3, .istore 5, .iload_n 3, .aload_n 0] = true := by decide +kernel
theorem d_150_22 : decode ov_m150.2.1 22 = .ok (.getfield 18, 3) := by decide +kernel
theorem d_150_25 : decode ov_m150.2.1 25 = .ok (.getfield 67, 3) := by decide +kernel
theorem b_150_28_1 : ov_ds ov_m150.2.1 28 [.iadd] = true := by decide +kernel
theorem b_150_29_3 : ov_ds ov_m150.2.1 29 [.istore 6, .iconst 0, .istore 7] = true := by decide +kernel
theorem b_150_34_2 : ov_ds ov_m150.2.1 34 [.iload 7, .bipush 32] = true := by decide +kernel
theorem d_150_38 : decode ov_m150.2.1 38 = .ok (.if_icmp .ge 54, 3) := by decide +kernel
theorem b_150_92_1 : ov_ds ov_m150.2.1 92 [.iload 5] = true := by decide +kernel
theorem d_150_94 : decode ov_m150.2.1 94 = .ok (.ireturn, 1) := by decide +kernel
theorem b_150_41_3 : ov_ds ov_m150.2.1 41 [.iload 6, .iload 5, .isub] = true := by decide +kernel
theorem b_150_46_1 : ov_ds ov_m150.2.1 46 [.iconst 1] = true := by decide +kernel
theorem d_150_47 : decode ov_m150.2.1 47 = .ok (.if_icmp .le 45, 3) := by decide +kernel
theorem b_150_50_4 : ov_ds ov_m150.2.1 50 [.iload 5, .iload 6, .iload 5, .isub] = true := by decide +kernel
theorem b_150_57_1 : ov_ds ov_m150.2.1 57 [.iconst 2] = true := by decide +kernel
theorem d_150_58 : decode ov_m150.2.1 58 = .ok (.idiv, 1) := by decide +kernel
theorem b_150_59_1 : ov_ds ov_m150.2.1 59 [.iadd] = true := by decide +kernel
theorem b_150_60_5 : ov_ds ov_m150.2.1 60 [.istore 8, .aload_n 0, .aload_n 1, .iload_n 2, .iload 8] = true := by decide +kernel
theorem d_150_67 : decode ov_m150.2.1 67 = .ok (.invokevirtual 59, 3) := by decide +kernel
theorem b_150_70_1 : ov_ds ov_m150.2.1 70 [.iload 4] = true := by decide +kernel
theorem d_150_72 : decode ov_m150.2.1 72 = .ok (.if_icmp .ne 10, 3) := by decide +kernel
theorem b_150_82_3 : ov_ds ov_m150.2.1 82 [.iload 8, .istore 6, .iinc 7 1] = true := by decide +kernel
theorem d_150_89 : decode ov_m150.2.1 89 = .ok (.goto (-55), 3) := by decide +kernel
theorem b_150_75_2 : ov_ds ov_m150.2.1 75 [.iload 8, .istore 5] = true := by decide +kernel
theorem d_150_79 : decode ov_m150.2.1 79 = .ok (.goto 7, 3) := by decide +kernel
theorem b_150_86_1 : ov_ds ov_m150.2.1 86 [.iinc 7 1] = true := by decide +kernel
theorem b_150_15_1 : ov_ds ov_m150.2.1 15 [.iconst (-1)] = true := by decide +kernel
theorem d_150_16 : decode ov_m150.2.1 16 = .ok (.ireturn, 1) := by decide +kernel
theorem b_153_0_1 : ov_ds ov_m153.2.1 0 [.aload_n 0] = true := by decide +kernel
theorem d_153_1 : decode ov_m153.2.1 1 = .ok (.getfield 18, 3) := by decide +kernel
theorem b_153_4_2 : ov_ds ov_m153.2.1 4 [.iload_n 1, .iload_n 2] = true := by decide +kernel
theorem d_153_6 : decode ov_m153.2.1 6 = .ok (.invokevirtual 38, 3) := by decide +kernel
theorem d_153_9 : decode ov_m153.2.1 9 = .ok (.ifCond .eq 44, 3) := by decide +kernel
theorem d_153_53 : decode ov_m153.2.1 53 = .ok (.return_, 1) := by decide +kernel
theorem b_153_12_1 : ov_ds ov_m153.2.1 12 [.aload_n 0] = true := by decide +kernel
theorem d_153_13 : decode ov_m153.2.1 13 = .ok (.getfield 18, 3) := by decide +kernel
theorem b_153_16_2 : ov_ds ov_m153.2.1 16 [.iload_n 1, .iload_n 2] = true := by decide +kernel
theorem d_153_18 : decode ov_m153.2.1 18 = .ok (.invokevirtual 42, 3) := by decide +kernel
theorem b_153_21_2 : ov_ds ov_m153.2.1 21 [.iload_n 2, .iload 4] = true := by decide +kernel
theorem d_153_24 : decode ov_m153.2.1 24 = .ok (.invokestatic 79, 3) := by decide +kernel
theorem b_153_27_2 : ov_ds ov_m153.2.1 27 [.istore 5, .aload_n 0] = true := by decide +kernel
theorem d_153_30 : decode ov_m153.2.1 30 = .ok (.getfield 15, 3) := by decide +kernel
theorem b_153_33_2 : ov_ds ov_m153.2.1 33 [.iload 5, .aload_n 0] = true := by decide +kernel
theorem d_153_36 : decode ov_m153.2.1 36 = .ok (.getfield 15, 3) := by decide +kernel
theorem b_153_39_1 : ov_ds ov_m153.2.1 39 [.iload 5] = true := by decide +kernel
theorem d_153_41 : decode ov_m153.2.1 41 = .ok (.iaload, 1) := by decide +kernel
theorem b_153_42_4 : ov_ds ov_m153.2.1 42 [.aload_n 0, .iload_n 1, .iload_n 2, .iload_n 3] = true := by decide +kernel
theorem d_153_46 : decode ov_m153.2.1 46 = .ok (.invokevirtual 46, 3) := by decide +kernel
theorem d_153_49 : decode ov_m153.2.1 49 = .ok (.invokestatic 50, 3) := by decide +kernel
theorem d_153_52 : decode ov_m153.2.1 52 = .ok (.iastore, 1) := by decide +kernel
theorem b_155_0_2 : ov_ds ov_m155.2.1 0 [.iconst 0, .istore 4] = true := by decide +kernel
theorem b_155_3_2 : ov_ds ov_m155.2.1 3 [.iload 4, .iconst 1] = true := by decide +kernel
theorem d_155_6 : decode ov_m155.2.1 6 = .ok (.if_icmp .gt 58, 3) := by decide +kernel
theorem d_155_64 : decode ov_m155.2.1 64 = .ok (.return_, 1) := by decide +kernel
theorem b_155_9_1 : ov_ds ov_m155.2.1 9 [.aload_n 0] = true := by decide +kernel
theorem d_155_10 : decode ov_m155.2.1 10 = .ok (.getfield 15, 3) := by decide +kernel
theorem b_155_13_3 : ov_ds ov_m155.2.1 13 [.iload_n 1, .iload 4, .iload_n 2] = true := by decide +kernel
theorem d_155_17 : decode ov_m155.2.1 17 = .ok (.invokestatic 79, 3) := by decide +kernel
theorem d_155_20 : decode ov_m155.2.1 20 = .ok (.iaload, 1) := by decide +kernel
theorem b_155_21_3 : ov_ds ov_m155.2.1 21 [.istore 5, .iload 5, .iconst (-1)] = true := by decide +kernel
theorem d_155_26 : decode ov_m155.2.1 26 = .ok (.if_icmp .eq 32, 3) := by decide +kernel
theorem b_155_58_1 : ov_ds ov_m155.2.1 58 [.iinc 4 1] = true := by decide +kernel
theorem d_155_61 : decode ov_m155.2.1 61 = .ok (.goto (-58), 3) := by decide +kernel
theorem b_155_29_5 : ov_ds ov_m155.2.1 29 [.aload_n 0, .iload_n 1, .iload 4, .iload 5, .iload_n 2] = true := by decide +kernel
theorem d_155_36 : decode ov_m155.2.1 36 = .ok (.invokevirtual 71, 3) := by decide +kernel
theorem b_155_39_2 : ov_ds ov_m155.2.1 39 [.iload_n 2, .iload_n 3] = true := by decide +kernel
theorem d_155_41 : decode ov_m155.2.1 41 = .ok (.if_icmp .ge 17, 3) := by decide +kernel
theorem b_155_44_9 : ov_ds ov_m155.2.1 44 [.aload_n 0, .iload_n 1, .iconst 1, .iload 4, .isub, .iload 5, .iload_n 2, .iconst 1, .iadd] = true := by decide +kernel
theorem d_155_55 : decode ov_m155.2.1 55 = .ok (.invokevirtual 71, 3) := by decide +kernel
theorem b_152_0_2 : ov_ds ov_m152.2.1 0 [.aload_n 0, .aload_n 1] = true := by decide +kernel
theorem d_152_2 : decode ov_m152.2.1 2 = .ok (.putfield 18, 3) := by decide +kernel
theorem b_152_5_1 : ov_ds ov_m152.2.1 5 [.aload_n 0] = true := by decide +kernel
theorem d_152_6 : decode ov_m152.2.1 6 = .ok (.getfield 18, 3) := by decide +kernel
theorem d_152_9 : decode ov_m152.2.1 9 = .ok (.invokevirtual 28, 3) := by decide +kernel
theorem b_152_12_2 : ov_ds ov_m152.2.1 12 [.istore 4, .iload 4] = true := by decide +kernel
theorem d_152_16 : decode ov_m152.2.1 16 = .ok (.ifCond .ne 5, 3) := by decide +kernel
theorem b_152_21_1 : ov_ds ov_m152.2.1 21 [.aload_n 0] = true := by decide +kernel
theorem d_152_22 : decode ov_m152.2.1 22 = .ok (.getfield 15, 3) := by decide +kernel
theorem b_152_25_1 : ov_ds ov_m152.2.1 25 [.iconst (-1)] = true := by decide +kernel
theorem d_152_26 : decode ov_m152.2.1 26 = .ok (.invokestatic 22, 3) := by decide +kernel
theorem b_152_29_5 : ov_ds ov_m152.2.1 29 [.aload_n 0, .iconst 0, .iconst 0, .iload_n 2, .iconst 0] = true := by decide +kernel
theorem d_152_34 : decode ov_m152.2.1 34 = .ok (.invokevirtual 71, 3) := by decide +kernel
theorem b_152_37_5 : ov_ds ov_m152.2.1 37 [.aload_n 0, .iconst 0, .iconst 1, .iload_n 2, .iconst 0] = true := by decide +kernel
theorem d_152_42 : decode ov_m152.2.1 42 = .ok (.invokevirtual 71, 3) := by decide +kernel
theorem b_152_45_2 : ov_ds ov_m152.2.1 45 [.iconst 1, .istore 5] = true := by decide +kernel
theorem b_152_48_2 : ov_ds ov_m152.2.1 48 [.iload 5, .iload 4] = true := by decide +kernel
theorem d_152_52 : decode ov_m152.2.1 52 = .ok (.if_icmp .ge 33, 3) := by decide +kernel
theorem b_152_85_4 : ov_ds ov_m152.2.1 85 [.iconst (-1), .istore 5, .iconst 0, .istore 6] = true := by decide +kernel
theorem b_152_91_2 : ov_ds ov_m152.2.1 91 [.iload 6, .iload_n 3] = true := by decide +kernel
theorem d_152_94 : decode ov_m152.2.1 94 = .ok (.if_icmp .gt 49, 3) := by decide +kernel
theorem b_152_143_1 : ov_ds ov_m152.2.1 143 [.iload 5] = true := by decide +kernel
theorem d_152_145 : decode ov_m152.2.1 145 = .ok (.ireturn, 1) := by decide +kernel
theorem b_152_97_2 : ov_ds ov_m152.2.1 97 [.iload 5, .aload_n 0] = true := by decide +kernel
theorem d_152_100 : decode ov_m152.2.1 100 = .ok (.getfield 15, 3) := by decide +kernel
theorem b_152_103_3 : ov_ds ov_m152.2.1 103 [.iload 4, .iconst 0, .iload 6] = true := by decide +kernel
theorem d_152_108 : decode ov_m152.2.1 108 = .ok (.invokestatic 79, 3) := by decide +kernel
theorem d_152_111 : decode ov_m152.2.1 111 = .ok (.iaload, 1) := by decide +kernel
theorem d_152_112 : decode ov_m152.2.1 112 = .ok (.invokestatic 50, 3) := by decide +kernel
theorem b_152_115_3 : ov_ds ov_m152.2.1 115 [.istore 5, .iload 5, .aload_n 0] = true := by decide +kernel
theorem d_152_120 : decode ov_m152.2.1 120 = .ok (.getfield 15, 3) := by decide +kernel
theorem b_152_123_3 : ov_ds ov_m152.2.1 123 [.iload 4, .iconst 1, .iload 6] = true := by decide +kernel
theorem d_152_128 : decode ov_m152.2.1 128 = .ok (.invokestatic 79, 3) := by decide +kernel
theorem d_152_131 : decode ov_m152.2.1 131 = .ok (.iaload, 1) := by decide +kernel
theorem d_152_132 : decode ov_m152.2.1 132 = .ok (.invokestatic 50, 3) := by decide +kernel
theorem b_152_135_2 : ov_ds ov_m152.2.1 135 [.istore 5, .iinc 6 1] = true := by decide +kernel
theorem d_152_140 : decode ov_m152.2.1 140 = .ok (.goto (-49), 3) := by decide +kernel
theorem b_152_55_2 : ov_ds ov_m152.2.1 55 [.iconst 0, .istore 6] = true := by decide +kernel
theorem b_152_58_2 : ov_ds ov_m152.2.1 58 [.iload 6, .iload_n 3] = true := by decide +kernel
theorem d_152_61 : decode ov_m152.2.1 61 = .ok (.if_icmp .gt 18, 3) := by decide +kernel
theorem b_152_79_1 : ov_ds ov_m152.2.1 79 [.iinc 5 1] = true := by decide +kernel
theorem d_152_82 : decode ov_m152.2.1 82 = .ok (.goto (-34), 3) := by decide +kernel
theorem b_152_64_4 : ov_ds ov_m152.2.1 64 [.aload_n 0, .iload 5, .iload 6, .iload_n 3] = true := by decide +kernel
theorem d_152_70 : decode ov_m152.2.1 70 = .ok (.invokevirtual 75, 3) := by decide +kernel
theorem b_152_73_1 : ov_ds ov_m152.2.1 73 [.iinc 6 1] = true := by decide +kernel
theorem d_152_76 : decode ov_m152.2.1 76 = .ok (.goto (-18), 3) := by decide +kernel
theorem b_152_19_1 : ov_ds ov_m152.2.1 19 [.iload_n 2] = true := by decide +kernel
theorem d_152_20 : decode ov_m152.2.1 20 = .ok (.ireturn, 1) := by decide +kernel
theorem b_189_0_2 : ov_ds ov_m189.2.1 0 [.iload_n 1, .aload_n 0] = true := by decide +kernel
theorem d_189_2 : decode ov_m189.2.1 2 = .ok (.getfield 18, 3) := by decide +kernel
theorem d_189_5 : decode ov_m189.2.1 5 = .ok (.invokevirtual 28, 3) := by decide +kernel
theorem d_189_8 : decode ov_m189.2.1 8 = .ok (.if_icmp .ne 79, 3) := by decide +kernel
theorem b_189_87_2 : ov_ds ov_m189.2.1 87 [.iconst 0, .istore 9] = true := by decide +kernel
theorem b_189_90_2 : ov_ds ov_m189.2.1 90 [.iload 9, .iconst 1] = true := by decide +kernel
theorem d_189_93 : decode ov_m189.2.1 93 = .ok (.if_icmp .gt 115, 3) := by decide +kernel
theorem d_189_208 : decode ov_m189.2.1 208 = .ok (.return_, 1) := by decide +kernel
theorem b_189_96_2 : ov_ds ov_m189.2.1 96 [.iload_n 3, .bipush 13] = true := by decide +kernel
theorem d_189_99 : decode ov_m189.2.1 99 = .ok (.if_icmp .ge 109, 3) := by decide +kernel
theorem b_189_102_1 : ov_ds ov_m189.2.1 102 [.aload_n 0] = true := by decide +kernel
theorem d_189_103 : decode ov_m189.2.1 103 = .ok (.getfield 18, 3) := by decide +kernel
theorem b_189_106_2 : ov_ds ov_m189.2.1 106 [.iload_n 1, .iload 9] = true := by decide +kernel
theorem d_189_109 : decode ov_m189.2.1 109 = .ok (.invokevirtual 38, 3) := by decide +kernel
theorem d_189_112 : decode ov_m189.2.1 112 = .ok (.ifCond .eq 90, 3) := by decide +kernel
theorem b_189_202_1 : ov_ds ov_m189.2.1 202 [.iinc 9 1] = true := by decide +kernel
theorem d_189_205 : decode ov_m189.2.1 205 = .ok (.goto (-115), 3) := by decide +kernel
theorem b_189_115_2 : ov_ds ov_m189.2.1 115 [.iload_n 2, .aload_n 0] = true := by decide +kernel
theorem d_189_117 : decode ov_m189.2.1 117 = .ok (.getfield 18, 3) := by decide +kernel
theorem b_189_120_3 : ov_ds ov_m189.2.1 120 [.iload_n 1, .iload 9, .iload_n 2] = true := by decide +kernel
theorem d_189_124 : decode ov_m189.2.1 124 = .ok (.invokevirtual 53, 3) := by decide +kernel
theorem b_189_127_1 : ov_ds ov_m189.2.1 127 [.iadd] = true := by decide +kernel
theorem b_189_128_2 : ov_ds ov_m189.2.1 128 [.istore 10, .aload_n 0] = true := by decide +kernel
theorem d_189_131 : decode ov_m189.2.1 131 = .ok (.getfield 82, 3) := by decide +kernel
theorem b_189_134_3 : ov_ds ov_m189.2.1 134 [.iload_n 1, .iload_n 2, .iload 10] = true := by decide +kernel
theorem d_189_138 : decode ov_m189.2.1 138 = .ok (.invokevirtual 102, 3) := by decide +kernel
theorem b_189_141_3 : ov_ds ov_m189.2.1 141 [.istore 11, .iload 11, .iconst (-1)] = true := by decide +kernel
theorem d_189_146 : decode ov_m189.2.1 146 = .ok (.if_icmp .eq 56, 3) := by decide +kernel
theorem b_189_149_1 : ov_ds ov_m189.2.1 149 [.aload_n 0] = true := by decide +kernel
theorem d_189_150 : decode ov_m189.2.1 150 = .ok (.getfield 18, 3) := by decide +kernel
theorem b_189_153_2 : ov_ds ov_m189.2.1 153 [.iload_n 1, .iload 9] = true := by decide +kernel
theorem d_189_156 : decode ov_m189.2.1 156 = .ok (.invokevirtual 42, 3) := by decide +kernel
theorem b_189_159_5 : ov_ds ov_m189.2.1 159 [.istore 12, .aload_n 0, .iload 12, .iload 10, .aload_n 0] = true := by decide +kernel
theorem d_189_167 : decode ov_m189.2.1 167 = .ok (.getfield 18, 3) := by decide +kernel
theorem d_189_170 : decode ov_m189.2.1 170 = .ok (.getfield 56, 3) := by decide +kernel
theorem b_189_173_1 : ov_ds ov_m189.2.1 173 [.iconst 0] = true := by decide +kernel
theorem d_189_174 : decode ov_m189.2.1 174 = .ok (.iaload, 1) := by decide +kernel
theorem b_189_175_1 : ov_ds ov_m189.2.1 175 [.iadd] = true := by decide +kernel
theorem b_189_176_3 : ov_ds ov_m189.2.1 176 [.iload_n 3, .iconst 1, .iadd] = true := by decide +kernel
theorem b_189_179_14 : ov_ds ov_m189.2.1 179 [.lload 4, .iload 9, .i2l, .iload_n 3, .lshl, .lor, .lload 6, .lconst 1, .iload 12, .lshl, .lor, .iload 8, .iload 11, .iadd] = true := by decide +kernel
theorem d_189_199 : decode ov_m189.2.1 199 = .ok (.invokevirtual 97, 3) := by decide +kernel
theorem b_189_11_1 : ov_ds ov_m189.2.1 11 [.aload_n 0] = true := by decide +kernel
theorem d_189_12 : decode ov_m189.2.1 12 = .ok (.getfield 82, 3) := by decide +kernel
theorem b_189_15_2 : ov_ds ov_m189.2.1 15 [.iload_n 1, .iload_n 2] = true := by decide +kernel
theorem d_189_17 : decode ov_m189.2.1 17 = .ok (.ldc 101, 2) := by decide +kernel
theorem d_189_19 : decode ov_m189.2.1 19 = .ok (.invokevirtual 102, 3) := by decide +kernel
theorem b_189_22_3 : ov_ds ov_m189.2.1 22 [.istore 9, .iload 9, .iconst (-1)] = true := by decide +kernel
theorem d_189_27 : decode ov_m189.2.1 27 = .ok (.if_icmp .eq 59, 3) := by decide +kernel
theorem d_189_86 : decode ov_m189.2.1 86 = .ok (.return_, 1) := by decide +kernel
theorem b_189_30_3 : ov_ds ov_m189.2.1 30 [.iload 8, .iload 9, .iadd] = true := by decide +kernel
theorem b_189_35_1 : ov_ds ov_m189.2.1 35 [.aload_n 0] = true := by decide +kernel
theorem d_189_36 : decode ov_m189.2.1 36 = .ok (.getfield 82, 3) := by decide +kernel
theorem d_189_39 : decode ov_m189.2.1 39 = .ok (.getfield 107, 3) := by decide +kernel
theorem d_189_42 : decode ov_m189.2.1 42 = .ok (.if_icmp .ne 44, 3) := by decide +kernel
theorem b_189_45_2 : ov_ds ov_m189.2.1 45 [.aload_n 0, .aload_n 0] = true := by decide +kernel
theorem d_189_47 : decode ov_m189.2.1 47 = .ok (.getfield 86, 3) := by decide +kernel
theorem d_189_50 : decode ov_m189.2.1 50 = .ok (.ifCond .ne 8, 3) := by decide +kernel
theorem b_189_58_1 : ov_ds ov_m189.2.1 58 [.aload_n 0] = true := by decide +kernel
theorem d_189_59 : decode ov_m189.2.1 59 = .ok (.getfield 89, 3) := by decide +kernel
theorem d_189_62 : decode ov_m189.2.1 62 = .ok (.putfield 89, 3) := by decide +kernel
theorem b_189_65_2 : ov_ds ov_m189.2.1 65 [.aload_n 0, .dup] = true := by decide +kernel
theorem d_189_67 : decode ov_m189.2.1 67 = .ok (.getfield 86, 3) := by decide +kernel
theorem b_189_70_2 : ov_ds ov_m189.2.1 70 [.iconst 1, .iadd] = true := by decide +kernel
theorem d_189_72 : decode ov_m189.2.1 72 = .ok (.putfield 86, 3) := by decide +kernel
theorem b_189_75_2 : ov_ds ov_m189.2.1 75 [.aload_n 0, .dup] = true := by decide +kernel
theorem d_189_77 : decode ov_m189.2.1 77 = .ok (.getfield 95, 3) := by decide +kernel
theorem b_189_80_2 : ov_ds ov_m189.2.1 80 [.lload 6, .land] = true := by decide +kernel
theorem d_189_83 : decode ov_m189.2.1 83 = .ok (.putfield 95, 3) := by decide +kernel
theorem b_189_53_1 : ov_ds ov_m189.2.1 53 [.lload 4] = true := by decide +kernel
theorem d_189_55 : decode ov_m189.2.1 55 = .ok (.goto 7, 3) := by decide +kernel
theorem b_188_0_2 : ov_ds ov_m188.2.1 0 [.aload_n 0, .aload_n 1] = true := by decide +kernel
theorem d_188_2 : decode ov_m188.2.1 2 = .ok (.putfield 18, 3) := by decide +kernel
theorem b_188_5_2 : ov_ds ov_m188.2.1 5 [.aload_n 0, .aload_n 2] = true := by decide +kernel
theorem d_188_7 : decode ov_m188.2.1 7 = .ok (.putfield 82, 3) := by decide +kernel
theorem b_188_10_2 : ov_ds ov_m188.2.1 10 [.aload_n 0, .iconst 0] = true := by decide +kernel
theorem d_188_12 : decode ov_m188.2.1 12 = .ok (.putfield 86, 3) := by decide +kernel
theorem b_188_15_2 : ov_ds ov_m188.2.1 15 [.aload_n 0, .lconst 0] = true := by decide +kernel
theorem d_188_17 : decode ov_m188.2.1 17 = .ok (.putfield 89, 3) := by decide +kernel
theorem b_188_20_1 : ov_ds ov_m188.2.1 20 [.aload_n 0] = true := by decide +kernel
theorem d_188_21 : decode ov_m188.2.1 21 = .ok (.ldc2_w 93, 3) := by decide +kernel
theorem d_188_24 : decode ov_m188.2.1 24 = .ok (.putfield 95, 3) := by decide +kernel
theorem b_188_27_7 : ov_ds ov_m188.2.1 27 [.aload_n 0, .iconst 0, .iconst 0, .iconst 0, .lconst 0, .lconst 1, .iconst 0] = true := by decide +kernel
theorem d_188_34 : decode ov_m188.2.1 34 = .ok (.invokevirtual 97, 3) := by decide +kernel
theorem d_188_37 : decode ov_m188.2.1 37 = .ok (.return_, 1) := by decide +kernel
theorem b_191_0_4 : ov_ds ov_m191.2.1 0 [.lconst 0, .lstore_n 3, .iload_n 1, .istore 5] = true := by decide +kernel
theorem b_191_5_2 : ov_ds ov_m191.2.1 5 [.iload 5, .iload_n 2] = true := by decide +kernel
theorem d_191_8 : decode ov_m191.2.1 8 = .ok (.if_icmp .ge 38, 3) := by decide +kernel
theorem b_191_46_1 : ov_ds ov_m191.2.1 46 [.lload_n 3] = true := by decide +kernel
theorem d_191_47 : decode ov_m191.2.1 47 = .ok (.lreturn, 1) := by decide +kernel
theorem b_191_11_1 : ov_ds ov_m191.2.1 11 [.aload_n 0] = true := by decide +kernel
theorem d_191_12 : decode ov_m191.2.1 12 = .ok (.getfield 95, 3) := by decide +kernel
theorem b_191_15_4 : ov_ds ov_m191.2.1 15 [.iload 5, .bipush 6, .imul, .lshr] = true := by decide +kernel
theorem d_191_21 : decode ov_m191.2.1 21 = .ok (.ldc2_w 110, 3) := by decide +kernel
theorem b_191_24_13 : ov_ds ov_m191.2.1 24 [.land, .lstore 6, .lload_n 3, .lload 6, .bipush 8, .iload 5, .iload_n 1, .isub, .imul, .lshl, .lor, .lstore_n 3, .iinc 5 1] = true := by decide +kernel
theorem d_191_43 : decode ov_m191.2.1 43 = .ok (.goto (-38), 3) := by decide +kernel
abbrev P_Ways_turnedCell (F : ov_H) (z : ov_Z) (h : ov_H) (c : Int) (w : Int) (t : Int) : Option ov_V → ov_Z → ov_H → Prop := fun r0 z' h' => ∃ r : Int, r0 = some (ov_i r) ∧ z = z' ∧ h = h' ∧ (r = (c * 2 + w) * 13 + t)
set_option maxHeartbeats 4000000 in
theorem c_Ways_turnedCell {u : ov_U} {F : ov_H} {z : ov_Z} {h : ov_H} (d : Nat) (hd : 0 ≤ d) (U : ov_cap u) (I : ov_I F z h) (c : Int) (w : Int) (t : Int) (g_c : ov_g c) (g_w : ov_g w) (g_t : ov_g t) (p0 : 0 ≤ c ∧ c ≤ 53) (p1 : 0 ≤ w ∧ w ≤ 1) (p2 : 0 ≤ t ∧ t ≤ 12) : ov_T u d ov_m154 [ov_i c, ov_i w, ov_i t] z h (P_Ways_turnedCell F z h c w t) := by
  refine ov_en rfl (Nat.le_of_ble_eq_true rfl) ?_
  show ov_R u d ov_m154 0 [(0, ov_i c), (1, ov_i w), (2, ov_i t)] [] z h (P_Ways_turnedCell F z h c w t)
  refine ov_blk (ls2 := [(0, ov_i c), (1, ov_i w), (2, ov_i t)]) (st2 := [ov_i ((((c * 2) + w) * 13) + t)]) (pc2 := 10) b_154_0_9 rfl rfl ?_
  exact ov_reti (st := []) d_154_10 rfl ⟨_, rfl, rfl, rfl, (by show ((((c * 2) + w) * 13) + t) = (c * 2 + w) * 13 + t; omega)⟩
abbrev P_Ways_afterStreet_46_k46_3_58 (F : ov_H) (z : ov_Z) (h : ov_H) (c : Int) (way : Int) (s : Int) : Option ov_V → ov_Z → ov_H → Prop := fun r0 z' h' => ∃ r : Int, r0 = some (ov_i r) ∧ z = z' ∧ h = h' ∧ (-2147483648 ≤ r ∧ r ≤ 2147483647)
set_option maxHeartbeats 4000000 in
theorem c_Ways_afterStreet_46_k46_3_58 {u : ov_U} {F : ov_H} {z : ov_Z} {h : ov_H} (d : Nat) (hd : 2 ≤ d) (U : ov_cap u) (I : ov_I F z h) (c : Int) (way : Int) (s : Int) (k0 : h 46 3 = 58) (g_c : ov_g c) (g_way : ov_g way) (g_s : ov_g s) (p0 : 0 ≤ c ∧ c ≤ 53) : ov_T u d ov_m117 [ov_r 46, ov_i c, ov_i way, ov_i s] z h (P_Ways_afterStreet_46_k46_3_58 F z h c way s) := by
  refine ov_en rfl (Nat.le_of_ble_eq_true rfl) ?_
  show ov_R u d ov_m117 0 [(0, ov_r 46), (1, ov_i c), (2, ov_i way), (3, ov_i s)] [] z h (P_Ways_afterStreet_46_k46_3_58 F z h c way s)
  refine ov_blk (ls2 := [(0, ov_r 46), (1, ov_i c), (2, ov_i way), (3, ov_i s)]) (st2 := [ov_r 46, ov_i s]) (pc2 := 2) b_117_0_2 rfl rfl ?_
  refine ov_getf (v := ov_r 58) d_117_2 fl_Ways_18 (zb_46 I) (zs_46 I) (congrArg ov_r k0) ?_
  refine ov_blk (ls2 := [(0, ov_r 46), (1, ov_i c), (2, ov_i way), (3, ov_i s)]) (st2 := [ov_i s, ov_i way, ov_i c, ov_r 58, ov_i s]) (pc2 := 8) b_117_5_3 rfl rfl ?_
  refine ov_cV (as := [ov_i c, ov_i way, ov_i s]) (st := [ov_i s]) (d2 := d - 1) d_117_8 lk_Ways_53 rfl (Nat.le_of_ble_eq_true rfl) (c := 9) (zb_58 I) (zs_58 I) ⟨by decide, rfl⟩ (by omega) (c_Town_waitFor_58 (d - 1) (by omega) U I c way s (by omega) (by omega) (by omega) (by omega)) ?_
  rintro _ _ _ ⟨v2, rfl, rfl, rfl, f1⟩
  show ov_R u d ov_m117 11 [(0, ov_r 46), (1, ov_i c), (2, ov_i way), (3, ov_i s)] [ov_i v2, ov_i s] z h (P_Ways_afterStreet_46_k46_3_58 F z h c way s)
  have f3 : 0 ≤ v2 ∧ v2 ≤ 60 := f1
  clear f1
  refine ov_blk (ls2 := [(0, ov_r 46), (1, ov_i c), (2, ov_i way), (3, ov_i s)]) (st2 := [ov_i (s + v2)]) (pc2 := 12) b_117_11_1 rfl rfl ?_
  refine ov_havw (fun w4 gw4 qw4 => ?_)
  refine ov_blk (ls2 := [(0, ov_r 46), (1, ov_i c), (2, ov_i way), (3, ov_i s)]) (st2 := [ov_r 46, ov_i w4]) (pc2 := 13) b_117_12_1 rfl rfl ?_
  refine ov_getf (v := ov_r 58) d_117_13 fl_Ways_18 (zb_46 I) (zs_46 I) (congrArg ov_r k0) ?_
  refine ov_getf (v := ov_r 64) d_117_16 fl_Ways_56 (zb_58 I) (zs_58 I) (congrArg ov_r (rg_58_7 I)) ?_
  refine ov_blk (ls2 := [(0, ov_r 46), (1, ov_i c), (2, ov_i way), (3, ov_i s)]) (st2 := [ov_i 0, ov_r 64, ov_i w4]) (pc2 := 20) b_117_19_1 rfl rfl ?_
  refine ov_iald d_117_20 (zb_64 I) (zs_64 I) (by omega) ?_
  have g5 := ra_64 I 0
  refine ov_blk (ls2 := [(0, ov_r 46), (1, ov_i c), (2, ov_i way), (3, ov_i s)]) (st2 := [ov_i (w4 + (h 64 0))]) (pc2 := 22) b_117_21_1 rfl rfl ?_
  refine ov_havw (fun w6 gw6 qw6 => ?_)
  exact ov_reti (st := []) d_117_22 rfl ⟨_, rfl, rfl, rfl, (by show -2147483648 ≤ w6 ∧ w6 ≤ 2147483647; omega)⟩
abbrev P_Ways_pass_46_k46_3_58 (F : ov_H) (z : ov_Z) (h : ov_H) (c : Int) (way : Int) : Option ov_V → ov_Z → ov_H → Prop := fun r0 z' h' => r0 = none ∧ ov_I F z' h' ∧ ((h' 36 7) = (h 36 7) ∧ (h' 1 1) = (h 1 1) ∧ (h' 90 2) = (h 90 2) ∧ (h' 0 10) = (h 0 10) ∧ (h' 0 11) = (h 0 11) ∧ (h' 0 12) = (h 0 12) ∧ (h' 0 13) = (h 0 13) ∧ (h' 3 1) = (h 3 1) ∧ (h' 36 8) = (h 36 8) ∧ (h' 46 3) = (h 46 3) ∧ (h' 46 4) = (h 46 4) ∧ (h' 49 4) = (h 49 4) ∧ (h' 49 5) = (h 49 5) ∧ (h' 64 0) = (h 64 0) ∧ (h' 76 0) = (h 76 0))
set_option maxHeartbeats 4000000 in
theorem c_Ways_pass_46_k46_3_58 {u : ov_U} {F : ov_H} {z : ov_Z} {h : ov_H} (d : Nat) (hd : 3 ≤ d) (U : ov_cap u) (I : ov_I F z h) (c : Int) (way : Int) (k0 : h 46 3 = 58) (g_c : ov_g c) (g_way : ov_g way) (p0 : 0 ≤ c ∧ c ≤ 53) : ov_T u d ov_m116 [ov_r 46, ov_i c, ov_i way] z h (P_Ways_pass_46_k46_3_58 F z h c way) := by
  refine ov_en rfl (Nat.le_of_ble_eq_true rfl) ?_
  show ov_R u d ov_m116 0 [(0, ov_r 46), (1, ov_i c), (2, ov_i way)] [] z h (P_Ways_pass_46_k46_3_58 F z h c way)
  refine ov_blk (ls2 := [(0, ov_r 46), (1, ov_i c), (2, ov_i way)]) (st2 := [ov_r 46]) (pc2 := 1) b_116_0_1 rfl rfl ?_
  refine ov_getf (v := ov_r 58) d_116_1 fl_Ways_18 (zb_46 I) (zs_46 I) (congrArg ov_r k0) ?_
  refine ov_blk (ls2 := [(0, ov_r 46), (1, ov_i c), (2, ov_i way)]) (st2 := [ov_i way, ov_i c, ov_r 58]) (pc2 := 6) b_116_4_2 rfl rfl ?_
  refine ov_cV (as := [ov_i c, ov_i way]) (st := []) (d2 := d - 1) d_116_6 lk_Ways_38 rfl (Nat.le_of_ble_eq_true rfl) (c := 9) (zb_58 I) (zs_58 I) ⟨by decide, rfl⟩ (by omega) (c_Town_isOpen_58 (d - 1) (by omega) U I c way (by omega) (by omega) (by omega)) ?_
  rintro _ _ _ ⟨v2, rfl, rfl, rfl, f1⟩
  show ov_R u d ov_m116 9 [(0, ov_r 46), (1, ov_i c), (2, ov_i way)] [ov_i v2] z h (P_Ways_pass_46_k46_3_58 F z h c way)
  have f3 : (v2 = 0 ∨ v2 = 1) ∧ (v2 = 1 → (way = 0 ∧ c ≤ 52) ∨ (way = 1 ∧ c ≤ 47)) := f1
  clear f1
  refine ov_ifeq (tgt := 49) d_116_9 (by decide) (by omega) (fun c4 => ?_) (fun c4 => ?_)
  · skip
    exact ov_retv (st := []) d_116_49 rfl ⟨rfl, I, (by show (h 36 7) = (h 36 7) ∧ (h 1 1) = (h 1 1) ∧ (h 90 2) = (h 90 2) ∧ (h 0 10) = (h 0 10) ∧ (h 0 11) = (h 0 11) ∧ (h 0 12) = (h 0 12) ∧ (h 0 13) = (h 0 13) ∧ (h 3 1) = (h 3 1) ∧ (h 36 8) = (h 36 8) ∧ (h 46 3) = (h 46 3) ∧ (h 46 4) = (h 46 4) ∧ (h 49 4) = (h 49 4) ∧ (h 49 5) = (h 49 5) ∧ (h 64 0) = (h 64 0) ∧ (h 76 0) = (h 76 0); omega)⟩
  · skip
    refine ov_blk (ls2 := [(0, ov_r 46), (1, ov_i c), (2, ov_i way)]) (st2 := [ov_r 46]) (pc2 := 13) b_116_12_1 rfl rfl ?_
    refine ov_getf (v := ov_r 58) d_116_13 fl_Ways_18 (zb_46 I) (zs_46 I) (congrArg ov_r k0) ?_
    refine ov_blk (ls2 := [(0, ov_r 46), (1, ov_i c), (2, ov_i way)]) (st2 := [ov_i way, ov_i c, ov_r 58]) (pc2 := 18) b_116_16_2 rfl rfl ?_
    refine ov_cV (as := [ov_i c, ov_i way]) (st := []) (d2 := d - 1) d_116_18 lk_Ways_42 rfl (Nat.le_of_ble_eq_true rfl) (c := 9) (zb_58 I) (zs_58 I) ⟨by decide, rfl⟩ (by omega) (c_Town_after_58 (d - 1) (by omega) U I c way (by omega) (by omega) (by omega)) ?_
    rintro _ _ _ ⟨v6, rfl, rfl, rfl, f5⟩
    show ov_R u d ov_m116 21 [(0, ov_r 46), (1, ov_i c), (2, ov_i way)] [ov_i v6] z h (P_Ways_pass_46_k46_3_58 F z h c way)
    have f7 : (way = 0 → v6 = c + 1) ∧ (¬ way = 0 → v6 = c + 6) := f5
    clear f5
    refine ov_blk (ls2 := [(0, ov_r 46), (1, ov_i c), (2, ov_i way), (3, ov_i v6)]) (st2 := [ov_r 46]) (pc2 := 23) b_116_21_2 rfl rfl ?_
    refine ov_getf (v := ov_r 47) d_116_23 fl_Ways_9 (zb_46 I) (zs_46 I) (congrArg ov_r (rg_46_5 I)) ?_
    refine ov_blk (ls2 := [(0, ov_r 46), (1, ov_i c), (2, ov_i way), (3, ov_i v6)]) (st2 := [ov_r 46, ov_i v6, ov_r 47]) (pc2 := 28) b_116_26_2 rfl rfl ?_
    refine ov_getf (v := ov_r 47) d_116_28 fl_Ways_9 (zb_46 I) (zs_46 I) (congrArg ov_r (rg_46_5 I)) ?_
    refine ov_blk (ls2 := [(0, ov_r 46), (1, ov_i c), (2, ov_i way), (3, ov_i v6)]) (st2 := [ov_i v6, ov_r 47, ov_i v6, ov_r 47]) (pc2 := 32) b_116_31_1 rfl rfl ?_
    refine ov_iald d_116_32 (zb_47 I) (zs_47 I) (by omega) ?_
    have g8 := ra_47 I v6
    refine ov_blk (ls2 := [(0, ov_r 46), (1, ov_i c), (2, ov_i way), (3, ov_i v6)]) (st2 := [ov_r 46, ov_i way, ov_i c, ov_r 46, ov_i (h 47 v6), ov_i v6, ov_r 47]) (pc2 := 37) b_116_33_4 rfl rfl ?_
    refine ov_getf (v := ov_r 47) d_116_37 fl_Ways_9 (zb_46 I) (zs_46 I) (congrArg ov_r (rg_46_5 I)) ?_
    refine ov_blk (ls2 := [(0, ov_r 46), (1, ov_i c), (2, ov_i way), (3, ov_i v6)]) (st2 := [ov_i c, ov_r 47, ov_i way, ov_i c, ov_r 46, ov_i (h 47 v6), ov_i v6, ov_r 47]) (pc2 := 41) b_116_40_1 rfl rfl ?_
    refine ov_iald d_116_41 (zb_47 I) (zs_47 I) (by omega) ?_
    have g9 := ra_47 I c
    refine ov_cV (as := [ov_i c, ov_i way, ov_i (h 47 c)]) (st := [ov_i (h 47 v6), ov_i v6, ov_r 47]) (d2 := d - 1) d_116_42 lk_Ways_46 rfl (Nat.le_of_ble_eq_true rfl) (c := 12) (zb_46 I) (zs_46 I) ⟨by decide, rfl⟩ (by omega) (c_Ways_afterStreet_46_k46_3_58 (d - 1) (by omega) U I c way (h 47 c) k0 (by omega) (by omega) (by omega) (by omega)) ?_
    rintro _ _ _ ⟨v11, rfl, rfl, rfl, f10⟩
    show ov_R u d ov_m116 45 [(0, ov_r 46), (1, ov_i c), (2, ov_i way), (3, ov_i v6)] [ov_i v11, ov_i (h 47 v6), ov_i v6, ov_r 47] z h (P_Ways_pass_46_k46_3_58 F z h c way)
    have f12 : -2147483648 ≤ v11 ∧ v11 ≤ 2147483647 := f10
    clear f10
    refine ov_cSN (as := [ov_i (h 47 v6), ov_i v11]) (st := [ov_i v6, ov_r 47]) (d2 := d - 1) d_116_45 lk_Ways_50 rfl (Nat.le_of_ble_eq_true rfl) (by omega) (c_OF_lesser (d - 1) (by omega) U I (h 47 v6) v11 (by omega) (by omega)) ?_
    rintro _ _ _ ⟨v14, rfl, rfl, rfl, f13⟩
    show ov_R u d ov_m116 48 [(0, ov_r 46), (1, ov_i c), (2, ov_i way), (3, ov_i v6)] [ov_i v14, ov_i v6, ov_r 47] z h (P_Ways_pass_46_k46_3_58 F z h c way)
    have f15 : (v14 = (h 47 v6) ∨ v14 = v11) := f13
    clear f13
    refine ov_iast d_116_48 (zb_47 I) (zs_47 I) (by omega) ?_
    have I16 := ua_47 (k := v6) (x := v14) I (by omega)
    exact ov_retv (st := []) d_116_49 rfl ⟨rfl, I16, (by show (h 36 7) = (h 36 7) ∧ (h 1 1) = (h 1 1) ∧ (h 90 2) = (h 90 2) ∧ (h 0 10) = (h 0 10) ∧ (h 0 11) = (h 0 11) ∧ (h 0 12) = (h 0 12) ∧ (h 0 13) = (h 0 13) ∧ (h 3 1) = (h 3 1) ∧ (h 36 8) = (h 36 8) ∧ (h 46 3) = (h 46 3) ∧ (h 46 4) = (h 46 4) ∧ (h 49 4) = (h 49 4) ∧ (h 49 5) = (h 49 5) ∧ (h 64 0) = (h 64 0) ∧ (h 76 0) = (h 76 0); omega)⟩
abbrev P_Ways_arrival_46_58 (F : ov_H) (z : ov_Z) (h : ov_H) (c : Int) (s : Int) : Option ov_V → ov_Z → ov_H → Prop := fun r0 z' h' => ∃ r : Int, r0 = some (ov_i r) ∧ ov_I F z' h' ∧ (-2147483648 ≤ r ∧ r ≤ 2147483647 ∧ (h' 46 3) = 58 ∧ (h' 36 7) = (h 36 7) ∧ (h' 1 1) = (h 1 1) ∧ (h' 90 2) = (h 90 2) ∧ (h' 0 10) = (h 0 10) ∧ (h' 0 11) = (h 0 11) ∧ (h' 0 12) = (h 0 12) ∧ (h' 0 13) = (h 0 13) ∧ (h' 3 1) = (h 3 1) ∧ (h' 36 8) = (h 36 8) ∧ (h' 46 4) = (h 46 4) ∧ (h' 49 4) = (h 49 4) ∧ (h' 49 5) = (h 49 5) ∧ (h' 64 0) = (h 64 0) ∧ (h' 76 0) = (h 76 0))
set_option maxHeartbeats 4000000 in
theorem c_Ways_arrival_46_58 {u : ov_U} {F : ov_H} {z : ov_Z} {h : ov_H} (d : Nat) (hd : 4 ≤ d) (U : ov_cap u) (I : ov_I F z h) (c : Int) (s : Int) (g_c : ov_g c) (g_s : ov_g s) (p0 : 0 ≤ c ∧ c ≤ 53) (p1 : F (-5) 58 = 1) : ov_T u d ov_m114 [ov_r 46, ov_r 58, ov_i c, ov_i s] z h (P_Ways_arrival_46_58 F z h c s) := by
  refine ov_en rfl (Nat.le_of_ble_eq_true rfl) ?_
  show ov_R u d ov_m114 0 [(0, ov_r 46), (1, ov_r 58), (2, ov_i c), (3, ov_i s)] [] z h (P_Ways_arrival_46_58 F z h c s)
  refine ov_blk (ls2 := [(0, ov_r 46), (1, ov_r 58), (2, ov_i c), (3, ov_i s)]) (st2 := [ov_r 58, ov_r 46]) (pc2 := 2) b_114_0_2 rfl rfl ?_
  refine ov_putf (x := 58) d_114_2 fl_Ways_18 (zb_46 I) (zs_46 I) rfl nk_2 rfl ?_
  have I1 := up_46_3 (x := 58) I (by omega)
  refine ov_blk (ls2 := [(0, ov_r 46), (1, ov_r 58), (2, ov_i c), (3, ov_i s)]) (st2 := [ov_r 46]) (pc2 := 6) b_114_5_1 rfl rfl ?_
  refine ov_getf (v := ov_r 47) d_114_6 fl_Ways_9 (zb_46 I1) (zs_46 I1) (congrArg ov_r (rg_46_5 I1)) ?_
  refine ov_blk (ls2 := [(0, ov_r 46), (1, ov_r 58), (2, ov_i c), (3, ov_i s)]) (st2 := [ov_i (-1), ov_r 47]) (pc2 := 10) b_114_9_1 rfl rfl ?_
  refine ov_cS (as := [ov_r 47, ov_i (-1)]) (st := []) (d2 := d - 1) d_114_10 lk_Ways_22 rfl (Nat.le_of_ble_eq_true rfl) (by omega) (c_Arrays_fill_AIIV_47 (d - 1) (by omega) U I1 (-1) (by omega) (by omega)) ?_
  rintro _ z3 h4 ⟨rfl, I5, f2⟩
  show ov_R u d ov_m114 13 [(0, ov_r 46), (1, ov_r 58), (2, ov_i c), (3, ov_i s)] [] z3 h4 (P_Ways_arrival_46_58 F z h c s)
  have f6 : (h4 36 7) = (h 36 7) ∧ (h4 1 1) = (h 1 1) ∧ (h4 90 2) = (h 90 2) ∧ (h4 0 10) = (h 0 10) ∧ (h4 0 11) = (h 0 11) ∧ (h4 0 12) = (h 0 12) ∧ (h4 0 13) = (h 0 13) ∧ (h4 3 1) = (h 3 1) ∧ (h4 36 8) = (h 36 8) ∧ (h4 46 3) = 58 ∧ (h4 46 4) = (h 46 4) ∧ (h4 49 4) = (h 49 4) ∧ (h4 49 5) = (h 49 5) ∧ (h4 64 0) = (h 64 0) ∧ (h4 76 0) = (h 76 0) := f2
  clear f2
  have e7 : h4 46 3 = 58 := by omega
  refine ov_blk (ls2 := [(0, ov_r 46), (1, ov_r 58), (2, ov_i c), (3, ov_i s)]) (st2 := [ov_r 46]) (pc2 := 14) b_114_13_1 rfl rfl ?_
  refine ov_getf (v := ov_r 47) d_114_14 fl_Ways_9 (zb_46 I5) (zs_46 I5) (congrArg ov_r (rg_46_5 I5)) ?_
  refine ov_blk (ls2 := [(0, ov_r 46), (1, ov_r 58), (2, ov_i c), (3, ov_i s)]) (st2 := [ov_i s, ov_i c, ov_r 47]) (pc2 := 19) b_114_17_2 rfl rfl ?_
  refine ov_iast d_114_19 (zb_47 I5) (zs_47 I5) (by omega) ?_
  have I8 := ua_47 (k := c) (x := s) I5 (by omega)
  refine ov_blk (ls2 := [(0, ov_r 46), (1, ov_r 58), (2, ov_i c), (3, ov_i s)]) (st2 := [ov_r 46]) (pc2 := 21) b_114_20_1 rfl rfl ?_
  refine ov_getf (v := ov_r 58) d_114_21 fl_Ways_18 (zb_46 I8) (zs_46 I8) (congrArg ov_r e7) ?_
  refine ov_cV (as := []) (st := []) (d2 := d - 1) d_114_24 lk_Ways_28 rfl (Nat.le_of_ble_eq_true rfl) (c := 9) (zb_58 I8) (zs_58 I8) ⟨by decide, rfl⟩ (by omega) (c_Town_home_58 (d - 1) (by omega) U I8 (by omega)) ?_
  rintro _ _ _ ⟨v10, rfl, rfl, rfl, f9⟩
  show ov_R u d ov_m114 27 [(0, ov_r 46), (1, ov_r 58), (2, ov_i c), (3, ov_i s)] [ov_i v10] z3 (ov_up h4 47 c s) (P_Ways_arrival_46_58 F z h c s)
  have f11 : v10 = ((h4 58 1) - 1) * 6 + (h4 58 0) - 1 ∧ 0 ≤ v10 ∧ v10 ≤ 53 := f9
  clear f9
  refine ov_blk (ls2 := [(0, ov_r 46), (1, ov_r 58), (2, ov_i c), (3, ov_i s), (4, ov_i v10), (5, ov_i c)]) (st2 := []) (pc2 := 32) b_114_27_3 rfl rfl ?_
  have L15 : ∀ (n12 : Nat) (x5 : Int) (z16 : ov_Z) (h17 : ov_H) (I18 : ov_I F z16 h17) (q14 : 0 ≤ x5 ∧ x5 ≤ 53 ∧ (h17 36 7) = (h 36 7) ∧ (h17 1 1) = (h 1 1) ∧ (h17 90 2) = (h 90 2) ∧ (h17 0 10) = (h 0 10) ∧ (h17 0 11) = (h 0 11) ∧ (h17 0 12) = (h 0 12) ∧ (h17 0 13) = (h 0 13) ∧ (h17 3 1) = (h 3 1) ∧ (h17 36 8) = (h 36 8) ∧ (h17 46 4) = (h 46 4) ∧ (h17 49 4) = (h 49 4) ∧ (h17 49 5) = (h 49 5) ∧ (h17 64 0) = (h 64 0) ∧ (h17 76 0) = (h 76 0) ∧ h17 46 3 = 58), 53 - x5 < (n12 : Int) → ov_R u d ov_m114 32 [(0, ov_r 46), (1, ov_r 58), (2, ov_i c), (3, ov_i s), (4, ov_i v10), (5, ov_i x5)] [] z16 h17 (P_Ways_arrival_46_58 F z h c s) := by
    intro n12
    induction n12 with
    | zero =>
      intro x5 z16 h17 I18 q14 hn19
      exact absurd hn19 (by omega)
    | succ n12 ih13 =>
      intro x5 z16 h17 I18 q14 hn19
      have e20 : h17 46 3 = 58 := by omega
      refine ov_blk (ls2 := [(0, ov_r 46), (1, ov_r 58), (2, ov_i c), (3, ov_i s), (4, ov_i v10), (5, ov_i x5)]) (st2 := [ov_i v10, ov_i x5]) (pc2 := 36) b_114_32_2 rfl rfl ?_
      refine ov_icge (tgt := 70) d_114_36 (by decide) (by omega) (by omega) (fun c21 => ?_) (fun c21 => ?_)
      · skip
        refine ov_blk (ls2 := [(0, ov_r 46), (1, ov_r 58), (2, ov_i c), (3, ov_i s), (4, ov_i v10), (5, ov_i x5)]) (st2 := [ov_r 46]) (pc2 := 71) b_114_70_1 rfl rfl ?_
        refine ov_getf (v := ov_r 47) d_114_71 fl_Ways_9 (zb_46 I18) (zs_46 I18) (congrArg ov_r (rg_46_5 I18)) ?_
        refine ov_blk (ls2 := [(0, ov_r 46), (1, ov_r 58), (2, ov_i c), (3, ov_i s), (4, ov_i v10), (5, ov_i x5)]) (st2 := [ov_i v10, ov_r 47]) (pc2 := 76) b_114_74_1 rfl rfl ?_
        refine ov_iald d_114_76 (zb_47 I18) (zs_47 I18) (by omega) ?_
        have g22 := ra_47 I18 v10
        exact ov_reti (st := []) d_114_77 rfl ⟨_, rfl, I18, (by show -2147483648 ≤ (h17 47 v10) ∧ (h17 47 v10) ≤ 2147483647 ∧ (h17 46 3) = 58 ∧ (h17 36 7) = (h 36 7) ∧ (h17 1 1) = (h 1 1) ∧ (h17 90 2) = (h 90 2) ∧ (h17 0 10) = (h 0 10) ∧ (h17 0 11) = (h 0 11) ∧ (h17 0 12) = (h 0 12) ∧ (h17 0 13) = (h 0 13) ∧ (h17 3 1) = (h 3 1) ∧ (h17 36 8) = (h 36 8) ∧ (h17 46 4) = (h 46 4) ∧ (h17 49 4) = (h 49 4) ∧ (h17 49 5) = (h 49 5) ∧ (h17 64 0) = (h 64 0) ∧ (h17 76 0) = (h 76 0); omega)⟩
      · skip
        refine ov_blk (ls2 := [(0, ov_r 46), (1, ov_r 58), (2, ov_i c), (3, ov_i s), (4, ov_i v10), (5, ov_i x5)]) (st2 := [ov_r 46]) (pc2 := 40) b_114_39_1 rfl rfl ?_
        refine ov_getf (v := ov_r 47) d_114_40 fl_Ways_9 (zb_46 I18) (zs_46 I18) (congrArg ov_r (rg_46_5 I18)) ?_
        refine ov_blk (ls2 := [(0, ov_r 46), (1, ov_r 58), (2, ov_i c), (3, ov_i s), (4, ov_i v10), (5, ov_i x5)]) (st2 := [ov_i x5, ov_r 47]) (pc2 := 45) b_114_43_1 rfl rfl ?_
        refine ov_iald d_114_45 (zb_47 I18) (zs_47 I18) (by omega) ?_
        have g23 := ra_47 I18 x5
        refine ov_blk (ls2 := [(0, ov_r 46), (1, ov_r 58), (2, ov_i c), (3, ov_i s), (4, ov_i v10), (5, ov_i x5)]) (st2 := [ov_i (-1), ov_i (h17 47 x5)]) (pc2 := 47) b_114_46_1 rfl rfl ?_
        refine ov_iceq (tgt := 64) d_114_47 (by decide) (by omega) (by omega) (fun c24 => ?_) (fun c24 => ?_)
        · skip
          refine ov_blk (ls2 := [(0, ov_r 46), (1, ov_r 58), (2, ov_i c), (3, ov_i s), (4, ov_i v10), (5, ov_i (x5 + 1))]) (st2 := []) (pc2 := 67) b_114_64_1 rfl rfl ?_
          refine ov_goto (tgt := 32) d_114_67 (by decide) ?_
          exact ih13 (x5 + 1) _ _ I18 (by show 0 ≤ (x5 + 1) ∧ (x5 + 1) ≤ 53 ∧ (h17 36 7) = (h 36 7) ∧ (h17 1 1) = (h 1 1) ∧ (h17 90 2) = (h 90 2) ∧ (h17 0 10) = (h 0 10) ∧ (h17 0 11) = (h 0 11) ∧ (h17 0 12) = (h 0 12) ∧ (h17 0 13) = (h 0 13) ∧ (h17 3 1) = (h 3 1) ∧ (h17 36 8) = (h 36 8) ∧ (h17 46 4) = (h 46 4) ∧ (h17 49 4) = (h 49 4) ∧ (h17 49 5) = (h 49 5) ∧ (h17 64 0) = (h 64 0) ∧ (h17 76 0) = (h 76 0) ∧ (h17 46 3) = 58; omega) (by omega)
        · skip
          refine ov_blk (ls2 := [(0, ov_r 46), (1, ov_r 58), (2, ov_i c), (3, ov_i s), (4, ov_i v10), (5, ov_i x5)]) (st2 := [ov_i 0, ov_i x5, ov_r 46]) (pc2 := 54) b_114_50_3 rfl rfl ?_
          refine ov_cV (as := [ov_i x5, ov_i 0]) (st := []) (d2 := d - 1) d_114_54 lk_Ways_34 rfl (Nat.le_of_ble_eq_true rfl) (c := 12) (zb_46 I18) (zs_46 I18) ⟨by decide, rfl⟩ (by omega) (c_Ways_pass_46_k46_3_58 (d - 1) (by omega) U I18 x5 0 e20 (by omega) (by omega) (by omega)) ?_
          rintro _ z26 h27 ⟨rfl, I28, f25⟩
          show ov_R u d ov_m114 57 [(0, ov_r 46), (1, ov_r 58), (2, ov_i c), (3, ov_i s), (4, ov_i v10), (5, ov_i x5)] [] z26 h27 (P_Ways_arrival_46_58 F z h c s)
          have f29 : (h27 36 7) = (h17 36 7) ∧ (h27 1 1) = (h17 1 1) ∧ (h27 90 2) = (h17 90 2) ∧ (h27 0 10) = (h17 0 10) ∧ (h27 0 11) = (h17 0 11) ∧ (h27 0 12) = (h17 0 12) ∧ (h27 0 13) = (h17 0 13) ∧ (h27 3 1) = (h17 3 1) ∧ (h27 36 8) = (h17 36 8) ∧ (h27 46 3) = (h17 46 3) ∧ (h27 46 4) = (h17 46 4) ∧ (h27 49 4) = (h17 49 4) ∧ (h27 49 5) = (h17 49 5) ∧ (h27 64 0) = (h17 64 0) ∧ (h27 76 0) = (h17 76 0) := f25
          clear f25
          have e30 : h27 46 3 = 58 := by omega
          refine ov_blk (ls2 := [(0, ov_r 46), (1, ov_r 58), (2, ov_i c), (3, ov_i s), (4, ov_i v10), (5, ov_i x5)]) (st2 := [ov_i 1, ov_i x5, ov_r 46]) (pc2 := 61) b_114_57_3 rfl rfl ?_
          refine ov_cV (as := [ov_i x5, ov_i 1]) (st := []) (d2 := d - 1) d_114_61 lk_Ways_34 rfl (Nat.le_of_ble_eq_true rfl) (c := 12) (zb_46 I28) (zs_46 I28) ⟨by decide, rfl⟩ (by omega) (c_Ways_pass_46_k46_3_58 (d - 1) (by omega) U I28 x5 1 e30 (by omega) (by omega) (by omega)) ?_
          rintro _ z32 h33 ⟨rfl, I34, f31⟩
          show ov_R u d ov_m114 64 [(0, ov_r 46), (1, ov_r 58), (2, ov_i c), (3, ov_i s), (4, ov_i v10), (5, ov_i x5)] [] z32 h33 (P_Ways_arrival_46_58 F z h c s)
          have f35 : (h33 36 7) = (h27 36 7) ∧ (h33 1 1) = (h27 1 1) ∧ (h33 90 2) = (h27 90 2) ∧ (h33 0 10) = (h27 0 10) ∧ (h33 0 11) = (h27 0 11) ∧ (h33 0 12) = (h27 0 12) ∧ (h33 0 13) = (h27 0 13) ∧ (h33 3 1) = (h27 3 1) ∧ (h33 36 8) = (h27 36 8) ∧ (h33 46 3) = (h27 46 3) ∧ (h33 46 4) = (h27 46 4) ∧ (h33 49 4) = (h27 49 4) ∧ (h33 49 5) = (h27 49 5) ∧ (h33 64 0) = (h27 64 0) ∧ (h33 76 0) = (h27 76 0) := f31
          clear f31
          have e36 : h33 46 3 = 58 := by omega
          refine ov_blk (ls2 := [(0, ov_r 46), (1, ov_r 58), (2, ov_i c), (3, ov_i s), (4, ov_i v10), (5, ov_i (x5 + 1))]) (st2 := []) (pc2 := 67) b_114_64_1 rfl rfl ?_
          refine ov_goto (tgt := 32) d_114_67 (by decide) ?_
          exact ih13 (x5 + 1) _ _ I34 (by show 0 ≤ (x5 + 1) ∧ (x5 + 1) ≤ 53 ∧ (h33 36 7) = (h 36 7) ∧ (h33 1 1) = (h 1 1) ∧ (h33 90 2) = (h 90 2) ∧ (h33 0 10) = (h 0 10) ∧ (h33 0 11) = (h 0 11) ∧ (h33 0 12) = (h 0 12) ∧ (h33 0 13) = (h 0 13) ∧ (h33 3 1) = (h 3 1) ∧ (h33 36 8) = (h 36 8) ∧ (h33 46 4) = (h 46 4) ∧ (h33 49 4) = (h 49 4) ∧ (h33 49 5) = (h 49 5) ∧ (h33 64 0) = (h 64 0) ∧ (h33 76 0) = (h 76 0) ∧ (h33 46 3) = 58; omega) (by omega)
  exact L15 55 c _ _ I8 (by show 0 ≤ c ∧ c ≤ 53 ∧ (h4 36 7) = (h 36 7) ∧ (h4 1 1) = (h 1 1) ∧ (h4 90 2) = (h 90 2) ∧ (h4 0 10) = (h 0 10) ∧ (h4 0 11) = (h 0 11) ∧ (h4 0 12) = (h 0 12) ∧ (h4 0 13) = (h 0 13) ∧ (h4 3 1) = (h 3 1) ∧ (h4 36 8) = (h 36 8) ∧ (h4 46 4) = (h 46 4) ∧ (h4 49 4) = (h 49 4) ∧ (h4 49 5) = (h 49 5) ∧ (h4 64 0) = (h 64 0) ∧ (h4 76 0) = (h 76 0) ∧ (h4 46 3) = 58; omega) (by omega)
abbrev P_Ways_isAsSoonOver_46_k46_3_58 (F : ov_H) (z : ov_Z) (h : ov_H) (c : Int) (s : Int) (n : Int) : Option ov_V → ov_Z → ov_H → Prop := fun r0 z' h' => ∃ r : Int, r0 = some (ov_i r) ∧ ov_I F z' h' ∧ ((r = 0 ∨ r = 1) ∧ (r = 1 → c ≤ 52) ∧ (h' 36 7) = (h 36 7) ∧ (h' 1 1) = (h 1 1) ∧ (h' 90 2) = (h 90 2) ∧ (h' 0 10) = (h 0 10) ∧ (h' 0 11) = (h 0 11) ∧ (h' 0 12) = (h 0 12) ∧ (h' 0 13) = (h 0 13) ∧ (h' 3 1) = (h 3 1) ∧ (h' 36 8) = (h 36 8) ∧ (h' 46 3) = (h 46 3) ∧ (h' 46 4) = (h 46 4) ∧ (h' 49 4) = (h 49 4) ∧ (h' 49 5) = (h 49 5) ∧ (h' 64 0) = (h 64 0) ∧ (h' 76 0) = (h 76 0))
set_option maxHeartbeats 4000000 in
theorem c_Ways_isAsSoonOver_46_k46_3_58 {u : ov_U} {F : ov_H} {z : ov_Z} {h : ov_H} (d : Nat) (hd : 5 ≤ d) (U : ov_cap u) (I : ov_I F z h) (c : Int) (s : Int) (n : Int) (k0 : h 46 3 = 58) (g_c : ov_g c) (g_s : ov_g s) (g_n : ov_g n) (p0 : 0 ≤ c ∧ c ≤ 53) (p1 : F (-5) 58 = 1) : ov_T u d ov_m119 [ov_r 46, ov_i c, ov_i s, ov_i n] z h (P_Ways_isAsSoonOver_46_k46_3_58 F z h c s n) := by
  refine ov_en rfl (Nat.le_of_ble_eq_true rfl) ?_
  show ov_R u d ov_m119 0 [(0, ov_r 46), (1, ov_i c), (2, ov_i s), (3, ov_i n)] [] z h (P_Ways_isAsSoonOver_46_k46_3_58 F z h c s n)
  refine ov_blk (ls2 := [(0, ov_r 46), (1, ov_i c), (2, ov_i s), (3, ov_i n)]) (st2 := [ov_r 46]) (pc2 := 1) b_119_0_1 rfl rfl ?_
  refine ov_getf (v := ov_r 58) d_119_1 fl_Ways_18 (zb_46 I) (zs_46 I) (congrArg ov_r k0) ?_
  refine ov_blk (ls2 := [(0, ov_r 46), (1, ov_i c), (2, ov_i s), (3, ov_i n)]) (st2 := [ov_i 0, ov_i c, ov_r 58]) (pc2 := 6) b_119_4_2 rfl rfl ?_
  refine ov_cV (as := [ov_i c, ov_i 0]) (st := []) (d2 := d - 1) d_119_6 lk_Ways_38 rfl (Nat.le_of_ble_eq_true rfl) (c := 9) (zb_58 I) (zs_58 I) ⟨by decide, rfl⟩ (by omega) (c_Town_isOpen_58 (d - 1) (by omega) U I c 0 (by omega) (by omega) (by omega)) ?_
  rintro _ _ _ ⟨v2, rfl, rfl, rfl, f1⟩
  show ov_R u d ov_m119 9 [(0, ov_r 46), (1, ov_i c), (2, ov_i s), (3, ov_i n)] [ov_i v2] z h (P_Ways_isAsSoonOver_46_k46_3_58 F z h c s n)
  have f3 : (v2 = 0 ∨ v2 = 1) ∧ (v2 = 1 → ((0 : Int) = 0 ∧ c ≤ 52) ∨ ((0 : Int) = 1 ∧ c ≤ 47)) := f1
  clear f1
  refine ov_ifeq (tgt := 44) d_119_9 (by decide) (by omega) (fun c4 => ?_) (fun c4 => ?_)
  · skip
    refine ov_blk (ls2 := [(0, ov_r 46), (1, ov_i c), (2, ov_i s), (3, ov_i n)]) (st2 := [ov_i 0]) (pc2 := 45) b_119_44_1 rfl rfl ?_
    exact ov_retz (st := []) d_119_45 rfl (by omega) ⟨_, rfl, I, (by show (0 = 0 ∨ 0 = 1) ∧ (0 = 1 → c ≤ 52) ∧ (h 36 7) = (h 36 7) ∧ (h 1 1) = (h 1 1) ∧ (h 90 2) = (h 90 2) ∧ (h 0 10) = (h 0 10) ∧ (h 0 11) = (h 0 11) ∧ (h 0 12) = (h 0 12) ∧ (h 0 13) = (h 0 13) ∧ (h 3 1) = (h 3 1) ∧ (h 36 8) = (h 36 8) ∧ (h 46 3) = (h 46 3) ∧ (h 46 4) = (h 46 4) ∧ (h 49 4) = (h 49 4) ∧ (h 49 5) = (h 49 5) ∧ (h 64 0) = (h 64 0) ∧ (h 76 0) = (h 76 0); omega)⟩
  · skip
    refine ov_blk (ls2 := [(0, ov_r 46), (1, ov_i c), (2, ov_i s), (3, ov_i n)]) (st2 := [ov_r 46, ov_r 46]) (pc2 := 14) b_119_12_2 rfl rfl ?_
    refine ov_getf (v := ov_r 58) d_119_14 fl_Ways_18 (zb_46 I) (zs_46 I) (congrArg ov_r k0) ?_
    refine ov_blk (ls2 := [(0, ov_r 46), (1, ov_i c), (2, ov_i s), (3, ov_i n)]) (st2 := [ov_r 46, ov_r 58, ov_r 46]) (pc2 := 18) b_119_17_1 rfl rfl ?_
    refine ov_getf (v := ov_r 58) d_119_18 fl_Ways_18 (zb_46 I) (zs_46 I) (congrArg ov_r k0) ?_
    refine ov_blk (ls2 := [(0, ov_r 46), (1, ov_i c), (2, ov_i s), (3, ov_i n)]) (st2 := [ov_i 0, ov_i c, ov_r 58, ov_r 58, ov_r 46]) (pc2 := 23) b_119_21_2 rfl rfl ?_
    refine ov_cV (as := [ov_i c, ov_i 0]) (st := [ov_r 58, ov_r 46]) (d2 := d - 1) d_119_23 lk_Ways_42 rfl (Nat.le_of_ble_eq_true rfl) (c := 9) (zb_58 I) (zs_58 I) ⟨by decide, rfl⟩ (by omega) (c_Town_after_58 (d - 1) (by omega) U I c 0 (by omega) (by omega) (by omega)) ?_
    rintro _ _ _ ⟨v6, rfl, rfl, rfl, f5⟩
    show ov_R u d ov_m119 26 [(0, ov_r 46), (1, ov_i c), (2, ov_i s), (3, ov_i n)] [ov_i v6, ov_r 58, ov_r 46] z h (P_Ways_isAsSoonOver_46_k46_3_58 F z h c s n)
    have f7 : ((0 : Int) = 0 → v6 = c + 1) ∧ (¬ (0 : Int) = 0 → v6 = c + 6) := f5
    clear f5
    refine ov_blk (ls2 := [(0, ov_r 46), (1, ov_i c), (2, ov_i s), (3, ov_i n)]) (st2 := [ov_i s, ov_i 0, ov_i c, ov_r 46, ov_i v6, ov_r 58, ov_r 46]) (pc2 := 30) b_119_26_4 rfl rfl ?_
    refine ov_cV (as := [ov_i c, ov_i 0, ov_i s]) (st := [ov_i v6, ov_r 58, ov_r 46]) (d2 := d - 1) d_119_30 lk_Ways_46 rfl (Nat.le_of_ble_eq_true rfl) (c := 12) (zb_46 I) (zs_46 I) ⟨by decide, rfl⟩ (by omega) (c_Ways_afterStreet_46_k46_3_58 (d - 1) (by omega) U I c 0 s k0 (by omega) (by omega) (by omega) (by omega)) ?_
    rintro _ _ _ ⟨v9, rfl, rfl, rfl, f8⟩
    show ov_R u d ov_m119 33 [(0, ov_r 46), (1, ov_i c), (2, ov_i s), (3, ov_i n)] [ov_i v9, ov_i v6, ov_r 58, ov_r 46] z h (P_Ways_isAsSoonOver_46_k46_3_58 F z h c s n)
    have f10 : -2147483648 ≤ v9 ∧ v9 ≤ 2147483647 := f8
    clear f8
    refine ov_cV (as := [ov_r 58, ov_i v6, ov_i v9]) (st := []) (d2 := d - 1) d_119_33 lk_Ways_59 rfl (Nat.le_of_ble_eq_true rfl) (c := 12) (zb_46 I) (zs_46 I) ⟨by decide, rfl⟩ (by omega) (c_Ways_arrival_46_58 (d - 1) (by omega) U I v6 v9 (by omega) (by omega) (by omega) (by omega)) ?_
    rintro _ z13 h14 ⟨v12, rfl, I15, f11⟩
    show ov_R u d ov_m119 36 [(0, ov_r 46), (1, ov_i c), (2, ov_i s), (3, ov_i n)] [ov_i v12] z13 h14 (P_Ways_isAsSoonOver_46_k46_3_58 F z h c s n)
    have f16 : -2147483648 ≤ v12 ∧ v12 ≤ 2147483647 ∧ (h14 46 3) = 58 ∧ (h14 36 7) = (h 36 7) ∧ (h14 1 1) = (h 1 1) ∧ (h14 90 2) = (h 90 2) ∧ (h14 0 10) = (h 0 10) ∧ (h14 0 11) = (h 0 11) ∧ (h14 0 12) = (h 0 12) ∧ (h14 0 13) = (h 0 13) ∧ (h14 3 1) = (h 3 1) ∧ (h14 36 8) = (h 36 8) ∧ (h14 46 4) = (h 46 4) ∧ (h14 49 4) = (h 49 4) ∧ (h14 49 5) = (h 49 5) ∧ (h14 64 0) = (h 64 0) ∧ (h14 76 0) = (h 76 0) := f11
    clear f11
    have e17 : h14 46 3 = 58 := by omega
    refine ov_blk (ls2 := [(0, ov_r 46), (1, ov_i c), (2, ov_i s), (3, ov_i n)]) (st2 := [ov_i n, ov_i v12]) (pc2 := 37) b_119_36_1 rfl rfl ?_
    refine ov_icne (tgt := 44) d_119_37 (by decide) (by omega) (by omega) (fun c18 => ?_) (fun c18 => ?_)
    · skip
      refine ov_blk (ls2 := [(0, ov_r 46), (1, ov_i c), (2, ov_i s), (3, ov_i n)]) (st2 := [ov_i 0]) (pc2 := 45) b_119_44_1 rfl rfl ?_
      exact ov_retz (st := []) d_119_45 rfl (by omega) ⟨_, rfl, I15, (by show (0 = 0 ∨ 0 = 1) ∧ (0 = 1 → c ≤ 52) ∧ (h14 36 7) = (h 36 7) ∧ (h14 1 1) = (h 1 1) ∧ (h14 90 2) = (h 90 2) ∧ (h14 0 10) = (h 0 10) ∧ (h14 0 11) = (h 0 11) ∧ (h14 0 12) = (h 0 12) ∧ (h14 0 13) = (h 0 13) ∧ (h14 3 1) = (h 3 1) ∧ (h14 36 8) = (h 36 8) ∧ (h14 46 3) = (h 46 3) ∧ (h14 46 4) = (h 46 4) ∧ (h14 49 4) = (h 49 4) ∧ (h14 49 5) = (h 49 5) ∧ (h14 64 0) = (h 64 0) ∧ (h14 76 0) = (h 76 0); omega)⟩
    · skip
      refine ov_blk (ls2 := [(0, ov_r 46), (1, ov_i c), (2, ov_i s), (3, ov_i n)]) (st2 := [ov_i 1]) (pc2 := 41) b_119_40_1 rfl rfl ?_
      refine ov_goto (tgt := 45) d_119_41 (by decide) ?_
      exact ov_retz (st := []) d_119_45 rfl (by omega) ⟨_, rfl, I15, (by show (1 = 0 ∨ 1 = 1) ∧ (1 = 1 → c ≤ 52) ∧ (h14 36 7) = (h 36 7) ∧ (h14 1 1) = (h 1 1) ∧ (h14 90 2) = (h 90 2) ∧ (h14 0 10) = (h 0 10) ∧ (h14 0 11) = (h 0 11) ∧ (h14 0 12) = (h 0 12) ∧ (h14 0 13) = (h 0 13) ∧ (h14 3 1) = (h 3 1) ∧ (h14 36 8) = (h 36 8) ∧ (h14 46 3) = (h 46 3) ∧ (h14 46 4) = (h 46 4) ∧ (h14 49 4) = (h 49 4) ∧ (h14 49 5) = (h 49 5) ∧ (h14 64 0) = (h 64 0) ∧ (h14 76 0) = (h 76 0); omega)⟩
abbrev P_Ways_lastAsSoon_46_58 (F : ov_H) (z : ov_Z) (h : ov_H) (c : Int) (s : Int) : Option ov_V → ov_Z → ov_H → Prop := fun r0 z' h' => ∃ r : Int, r0 = some (ov_i r) ∧ ov_I F z' h' ∧ (-2147483648 ≤ r ∧ r ≤ 2147483647 ∧ (h' 36 7) = (h 36 7) ∧ (h' 1 1) = (h 1 1) ∧ (h' 90 2) = (h 90 2) ∧ (h' 0 10) = (h 0 10) ∧ (h' 0 11) = (h 0 11) ∧ (h' 0 12) = (h 0 12) ∧ (h' 0 13) = (h 0 13) ∧ (h' 3 1) = (h 3 1) ∧ (h' 36 8) = (h 36 8) ∧ (h' 46 4) = (h 46 4) ∧ (h' 49 4) = (h 49 4) ∧ (h' 49 5) = (h 49 5) ∧ (h' 64 0) = (h 64 0) ∧ (h' 76 0) = (h 76 0))
set_option maxHeartbeats 4000000 in
theorem c_Ways_lastAsSoon_46_58 {u : ov_U} {F : ov_H} {z : ov_Z} {h : ov_H} (d : Nat) (hd : 5 ≤ d) (U : ov_cap u) (I : ov_I F z h) (c : Int) (s : Int) (g_c : ov_g c) (g_s : ov_g s) (p0 : 0 ≤ c ∧ c ≤ 53) (p1 : F (-5) 58 = 1) : ov_T u d ov_m150 [ov_r 46, ov_r 58, ov_i c, ov_i s] z h (P_Ways_lastAsSoon_46_58 F z h c s) := by
  refine ov_en rfl (Nat.le_of_ble_eq_true rfl) ?_
  show ov_R u d ov_m150 0 [(0, ov_r 46), (1, ov_r 58), (2, ov_i c), (3, ov_i s)] [] z h (P_Ways_lastAsSoon_46_58 F z h c s)
  refine ov_blk (ls2 := [(0, ov_r 46), (1, ov_r 58), (2, ov_i c), (3, ov_i s)]) (st2 := [ov_i s, ov_i c, ov_r 58, ov_r 46]) (pc2 := 4) b_150_0_4 rfl rfl ?_
  refine ov_cV (as := [ov_r 58, ov_i c, ov_i s]) (st := []) (d2 := d - 1) d_150_4 lk_Ways_59 rfl (Nat.le_of_ble_eq_true rfl) (c := 12) (zb_46 I) (zs_46 I) ⟨by decide, rfl⟩ (by omega) (c_Ways_arrival_46_58 (d - 1) (by omega) U I c s (by omega) (by omega) (by omega) (by omega)) ?_
  rintro _ z3 h4 ⟨v2, rfl, I5, f1⟩
  show ov_R u d ov_m150 7 [(0, ov_r 46), (1, ov_r 58), (2, ov_i c), (3, ov_i s)] [ov_i v2] z3 h4 (P_Ways_lastAsSoon_46_58 F z h c s)
  have f6 : -2147483648 ≤ v2 ∧ v2 ≤ 2147483647 ∧ (h4 46 3) = 58 ∧ (h4 36 7) = (h 36 7) ∧ (h4 1 1) = (h 1 1) ∧ (h4 90 2) = (h 90 2) ∧ (h4 0 10) = (h 0 10) ∧ (h4 0 11) = (h 0 11) ∧ (h4 0 12) = (h 0 12) ∧ (h4 0 13) = (h 0 13) ∧ (h4 3 1) = (h 3 1) ∧ (h4 36 8) = (h 36 8) ∧ (h4 46 4) = (h 46 4) ∧ (h4 49 4) = (h 49 4) ∧ (h4 49 5) = (h 49 5) ∧ (h4 64 0) = (h 64 0) ∧ (h4 76 0) = (h 76 0) := f1
  clear f1
  have e7 : h4 46 3 = 58 := by omega
  refine ov_blk (ls2 := [(0, ov_r 46), (1, ov_r 58), (2, ov_i c), (3, ov_i s), (4, ov_i v2)]) (st2 := [ov_i (-1), ov_i v2]) (pc2 := 12) b_150_7_3 rfl rfl ?_
  refine ov_icne (tgt := 17) d_150_12 (by decide) (by omega) (by omega) (fun c8 => ?_) (fun c8 => ?_)
  · skip
    refine ov_blk (ls2 := [(0, ov_r 46), (1, ov_r 58), (2, ov_i c), (3, ov_i s), (4, ov_i v2), (5, ov_i s)]) (st2 := [ov_r 46, ov_i s]) (pc2 := 22) b_150_17_4 rfl rfl ?_
    refine ov_getf (v := ov_r 58) d_150_22 fl_Ways_18 (zb_46 I5) (zs_46 I5) (congrArg ov_r e7) ?_
    refine ov_getf (v := ov_i (h4 58 10)) d_150_25 fl_Ways_67 (zb_58 I5) (zs_58 I5) rfl ?_
    have g9 := rg_58_10 I5
    refine ov_blk (ls2 := [(0, ov_r 46), (1, ov_r 58), (2, ov_i c), (3, ov_i s), (4, ov_i v2), (5, ov_i s)]) (st2 := [ov_i (s + (h4 58 10))]) (pc2 := 29) b_150_28_1 rfl rfl ?_
    refine ov_havw (fun w10 gw10 qw10 => ?_)
    refine ov_blk (ls2 := [(0, ov_r 46), (1, ov_r 58), (2, ov_i c), (3, ov_i s), (4, ov_i v2), (5, ov_i s), (6, ov_i w10), (7, ov_i 0)]) (st2 := []) (pc2 := 34) b_150_29_3 rfl rfl ?_
    have L14 : ∀ (n11 : Nat) (x5 : Int) (x6 : Int) (x7 : Int) (z15 : ov_Z) (h16 : ov_H) (I17 : ov_I F z15 h16) (q13 : ov_g x5 ∧ ov_g x6 ∧ 0 ≤ x7 ∧ x7 ≤ 32 ∧ (h16 36 7) = (h 36 7) ∧ (h16 1 1) = (h 1 1) ∧ (h16 90 2) = (h 90 2) ∧ (h16 0 10) = (h 0 10) ∧ (h16 0 11) = (h 0 11) ∧ (h16 0 12) = (h 0 12) ∧ (h16 0 13) = (h 0 13) ∧ (h16 3 1) = (h 3 1) ∧ (h16 36 8) = (h 36 8) ∧ (h16 46 4) = (h 46 4) ∧ (h16 49 4) = (h 49 4) ∧ (h16 49 5) = (h 49 5) ∧ (h16 64 0) = (h 64 0) ∧ (h16 76 0) = (h 76 0) ∧ h16 46 3 = 58), 32 - x7 < (n11 : Int) → ov_R u d ov_m150 34 [(0, ov_r 46), (1, ov_r 58), (2, ov_i c), (3, ov_i s), (4, ov_i v2), (5, ov_i x5), (6, ov_i x6), (7, ov_i x7)] [] z15 h16 (P_Ways_lastAsSoon_46_58 F z h c s) := by
      intro n11
      induction n11 with
      | zero =>
        intro x5 x6 x7 z15 h16 I17 q13 hn18
        exact absurd hn18 (by omega)
      | succ n11 ih12 =>
        intro x5 x6 x7 z15 h16 I17 q13 hn18
        have e19 : h16 46 3 = 58 := by omega
        refine ov_blk (ls2 := [(0, ov_r 46), (1, ov_r 58), (2, ov_i c), (3, ov_i s), (4, ov_i v2), (5, ov_i x5), (6, ov_i x6), (7, ov_i x7)]) (st2 := [ov_i 32, ov_i x7]) (pc2 := 38) b_150_34_2 rfl rfl ?_
        refine ov_icge (tgt := 92) d_150_38 (by decide) (by omega) (by omega) (fun c20 => ?_) (fun c20 => ?_)
        · skip
          refine ov_blk (ls2 := [(0, ov_r 46), (1, ov_r 58), (2, ov_i c), (3, ov_i s), (4, ov_i v2), (5, ov_i x5), (6, ov_i x6), (7, ov_i x7)]) (st2 := [ov_i x5]) (pc2 := 94) b_150_92_1 rfl rfl ?_
          exact ov_reti (st := []) d_150_94 rfl ⟨_, rfl, I17, (by show -2147483648 ≤ x5 ∧ x5 ≤ 2147483647 ∧ (h16 36 7) = (h 36 7) ∧ (h16 1 1) = (h 1 1) ∧ (h16 90 2) = (h 90 2) ∧ (h16 0 10) = (h 0 10) ∧ (h16 0 11) = (h 0 11) ∧ (h16 0 12) = (h 0 12) ∧ (h16 0 13) = (h 0 13) ∧ (h16 3 1) = (h 3 1) ∧ (h16 36 8) = (h 36 8) ∧ (h16 46 4) = (h 46 4) ∧ (h16 49 4) = (h 49 4) ∧ (h16 49 5) = (h 49 5) ∧ (h16 64 0) = (h 64 0) ∧ (h16 76 0) = (h 76 0); omega)⟩
        · skip
          refine ov_blk (ls2 := [(0, ov_r 46), (1, ov_r 58), (2, ov_i c), (3, ov_i s), (4, ov_i v2), (5, ov_i x5), (6, ov_i x6), (7, ov_i x7)]) (st2 := [ov_i (x6 - x5)]) (pc2 := 46) b_150_41_3 rfl rfl ?_
          refine ov_havw (fun w21 gw21 qw21 => ?_)
          refine ov_blk (ls2 := [(0, ov_r 46), (1, ov_r 58), (2, ov_i c), (3, ov_i s), (4, ov_i v2), (5, ov_i x5), (6, ov_i x6), (7, ov_i x7)]) (st2 := [ov_i 1, ov_i w21]) (pc2 := 47) b_150_46_1 rfl rfl ?_
          refine ov_icle (tgt := 92) d_150_47 (by decide) (by omega) (by omega) (fun c22 => ?_) (fun c22 => ?_)
          · skip
            refine ov_blk (ls2 := [(0, ov_r 46), (1, ov_r 58), (2, ov_i c), (3, ov_i s), (4, ov_i v2), (5, ov_i x5), (6, ov_i x6), (7, ov_i x7)]) (st2 := [ov_i x5]) (pc2 := 94) b_150_92_1 rfl rfl ?_
            exact ov_reti (st := []) d_150_94 rfl ⟨_, rfl, I17, (by show -2147483648 ≤ x5 ∧ x5 ≤ 2147483647 ∧ (h16 36 7) = (h 36 7) ∧ (h16 1 1) = (h 1 1) ∧ (h16 90 2) = (h 90 2) ∧ (h16 0 10) = (h 0 10) ∧ (h16 0 11) = (h 0 11) ∧ (h16 0 12) = (h 0 12) ∧ (h16 0 13) = (h 0 13) ∧ (h16 3 1) = (h 3 1) ∧ (h16 36 8) = (h 36 8) ∧ (h16 46 4) = (h 46 4) ∧ (h16 49 4) = (h 49 4) ∧ (h16 49 5) = (h 49 5) ∧ (h16 64 0) = (h 64 0) ∧ (h16 76 0) = (h 76 0); omega)⟩
          · skip
            refine ov_blk (ls2 := [(0, ov_r 46), (1, ov_r 58), (2, ov_i c), (3, ov_i s), (4, ov_i v2), (5, ov_i x5), (6, ov_i x6), (7, ov_i x7)]) (st2 := [ov_i (x6 - x5), ov_i x5]) (pc2 := 57) b_150_50_4 rfl rfl ?_
            refine ov_havw (fun w23 gw23 qw23 => ?_)
            refine ov_blk (ls2 := [(0, ov_r 46), (1, ov_r 58), (2, ov_i c), (3, ov_i s), (4, ov_i v2), (5, ov_i x5), (6, ov_i x6), (7, ov_i x7)]) (st2 := [ov_i 2, ov_i w23, ov_i x5]) (pc2 := 58) b_150_57_1 rfl rfl ?_
            refine ov_idiv d_150_58 (by omega) (by omega) (by omega) ?_
            refine ov_blk (ls2 := [(0, ov_r 46), (1, ov_r 58), (2, ov_i c), (3, ov_i s), (4, ov_i v2), (5, ov_i x5), (6, ov_i x6), (7, ov_i x7)]) (st2 := [ov_i (x5 + (Int.tdiv w23 2))]) (pc2 := 60) b_150_59_1 rfl rfl ?_
            refine ov_havw (fun w24 gw24 qw24 => ?_)
            refine ov_blk (ls2 := [(0, ov_r 46), (1, ov_r 58), (2, ov_i c), (3, ov_i s), (4, ov_i v2), (5, ov_i x5), (6, ov_i x6), (7, ov_i x7), (8, ov_i w24)]) (st2 := [ov_i w24, ov_i c, ov_r 58, ov_r 46]) (pc2 := 67) b_150_60_5 rfl rfl ?_
            refine ov_cV (as := [ov_r 58, ov_i c, ov_i w24]) (st := []) (d2 := d - 1) d_150_67 lk_Ways_59 rfl (Nat.le_of_ble_eq_true rfl) (c := 12) (zb_46 I17) (zs_46 I17) ⟨by decide, rfl⟩ (by omega) (c_Ways_arrival_46_58 (d - 1) (by omega) U I17 c w24 (by omega) (by omega) (by omega) (by omega)) ?_
            rintro _ z27 h28 ⟨v26, rfl, I29, f25⟩
            show ov_R u d ov_m150 70 [(0, ov_r 46), (1, ov_r 58), (2, ov_i c), (3, ov_i s), (4, ov_i v2), (5, ov_i x5), (6, ov_i x6), (7, ov_i x7), (8, ov_i w24)] [ov_i v26] z27 h28 (P_Ways_lastAsSoon_46_58 F z h c s)
            have f30 : -2147483648 ≤ v26 ∧ v26 ≤ 2147483647 ∧ (h28 46 3) = 58 ∧ (h28 36 7) = (h16 36 7) ∧ (h28 1 1) = (h16 1 1) ∧ (h28 90 2) = (h16 90 2) ∧ (h28 0 10) = (h16 0 10) ∧ (h28 0 11) = (h16 0 11) ∧ (h28 0 12) = (h16 0 12) ∧ (h28 0 13) = (h16 0 13) ∧ (h28 3 1) = (h16 3 1) ∧ (h28 36 8) = (h16 36 8) ∧ (h28 46 4) = (h16 46 4) ∧ (h28 49 4) = (h16 49 4) ∧ (h28 49 5) = (h16 49 5) ∧ (h28 64 0) = (h16 64 0) ∧ (h28 76 0) = (h16 76 0) := f25
            clear f25
            have e31 : h28 46 3 = 58 := by omega
            refine ov_blk (ls2 := [(0, ov_r 46), (1, ov_r 58), (2, ov_i c), (3, ov_i s), (4, ov_i v2), (5, ov_i x5), (6, ov_i x6), (7, ov_i x7), (8, ov_i w24)]) (st2 := [ov_i v2, ov_i v26]) (pc2 := 72) b_150_70_1 rfl rfl ?_
            refine ov_icne (tgt := 82) d_150_72 (by decide) (by omega) (by omega) (fun c32 => ?_) (fun c32 => ?_)
            · skip
              refine ov_blk (ls2 := [(0, ov_r 46), (1, ov_r 58), (2, ov_i c), (3, ov_i s), (4, ov_i v2), (5, ov_i x5), (6, ov_i w24), (7, ov_i (x7 + 1)), (8, ov_i w24)]) (st2 := []) (pc2 := 89) b_150_82_3 rfl rfl ?_
              refine ov_goto (tgt := 34) d_150_89 (by decide) ?_
              refine ov_sub (ls2 := [(0, ov_r 46), (1, ov_r 58), (2, ov_i c), (3, ov_i s), (4, ov_i v2), (5, ov_i x5), (6, ov_i w24), (7, ov_i (x7 + 1))]) (List.Sublist.subset (by repeat (first | exact List.Sublist.refl _ | apply List.Sublist.cons_cons | apply List.Sublist.cons))) ?_
              exact ih12 x5 w24 (x7 + 1) _ _ I29 (by show ov_g x5 ∧ ov_g w24 ∧ 0 ≤ (x7 + 1) ∧ (x7 + 1) ≤ 32 ∧ (h28 36 7) = (h 36 7) ∧ (h28 1 1) = (h 1 1) ∧ (h28 90 2) = (h 90 2) ∧ (h28 0 10) = (h 0 10) ∧ (h28 0 11) = (h 0 11) ∧ (h28 0 12) = (h 0 12) ∧ (h28 0 13) = (h 0 13) ∧ (h28 3 1) = (h 3 1) ∧ (h28 36 8) = (h 36 8) ∧ (h28 46 4) = (h 46 4) ∧ (h28 49 4) = (h 49 4) ∧ (h28 49 5) = (h 49 5) ∧ (h28 64 0) = (h 64 0) ∧ (h28 76 0) = (h 76 0) ∧ (h28 46 3) = 58; omega) (by omega)
            · skip
              refine ov_blk (ls2 := [(0, ov_r 46), (1, ov_r 58), (2, ov_i c), (3, ov_i s), (4, ov_i v2), (5, ov_i w24), (6, ov_i x6), (7, ov_i x7), (8, ov_i w24)]) (st2 := []) (pc2 := 79) b_150_75_2 rfl rfl ?_
              refine ov_goto (tgt := 86) d_150_79 (by decide) ?_
              refine ov_blk (ls2 := [(0, ov_r 46), (1, ov_r 58), (2, ov_i c), (3, ov_i s), (4, ov_i v2), (5, ov_i w24), (6, ov_i x6), (7, ov_i (x7 + 1)), (8, ov_i w24)]) (st2 := []) (pc2 := 89) b_150_86_1 rfl rfl ?_
              refine ov_goto (tgt := 34) d_150_89 (by decide) ?_
              refine ov_sub (ls2 := [(0, ov_r 46), (1, ov_r 58), (2, ov_i c), (3, ov_i s), (4, ov_i v2), (5, ov_i w24), (6, ov_i x6), (7, ov_i (x7 + 1))]) (List.Sublist.subset (by repeat (first | exact List.Sublist.refl _ | apply List.Sublist.cons_cons | apply List.Sublist.cons))) ?_
              exact ih12 w24 x6 (x7 + 1) _ _ I29 (by show ov_g w24 ∧ ov_g x6 ∧ 0 ≤ (x7 + 1) ∧ (x7 + 1) ≤ 32 ∧ (h28 36 7) = (h 36 7) ∧ (h28 1 1) = (h 1 1) ∧ (h28 90 2) = (h 90 2) ∧ (h28 0 10) = (h 0 10) ∧ (h28 0 11) = (h 0 11) ∧ (h28 0 12) = (h 0 12) ∧ (h28 0 13) = (h 0 13) ∧ (h28 3 1) = (h 3 1) ∧ (h28 36 8) = (h 36 8) ∧ (h28 46 4) = (h 46 4) ∧ (h28 49 4) = (h 49 4) ∧ (h28 49 5) = (h 49 5) ∧ (h28 64 0) = (h 64 0) ∧ (h28 76 0) = (h 76 0) ∧ (h28 46 3) = 58; omega) (by omega)
    exact L14 33 s w10 0 _ _ I5 (by show ov_g s ∧ ov_g w10 ∧ 0 ≤ 0 ∧ 0 ≤ 32 ∧ (h4 36 7) = (h 36 7) ∧ (h4 1 1) = (h 1 1) ∧ (h4 90 2) = (h 90 2) ∧ (h4 0 10) = (h 0 10) ∧ (h4 0 11) = (h 0 11) ∧ (h4 0 12) = (h 0 12) ∧ (h4 0 13) = (h 0 13) ∧ (h4 3 1) = (h 3 1) ∧ (h4 36 8) = (h 36 8) ∧ (h4 46 4) = (h 46 4) ∧ (h4 49 4) = (h 49 4) ∧ (h4 49 5) = (h 49 5) ∧ (h4 64 0) = (h 64 0) ∧ (h4 76 0) = (h 76 0) ∧ (h4 46 3) = 58; omega) (by omega)
  · skip
    refine ov_blk (ls2 := [(0, ov_r 46), (1, ov_r 58), (2, ov_i c), (3, ov_i s), (4, ov_i v2)]) (st2 := [ov_i (-1)]) (pc2 := 16) b_150_15_1 rfl rfl ?_
    exact ov_reti (st := []) d_150_16 rfl ⟨_, rfl, I5, (by show -2147483648 ≤ (-1) ∧ (-1) ≤ 2147483647 ∧ (h4 36 7) = (h 36 7) ∧ (h4 1 1) = (h 1 1) ∧ (h4 90 2) = (h 90 2) ∧ (h4 0 10) = (h 0 10) ∧ (h4 0 11) = (h 0 11) ∧ (h4 0 12) = (h 0 12) ∧ (h4 0 13) = (h 0 13) ∧ (h4 3 1) = (h 3 1) ∧ (h4 36 8) = (h 36 8) ∧ (h4 46 4) = (h 46 4) ∧ (h4 49 4) = (h 49 4) ∧ (h4 49 5) = (h 49 5) ∧ (h4 64 0) = (h 64 0) ∧ (h4 76 0) = (h 76 0); omega)⟩
abbrev P_Ways_passTurning_46_k46_3_58 (F : ov_H) (z : ov_Z) (h : ov_H) (c : Int) (way : Int) (s : Int) (t : Int) : Option ov_V → ov_Z → ov_H → Prop := fun r0 z' h' => r0 = none ∧ ov_I F z' h' ∧ ((h' 36 7) = (h 36 7) ∧ (h' 1 1) = (h 1 1) ∧ (h' 90 2) = (h 90 2) ∧ (h' 0 10) = (h 0 10) ∧ (h' 0 11) = (h 0 11) ∧ (h' 0 12) = (h 0 12) ∧ (h' 0 13) = (h 0 13) ∧ (h' 3 1) = (h 3 1) ∧ (h' 36 8) = (h 36 8) ∧ (h' 46 3) = (h 46 3) ∧ (h' 46 4) = (h 46 4) ∧ (h' 49 4) = (h 49 4) ∧ (h' 49 5) = (h 49 5) ∧ (h' 64 0) = (h 64 0) ∧ (h' 76 0) = (h 76 0))
set_option maxHeartbeats 4000000 in
theorem c_Ways_passTurning_46_k46_3_58 {u : ov_U} {F : ov_H} {z : ov_Z} {h : ov_H} (d : Nat) (hd : 3 ≤ d) (U : ov_cap u) (I : ov_I F z h) (c : Int) (way : Int) (s : Int) (t : Int) (k0 : h 46 3 = 58) (g_c : ov_g c) (g_way : ov_g way) (g_s : ov_g s) (g_t : ov_g t) (p0 : 0 ≤ c ∧ c ≤ 53) (p1 : 0 ≤ t ∧ t ≤ 12) : ov_T u d ov_m153 [ov_r 46, ov_i c, ov_i way, ov_i s, ov_i t] z h (P_Ways_passTurning_46_k46_3_58 F z h c way s t) := by
  refine ov_en rfl (Nat.le_of_ble_eq_true rfl) ?_
  show ov_R u d ov_m153 0 [(0, ov_r 46), (1, ov_i c), (2, ov_i way), (3, ov_i s), (4, ov_i t)] [] z h (P_Ways_passTurning_46_k46_3_58 F z h c way s t)
  refine ov_blk (ls2 := [(0, ov_r 46), (1, ov_i c), (2, ov_i way), (3, ov_i s), (4, ov_i t)]) (st2 := [ov_r 46]) (pc2 := 1) b_153_0_1 rfl rfl ?_
  refine ov_getf (v := ov_r 58) d_153_1 fl_Ways_18 (zb_46 I) (zs_46 I) (congrArg ov_r k0) ?_
  refine ov_blk (ls2 := [(0, ov_r 46), (1, ov_i c), (2, ov_i way), (3, ov_i s), (4, ov_i t)]) (st2 := [ov_i way, ov_i c, ov_r 58]) (pc2 := 6) b_153_4_2 rfl rfl ?_
  refine ov_cV (as := [ov_i c, ov_i way]) (st := []) (d2 := d - 1) d_153_6 lk_Ways_38 rfl (Nat.le_of_ble_eq_true rfl) (c := 9) (zb_58 I) (zs_58 I) ⟨by decide, rfl⟩ (by omega) (c_Town_isOpen_58 (d - 1) (by omega) U I c way (by omega) (by omega) (by omega)) ?_
  rintro _ _ _ ⟨v2, rfl, rfl, rfl, f1⟩
  show ov_R u d ov_m153 9 [(0, ov_r 46), (1, ov_i c), (2, ov_i way), (3, ov_i s), (4, ov_i t)] [ov_i v2] z h (P_Ways_passTurning_46_k46_3_58 F z h c way s t)
  have f3 : (v2 = 0 ∨ v2 = 1) ∧ (v2 = 1 → (way = 0 ∧ c ≤ 52) ∨ (way = 1 ∧ c ≤ 47)) := f1
  clear f1
  refine ov_ifeq (tgt := 53) d_153_9 (by decide) (by omega) (fun c4 => ?_) (fun c4 => ?_)
  · skip
    exact ov_retv (st := []) d_153_53 rfl ⟨rfl, I, (by show (h 36 7) = (h 36 7) ∧ (h 1 1) = (h 1 1) ∧ (h 90 2) = (h 90 2) ∧ (h 0 10) = (h 0 10) ∧ (h 0 11) = (h 0 11) ∧ (h 0 12) = (h 0 12) ∧ (h 0 13) = (h 0 13) ∧ (h 3 1) = (h 3 1) ∧ (h 36 8) = (h 36 8) ∧ (h 46 3) = (h 46 3) ∧ (h 46 4) = (h 46 4) ∧ (h 49 4) = (h 49 4) ∧ (h 49 5) = (h 49 5) ∧ (h 64 0) = (h 64 0) ∧ (h 76 0) = (h 76 0); omega)⟩
  · skip
    refine ov_blk (ls2 := [(0, ov_r 46), (1, ov_i c), (2, ov_i way), (3, ov_i s), (4, ov_i t)]) (st2 := [ov_r 46]) (pc2 := 13) b_153_12_1 rfl rfl ?_
    refine ov_getf (v := ov_r 58) d_153_13 fl_Ways_18 (zb_46 I) (zs_46 I) (congrArg ov_r k0) ?_
    refine ov_blk (ls2 := [(0, ov_r 46), (1, ov_i c), (2, ov_i way), (3, ov_i s), (4, ov_i t)]) (st2 := [ov_i way, ov_i c, ov_r 58]) (pc2 := 18) b_153_16_2 rfl rfl ?_
    refine ov_cV (as := [ov_i c, ov_i way]) (st := []) (d2 := d - 1) d_153_18 lk_Ways_42 rfl (Nat.le_of_ble_eq_true rfl) (c := 9) (zb_58 I) (zs_58 I) ⟨by decide, rfl⟩ (by omega) (c_Town_after_58 (d - 1) (by omega) U I c way (by omega) (by omega) (by omega)) ?_
    rintro _ _ _ ⟨v6, rfl, rfl, rfl, f5⟩
    show ov_R u d ov_m153 21 [(0, ov_r 46), (1, ov_i c), (2, ov_i way), (3, ov_i s), (4, ov_i t)] [ov_i v6] z h (P_Ways_passTurning_46_k46_3_58 F z h c way s t)
    have f7 : (way = 0 → v6 = c + 1) ∧ (¬ way = 0 → v6 = c + 6) := f5
    clear f5
    refine ov_blk (ls2 := [(0, ov_r 46), (1, ov_i c), (2, ov_i way), (3, ov_i s), (4, ov_i t)]) (st2 := [ov_i t, ov_i way, ov_i v6]) (pc2 := 24) b_153_21_2 rfl rfl ?_
    refine ov_cS (as := [ov_i v6, ov_i way, ov_i t]) (st := []) (d2 := d - 1) d_153_24 lk_Ways_79 rfl (Nat.le_of_ble_eq_true rfl) (by omega) (c_Ways_turnedCell (d - 1) (by omega) U I v6 way t (by omega) (by omega) (by omega) (by omega) (by omega) (by omega)) ?_
    rintro _ _ _ ⟨v9, rfl, rfl, rfl, f8⟩
    show ov_R u d ov_m153 27 [(0, ov_r 46), (1, ov_i c), (2, ov_i way), (3, ov_i s), (4, ov_i t)] [ov_i v9] z h (P_Ways_passTurning_46_k46_3_58 F z h c way s t)
    have f10 : v9 = (v6 * 2 + way) * 13 + t := f8
    clear f8
    refine ov_blk (ls2 := [(0, ov_r 46), (1, ov_i c), (2, ov_i way), (3, ov_i s), (4, ov_i t), (5, ov_i v9)]) (st2 := [ov_r 46]) (pc2 := 30) b_153_27_2 rfl rfl ?_
    refine ov_getf (v := ov_r 48) d_153_30 fl_Ways_15 (zb_46 I) (zs_46 I) (congrArg ov_r (rg_46_6 I)) ?_
    refine ov_blk (ls2 := [(0, ov_r 46), (1, ov_i c), (2, ov_i way), (3, ov_i s), (4, ov_i t), (5, ov_i v9)]) (st2 := [ov_r 46, ov_i v9, ov_r 48]) (pc2 := 36) b_153_33_2 rfl rfl ?_
    refine ov_getf (v := ov_r 48) d_153_36 fl_Ways_15 (zb_46 I) (zs_46 I) (congrArg ov_r (rg_46_6 I)) ?_
    refine ov_blk (ls2 := [(0, ov_r 46), (1, ov_i c), (2, ov_i way), (3, ov_i s), (4, ov_i t), (5, ov_i v9)]) (st2 := [ov_i v9, ov_r 48, ov_i v9, ov_r 48]) (pc2 := 41) b_153_39_1 rfl rfl ?_
    refine ov_iald d_153_41 (zb_48 I) (zs_48 I) (by omega) ?_
    have g11 := ra_48 I v9
    refine ov_blk (ls2 := [(0, ov_r 46), (1, ov_i c), (2, ov_i way), (3, ov_i s), (4, ov_i t), (5, ov_i v9)]) (st2 := [ov_i s, ov_i way, ov_i c, ov_r 46, ov_i (h 48 v9), ov_i v9, ov_r 48]) (pc2 := 46) b_153_42_4 rfl rfl ?_
    refine ov_cV (as := [ov_i c, ov_i way, ov_i s]) (st := [ov_i (h 48 v9), ov_i v9, ov_r 48]) (d2 := d - 1) d_153_46 lk_Ways_46 rfl (Nat.le_of_ble_eq_true rfl) (c := 12) (zb_46 I) (zs_46 I) ⟨by decide, rfl⟩ (by omega) (c_Ways_afterStreet_46_k46_3_58 (d - 1) (by omega) U I c way s k0 (by omega) (by omega) (by omega) (by omega)) ?_
    rintro _ _ _ ⟨v13, rfl, rfl, rfl, f12⟩
    show ov_R u d ov_m153 49 [(0, ov_r 46), (1, ov_i c), (2, ov_i way), (3, ov_i s), (4, ov_i t), (5, ov_i v9)] [ov_i v13, ov_i (h 48 v9), ov_i v9, ov_r 48] z h (P_Ways_passTurning_46_k46_3_58 F z h c way s t)
    have f14 : -2147483648 ≤ v13 ∧ v13 ≤ 2147483647 := f12
    clear f12
    refine ov_cSN (as := [ov_i (h 48 v9), ov_i v13]) (st := [ov_i v9, ov_r 48]) (d2 := d - 1) d_153_49 lk_Ways_50 rfl (Nat.le_of_ble_eq_true rfl) (by omega) (c_OF_lesser (d - 1) (by omega) U I (h 48 v9) v13 (by omega) (by omega)) ?_
    rintro _ _ _ ⟨v16, rfl, rfl, rfl, f15⟩
    show ov_R u d ov_m153 52 [(0, ov_r 46), (1, ov_i c), (2, ov_i way), (3, ov_i s), (4, ov_i t), (5, ov_i v9)] [ov_i v16, ov_i v9, ov_r 48] z h (P_Ways_passTurning_46_k46_3_58 F z h c way s t)
    have f17 : (v16 = (h 48 v9) ∨ v16 = v13) := f15
    clear f15
    refine ov_iast d_153_52 (zb_48 I) (zs_48 I) (by omega) ?_
    have I18 := ua_48 (k := v9) (x := v16) I (by omega)
    exact ov_retv (st := []) d_153_53 rfl ⟨rfl, I18, (by show (h 36 7) = (h 36 7) ∧ (h 1 1) = (h 1 1) ∧ (h 90 2) = (h 90 2) ∧ (h 0 10) = (h 0 10) ∧ (h 0 11) = (h 0 11) ∧ (h 0 12) = (h 0 12) ∧ (h 0 13) = (h 0 13) ∧ (h 3 1) = (h 3 1) ∧ (h 36 8) = (h 36 8) ∧ (h 46 3) = (h 46 3) ∧ (h 46 4) = (h 46 4) ∧ (h 49 4) = (h 49 4) ∧ (h 49 5) = (h 49 5) ∧ (h 64 0) = (h 64 0) ∧ (h 76 0) = (h 76 0); omega)⟩
abbrev P_Ways_goOnTurning_46_k46_3_58 (F : ov_H) (z : ov_Z) (h : ov_H) (c : Int) (t : Int) (o : Int) : Option ov_V → ov_Z → ov_H → Prop := fun r0 z' h' => r0 = none ∧ ov_I F z' h' ∧ ((h' 36 7) = (h 36 7) ∧ (h' 1 1) = (h 1 1) ∧ (h' 90 2) = (h 90 2) ∧ (h' 0 10) = (h 0 10) ∧ (h' 0 11) = (h 0 11) ∧ (h' 0 12) = (h 0 12) ∧ (h' 0 13) = (h 0 13) ∧ (h' 3 1) = (h 3 1) ∧ (h' 36 8) = (h 36 8) ∧ (h' 46 3) = (h 46 3) ∧ (h' 46 4) = (h 46 4) ∧ (h' 49 4) = (h 49 4) ∧ (h' 49 5) = (h 49 5) ∧ (h' 64 0) = (h 64 0) ∧ (h' 76 0) = (h 76 0))
set_option maxHeartbeats 4000000 in
theorem c_Ways_goOnTurning_46_k46_3_58 {u : ov_U} {F : ov_H} {z : ov_Z} {h : ov_H} (d : Nat) (hd : 4 ≤ d) (U : ov_cap u) (I : ov_I F z h) (c : Int) (t : Int) (o : Int) (k0 : h 46 3 = 58) (g_c : ov_g c) (g_t : ov_g t) (g_o : ov_g o) (p0 : 0 ≤ c ∧ c ≤ 53) (p1 : 0 ≤ t ∧ t ≤ o ∧ o ≤ 12) : ov_T u d ov_m155 [ov_r 46, ov_i c, ov_i t, ov_i o] z h (P_Ways_goOnTurning_46_k46_3_58 F z h c t o) := by
  refine ov_en rfl (Nat.le_of_ble_eq_true rfl) ?_
  show ov_R u d ov_m155 0 [(0, ov_r 46), (1, ov_i c), (2, ov_i t), (3, ov_i o)] [] z h (P_Ways_goOnTurning_46_k46_3_58 F z h c t o)
  refine ov_blk (ls2 := [(0, ov_r 46), (1, ov_i c), (2, ov_i t), (3, ov_i o), (4, ov_i 0)]) (st2 := []) (pc2 := 3) b_155_0_2 rfl rfl ?_
  have L4 : ∀ (n1 : Nat) (x4 : Int) (z5 : ov_Z) (h6 : ov_H) (I7 : ov_I F z5 h6) (q3 : 0 ≤ x4 ∧ x4 ≤ 2 ∧ (h6 36 7) = (h 36 7) ∧ (h6 1 1) = (h 1 1) ∧ (h6 90 2) = (h 90 2) ∧ (h6 0 10) = (h 0 10) ∧ (h6 0 11) = (h 0 11) ∧ (h6 0 12) = (h 0 12) ∧ (h6 0 13) = (h 0 13) ∧ (h6 3 1) = (h 3 1) ∧ (h6 36 8) = (h 36 8) ∧ (h6 46 3) = (h 46 3) ∧ (h6 46 4) = (h 46 4) ∧ (h6 49 4) = (h 49 4) ∧ (h6 49 5) = (h 49 5) ∧ (h6 64 0) = (h 64 0) ∧ (h6 76 0) = (h 76 0) ∧ h6 46 3 = 58), 2 - x4 < (n1 : Int) → ov_R u d ov_m155 3 [(0, ov_r 46), (1, ov_i c), (2, ov_i t), (3, ov_i o), (4, ov_i x4)] [] z5 h6 (P_Ways_goOnTurning_46_k46_3_58 F z h c t o) := by
    intro n1
    induction n1 with
    | zero =>
      intro x4 z5 h6 I7 q3 hn8
      exact absurd hn8 (by omega)
    | succ n1 ih2 =>
      intro x4 z5 h6 I7 q3 hn8
      have e9 : h6 46 3 = 58 := by omega
      refine ov_blk (ls2 := [(0, ov_r 46), (1, ov_i c), (2, ov_i t), (3, ov_i o), (4, ov_i x4)]) (st2 := [ov_i 1, ov_i x4]) (pc2 := 6) b_155_3_2 rfl rfl ?_
      refine ov_icgt (tgt := 64) d_155_6 (by decide) (by omega) (by omega) (fun c10 => ?_) (fun c10 => ?_)
      · skip
        exact ov_retv (st := []) d_155_64 rfl ⟨rfl, I7, (by show (h6 36 7) = (h 36 7) ∧ (h6 1 1) = (h 1 1) ∧ (h6 90 2) = (h 90 2) ∧ (h6 0 10) = (h 0 10) ∧ (h6 0 11) = (h 0 11) ∧ (h6 0 12) = (h 0 12) ∧ (h6 0 13) = (h 0 13) ∧ (h6 3 1) = (h 3 1) ∧ (h6 36 8) = (h 36 8) ∧ (h6 46 3) = (h 46 3) ∧ (h6 46 4) = (h 46 4) ∧ (h6 49 4) = (h 49 4) ∧ (h6 49 5) = (h 49 5) ∧ (h6 64 0) = (h 64 0) ∧ (h6 76 0) = (h 76 0); omega)⟩
      · skip
        refine ov_blk (ls2 := [(0, ov_r 46), (1, ov_i c), (2, ov_i t), (3, ov_i o), (4, ov_i x4)]) (st2 := [ov_r 46]) (pc2 := 10) b_155_9_1 rfl rfl ?_
        refine ov_getf (v := ov_r 48) d_155_10 fl_Ways_15 (zb_46 I7) (zs_46 I7) (congrArg ov_r (rg_46_6 I7)) ?_
        refine ov_blk (ls2 := [(0, ov_r 46), (1, ov_i c), (2, ov_i t), (3, ov_i o), (4, ov_i x4)]) (st2 := [ov_i t, ov_i x4, ov_i c, ov_r 48]) (pc2 := 17) b_155_13_3 rfl rfl ?_
        refine ov_cS (as := [ov_i c, ov_i x4, ov_i t]) (st := [ov_r 48]) (d2 := d - 1) d_155_17 lk_Ways_79 rfl (Nat.le_of_ble_eq_true rfl) (by omega) (c_Ways_turnedCell (d - 1) (by omega) U I7 c x4 t (by omega) (by omega) (by omega) (by omega) (by omega) (by omega)) ?_
        rintro _ _ _ ⟨v12, rfl, rfl, rfl, f11⟩
        show ov_R u d ov_m155 20 [(0, ov_r 46), (1, ov_i c), (2, ov_i t), (3, ov_i o), (4, ov_i x4)] [ov_i v12, ov_r 48] z5 h6 (P_Ways_goOnTurning_46_k46_3_58 F z h c t o)
        have f13 : v12 = (c * 2 + x4) * 13 + t := f11
        clear f11
        refine ov_iald d_155_20 (zb_48 I7) (zs_48 I7) (by omega) ?_
        have g14 := ra_48 I7 v12
        refine ov_blk (ls2 := [(0, ov_r 46), (1, ov_i c), (2, ov_i t), (3, ov_i o), (4, ov_i x4), (5, ov_i (h6 48 v12))]) (st2 := [ov_i (-1), ov_i (h6 48 v12)]) (pc2 := 26) b_155_21_3 rfl rfl ?_
        refine ov_iceq (tgt := 58) d_155_26 (by decide) (by omega) (by omega) (fun c15 => ?_) (fun c15 => ?_)
        · skip
          refine ov_blk (ls2 := [(0, ov_r 46), (1, ov_i c), (2, ov_i t), (3, ov_i o), (4, ov_i (x4 + 1)), (5, ov_i (h6 48 v12))]) (st2 := []) (pc2 := 61) b_155_58_1 rfl rfl ?_
          refine ov_goto (tgt := 3) d_155_61 (by decide) ?_
          refine ov_sub (ls2 := [(0, ov_r 46), (1, ov_i c), (2, ov_i t), (3, ov_i o), (4, ov_i (x4 + 1))]) (List.Sublist.subset (by repeat (first | exact List.Sublist.refl _ | apply List.Sublist.cons_cons | apply List.Sublist.cons))) ?_
          exact ih2 (x4 + 1) _ _ I7 (by show 0 ≤ (x4 + 1) ∧ (x4 + 1) ≤ 2 ∧ (h6 36 7) = (h 36 7) ∧ (h6 1 1) = (h 1 1) ∧ (h6 90 2) = (h 90 2) ∧ (h6 0 10) = (h 0 10) ∧ (h6 0 11) = (h 0 11) ∧ (h6 0 12) = (h 0 12) ∧ (h6 0 13) = (h 0 13) ∧ (h6 3 1) = (h 3 1) ∧ (h6 36 8) = (h 36 8) ∧ (h6 46 3) = (h 46 3) ∧ (h6 46 4) = (h 46 4) ∧ (h6 49 4) = (h 49 4) ∧ (h6 49 5) = (h 49 5) ∧ (h6 64 0) = (h 64 0) ∧ (h6 76 0) = (h 76 0) ∧ (h6 46 3) = 58; omega) (by omega)
        · skip
          refine ov_blk (ls2 := [(0, ov_r 46), (1, ov_i c), (2, ov_i t), (3, ov_i o), (4, ov_i x4), (5, ov_i (h6 48 v12))]) (st2 := [ov_i t, ov_i (h6 48 v12), ov_i x4, ov_i c, ov_r 46]) (pc2 := 36) b_155_29_5 rfl rfl ?_
          refine ov_cV (as := [ov_i c, ov_i x4, ov_i (h6 48 v12), ov_i t]) (st := []) (d2 := d - 1) d_155_36 lk_Ways_71 rfl (Nat.le_of_ble_eq_true rfl) (c := 12) (zb_46 I7) (zs_46 I7) ⟨by decide, rfl⟩ (by omega) (c_Ways_passTurning_46_k46_3_58 (d - 1) (by omega) U I7 c x4 (h6 48 v12) t e9 (by omega) (by omega) (by omega) (by omega) (by omega) (by omega)) ?_
          rintro _ z17 h18 ⟨rfl, I19, f16⟩
          show ov_R u d ov_m155 39 [(0, ov_r 46), (1, ov_i c), (2, ov_i t), (3, ov_i o), (4, ov_i x4), (5, ov_i (h6 48 v12))] [] z17 h18 (P_Ways_goOnTurning_46_k46_3_58 F z h c t o)
          have f20 : (h18 36 7) = (h6 36 7) ∧ (h18 1 1) = (h6 1 1) ∧ (h18 90 2) = (h6 90 2) ∧ (h18 0 10) = (h6 0 10) ∧ (h18 0 11) = (h6 0 11) ∧ (h18 0 12) = (h6 0 12) ∧ (h18 0 13) = (h6 0 13) ∧ (h18 3 1) = (h6 3 1) ∧ (h18 36 8) = (h6 36 8) ∧ (h18 46 3) = (h6 46 3) ∧ (h18 46 4) = (h6 46 4) ∧ (h18 49 4) = (h6 49 4) ∧ (h18 49 5) = (h6 49 5) ∧ (h18 64 0) = (h6 64 0) ∧ (h18 76 0) = (h6 76 0) := f16
          clear f16
          have e21 : h18 46 3 = 58 := by omega
          refine ov_blk (ls2 := [(0, ov_r 46), (1, ov_i c), (2, ov_i t), (3, ov_i o), (4, ov_i x4), (5, ov_i (h6 48 v12))]) (st2 := [ov_i o, ov_i t]) (pc2 := 41) b_155_39_2 rfl rfl ?_
          refine ov_icge (tgt := 58) d_155_41 (by decide) (by omega) (by omega) (fun c22 => ?_) (fun c22 => ?_)
          · skip
            refine ov_blk (ls2 := [(0, ov_r 46), (1, ov_i c), (2, ov_i t), (3, ov_i o), (4, ov_i (x4 + 1)), (5, ov_i (h6 48 v12))]) (st2 := []) (pc2 := 61) b_155_58_1 rfl rfl ?_
            refine ov_goto (tgt := 3) d_155_61 (by decide) ?_
            refine ov_sub (ls2 := [(0, ov_r 46), (1, ov_i c), (2, ov_i t), (3, ov_i o), (4, ov_i (x4 + 1))]) (List.Sublist.subset (by repeat (first | exact List.Sublist.refl _ | apply List.Sublist.cons_cons | apply List.Sublist.cons))) ?_
            exact ih2 (x4 + 1) _ _ I19 (by show 0 ≤ (x4 + 1) ∧ (x4 + 1) ≤ 2 ∧ (h18 36 7) = (h 36 7) ∧ (h18 1 1) = (h 1 1) ∧ (h18 90 2) = (h 90 2) ∧ (h18 0 10) = (h 0 10) ∧ (h18 0 11) = (h 0 11) ∧ (h18 0 12) = (h 0 12) ∧ (h18 0 13) = (h 0 13) ∧ (h18 3 1) = (h 3 1) ∧ (h18 36 8) = (h 36 8) ∧ (h18 46 3) = (h 46 3) ∧ (h18 46 4) = (h 46 4) ∧ (h18 49 4) = (h 49 4) ∧ (h18 49 5) = (h 49 5) ∧ (h18 64 0) = (h 64 0) ∧ (h18 76 0) = (h 76 0) ∧ (h18 46 3) = 58; omega) (by omega)
          · skip
            refine ov_blk (ls2 := [(0, ov_r 46), (1, ov_i c), (2, ov_i t), (3, ov_i o), (4, ov_i x4), (5, ov_i (h6 48 v12))]) (st2 := [ov_i (t + 1), ov_i (h6 48 v12), ov_i (1 - x4), ov_i c, ov_r 46]) (pc2 := 55) b_155_44_9 rfl rfl ?_
            refine ov_cV (as := [ov_i c, ov_i (1 - x4), ov_i (h6 48 v12), ov_i (t + 1)]) (st := []) (d2 := d - 1) d_155_55 lk_Ways_71 rfl (Nat.le_of_ble_eq_true rfl) (c := 12) (zb_46 I19) (zs_46 I19) ⟨by decide, rfl⟩ (by omega) (c_Ways_passTurning_46_k46_3_58 (d - 1) (by omega) U I19 c (1 - x4) (h6 48 v12) (t + 1) e21 (by omega) (by omega) (by omega) (by omega) (by omega) (by omega)) ?_
            rintro _ z24 h25 ⟨rfl, I26, f23⟩
            show ov_R u d ov_m155 58 [(0, ov_r 46), (1, ov_i c), (2, ov_i t), (3, ov_i o), (4, ov_i x4), (5, ov_i (h6 48 v12))] [] z24 h25 (P_Ways_goOnTurning_46_k46_3_58 F z h c t o)
            have f27 : (h25 36 7) = (h18 36 7) ∧ (h25 1 1) = (h18 1 1) ∧ (h25 90 2) = (h18 90 2) ∧ (h25 0 10) = (h18 0 10) ∧ (h25 0 11) = (h18 0 11) ∧ (h25 0 12) = (h18 0 12) ∧ (h25 0 13) = (h18 0 13) ∧ (h25 3 1) = (h18 3 1) ∧ (h25 36 8) = (h18 36 8) ∧ (h25 46 3) = (h18 46 3) ∧ (h25 46 4) = (h18 46 4) ∧ (h25 49 4) = (h18 49 4) ∧ (h25 49 5) = (h18 49 5) ∧ (h25 64 0) = (h18 64 0) ∧ (h25 76 0) = (h18 76 0) := f23
            clear f23
            have e28 : h25 46 3 = 58 := by omega
            refine ov_blk (ls2 := [(0, ov_r 46), (1, ov_i c), (2, ov_i t), (3, ov_i o), (4, ov_i (x4 + 1)), (5, ov_i (h6 48 v12))]) (st2 := []) (pc2 := 61) b_155_58_1 rfl rfl ?_
            refine ov_goto (tgt := 3) d_155_61 (by decide) ?_
            refine ov_sub (ls2 := [(0, ov_r 46), (1, ov_i c), (2, ov_i t), (3, ov_i o), (4, ov_i (x4 + 1))]) (List.Sublist.subset (by repeat (first | exact List.Sublist.refl _ | apply List.Sublist.cons_cons | apply List.Sublist.cons))) ?_
            exact ih2 (x4 + 1) _ _ I26 (by show 0 ≤ (x4 + 1) ∧ (x4 + 1) ≤ 2 ∧ (h25 36 7) = (h 36 7) ∧ (h25 1 1) = (h 1 1) ∧ (h25 90 2) = (h 90 2) ∧ (h25 0 10) = (h 0 10) ∧ (h25 0 11) = (h 0 11) ∧ (h25 0 12) = (h 0 12) ∧ (h25 0 13) = (h 0 13) ∧ (h25 3 1) = (h 3 1) ∧ (h25 36 8) = (h 36 8) ∧ (h25 46 3) = (h 46 3) ∧ (h25 46 4) = (h 46 4) ∧ (h25 49 4) = (h 49 4) ∧ (h25 49 5) = (h 49 5) ∧ (h25 64 0) = (h 64 0) ∧ (h25 76 0) = (h 76 0) ∧ (h25 46 3) = 58; omega) (by omega)
  exact L4 3 0 _ _ I (by show 0 ≤ 0 ∧ 0 ≤ 2 ∧ (h 36 7) = (h 36 7) ∧ (h 1 1) = (h 1 1) ∧ (h 90 2) = (h 90 2) ∧ (h 0 10) = (h 0 10) ∧ (h 0 11) = (h 0 11) ∧ (h 0 12) = (h 0 12) ∧ (h 0 13) = (h 0 13) ∧ (h 3 1) = (h 3 1) ∧ (h 36 8) = (h 36 8) ∧ (h 46 3) = (h 46 3) ∧ (h 46 4) = (h 46 4) ∧ (h 49 4) = (h 49 4) ∧ (h 49 5) = (h 49 5) ∧ (h 64 0) = (h 64 0) ∧ (h 76 0) = (h 76 0) ∧ (h 46 3) = 58; omega) (by omega)
abbrev P_Ways_arrivalTurning_46_58 (F : ov_H) (z : ov_Z) (h : ov_H) (s : Int) (o : Int) : Option ov_V → ov_Z → ov_H → Prop := fun r0 z' h' => ∃ r : Int, r0 = some (ov_i r) ∧ ov_I F z' h' ∧ (-2147483648 ≤ r ∧ r ≤ 2147483647 ∧ (h' 36 7) = (h 36 7) ∧ (h' 1 1) = (h 1 1) ∧ (h' 90 2) = (h 90 2) ∧ (h' 0 10) = (h 0 10) ∧ (h' 0 11) = (h 0 11) ∧ (h' 0 12) = (h 0 12) ∧ (h' 0 13) = (h 0 13) ∧ (h' 3 1) = (h 3 1) ∧ (h' 36 8) = (h 36 8) ∧ (h' 46 4) = (h 46 4) ∧ (h' 49 4) = (h 49 4) ∧ (h' 49 5) = (h 49 5) ∧ (h' 64 0) = (h 64 0) ∧ (h' 76 0) = (h 76 0))
set_option maxHeartbeats 4000000 in
theorem c_Ways_arrivalTurning_46_58 {u : ov_U} {F : ov_H} {z : ov_Z} {h : ov_H} (d : Nat) (hd : 5 ≤ d) (U : ov_cap u) (I : ov_I F z h) (s : Int) (o : Int) (g_s : ov_g s) (g_o : ov_g o) (p0 : 0 ≤ o ∧ o ≤ 12) (p1 : F (-5) 58 = 1) : ov_T u d ov_m152 [ov_r 46, ov_r 58, ov_i s, ov_i o] z h (P_Ways_arrivalTurning_46_58 F z h s o) := by
  refine ov_en rfl (Nat.le_of_ble_eq_true rfl) ?_
  show ov_R u d ov_m152 0 [(0, ov_r 46), (1, ov_r 58), (2, ov_i s), (3, ov_i o)] [] z h (P_Ways_arrivalTurning_46_58 F z h s o)
  refine ov_blk (ls2 := [(0, ov_r 46), (1, ov_r 58), (2, ov_i s), (3, ov_i o)]) (st2 := [ov_r 58, ov_r 46]) (pc2 := 2) b_152_0_2 rfl rfl ?_
  refine ov_putf (x := 58) d_152_2 fl_Ways_18 (zb_46 I) (zs_46 I) rfl nk_2 rfl ?_
  have I1 := up_46_3 (x := 58) I (by omega)
  refine ov_blk (ls2 := [(0, ov_r 46), (1, ov_r 58), (2, ov_i s), (3, ov_i o)]) (st2 := [ov_r 46]) (pc2 := 6) b_152_5_1 rfl rfl ?_
  refine ov_getf (v := ov_r 58) d_152_6 fl_Ways_18 (zb_46 I1) (zs_46 I1) rfl ?_
  refine ov_cV (as := []) (st := []) (d2 := d - 1) d_152_9 lk_Ways_28 rfl (Nat.le_of_ble_eq_true rfl) (c := 9) (zb_58 I1) (zs_58 I1) ⟨by decide, rfl⟩ (by omega) (c_Town_home_58 (d - 1) (by omega) U I1 (by omega)) ?_
  rintro _ _ _ ⟨v3, rfl, rfl, rfl, f2⟩
  show ov_R u d ov_m152 12 [(0, ov_r 46), (1, ov_r 58), (2, ov_i s), (3, ov_i o)] [ov_i v3] z (ov_up h 46 3 58) (P_Ways_arrivalTurning_46_58 F z h s o)
  have f4 : v3 = ((h 58 1) - 1) * 6 + (h 58 0) - 1 ∧ 0 ≤ v3 ∧ v3 ≤ 53 := f2
  clear f2
  refine ov_blk (ls2 := [(0, ov_r 46), (1, ov_r 58), (2, ov_i s), (3, ov_i o), (4, ov_i v3)]) (st2 := [ov_i v3]) (pc2 := 16) b_152_12_2 rfl rfl ?_
  refine ov_ifne (tgt := 21) d_152_16 (by decide) (by omega) (fun c5 => ?_) (fun c5 => ?_)
  · skip
    refine ov_blk (ls2 := [(0, ov_r 46), (1, ov_r 58), (2, ov_i s), (3, ov_i o), (4, ov_i v3)]) (st2 := [ov_r 46]) (pc2 := 22) b_152_21_1 rfl rfl ?_
    refine ov_getf (v := ov_r 48) d_152_22 fl_Ways_15 (zb_46 I1) (zs_46 I1) (congrArg ov_r (rg_46_6 I1)) ?_
    refine ov_blk (ls2 := [(0, ov_r 46), (1, ov_r 58), (2, ov_i s), (3, ov_i o), (4, ov_i v3)]) (st2 := [ov_i (-1), ov_r 48]) (pc2 := 26) b_152_25_1 rfl rfl ?_
    refine ov_cS (as := [ov_r 48, ov_i (-1)]) (st := []) (d2 := d - 1) d_152_26 lk_Ways_22 rfl (Nat.le_of_ble_eq_true rfl) (by omega) (c_Arrays_fill_AIIV_48 (d - 1) (by omega) U I1 (-1) (by omega) (by omega)) ?_
    rintro _ z7 h8 ⟨rfl, I9, f6⟩
    show ov_R u d ov_m152 29 [(0, ov_r 46), (1, ov_r 58), (2, ov_i s), (3, ov_i o), (4, ov_i v3)] [] z7 h8 (P_Ways_arrivalTurning_46_58 F z h s o)
    have f10 : (h8 36 7) = (h 36 7) ∧ (h8 1 1) = (h 1 1) ∧ (h8 90 2) = (h 90 2) ∧ (h8 0 10) = (h 0 10) ∧ (h8 0 11) = (h 0 11) ∧ (h8 0 12) = (h 0 12) ∧ (h8 0 13) = (h 0 13) ∧ (h8 3 1) = (h 3 1) ∧ (h8 36 8) = (h 36 8) ∧ (h8 46 3) = 58 ∧ (h8 46 4) = (h 46 4) ∧ (h8 49 4) = (h 49 4) ∧ (h8 49 5) = (h 49 5) ∧ (h8 64 0) = (h 64 0) ∧ (h8 76 0) = (h 76 0) := f6
    clear f6
    have e11 : h8 46 3 = 58 := by omega
    refine ov_blk (ls2 := [(0, ov_r 46), (1, ov_r 58), (2, ov_i s), (3, ov_i o), (4, ov_i v3)]) (st2 := [ov_i 0, ov_i s, ov_i 0, ov_i 0, ov_r 46]) (pc2 := 34) b_152_29_5 rfl rfl ?_
    refine ov_cV (as := [ov_i 0, ov_i 0, ov_i s, ov_i 0]) (st := []) (d2 := d - 1) d_152_34 lk_Ways_71 rfl (Nat.le_of_ble_eq_true rfl) (c := 12) (zb_46 I9) (zs_46 I9) ⟨by decide, rfl⟩ (by omega) (c_Ways_passTurning_46_k46_3_58 (d - 1) (by omega) U I9 0 0 s 0 e11 (by omega) (by omega) (by omega) (by omega) (by omega) (by omega)) ?_
    rintro _ z13 h14 ⟨rfl, I15, f12⟩
    show ov_R u d ov_m152 37 [(0, ov_r 46), (1, ov_r 58), (2, ov_i s), (3, ov_i o), (4, ov_i v3)] [] z13 h14 (P_Ways_arrivalTurning_46_58 F z h s o)
    have f16 : (h14 36 7) = (h8 36 7) ∧ (h14 1 1) = (h8 1 1) ∧ (h14 90 2) = (h8 90 2) ∧ (h14 0 10) = (h8 0 10) ∧ (h14 0 11) = (h8 0 11) ∧ (h14 0 12) = (h8 0 12) ∧ (h14 0 13) = (h8 0 13) ∧ (h14 3 1) = (h8 3 1) ∧ (h14 36 8) = (h8 36 8) ∧ (h14 46 3) = (h8 46 3) ∧ (h14 46 4) = (h8 46 4) ∧ (h14 49 4) = (h8 49 4) ∧ (h14 49 5) = (h8 49 5) ∧ (h14 64 0) = (h8 64 0) ∧ (h14 76 0) = (h8 76 0) := f12
    clear f12
    have e17 : h14 46 3 = 58 := by omega
    refine ov_blk (ls2 := [(0, ov_r 46), (1, ov_r 58), (2, ov_i s), (3, ov_i o), (4, ov_i v3)]) (st2 := [ov_i 0, ov_i s, ov_i 1, ov_i 0, ov_r 46]) (pc2 := 42) b_152_37_5 rfl rfl ?_
    refine ov_cV (as := [ov_i 0, ov_i 1, ov_i s, ov_i 0]) (st := []) (d2 := d - 1) d_152_42 lk_Ways_71 rfl (Nat.le_of_ble_eq_true rfl) (c := 12) (zb_46 I15) (zs_46 I15) ⟨by decide, rfl⟩ (by omega) (c_Ways_passTurning_46_k46_3_58 (d - 1) (by omega) U I15 0 1 s 0 e17 (by omega) (by omega) (by omega) (by omega) (by omega) (by omega)) ?_
    rintro _ z19 h20 ⟨rfl, I21, f18⟩
    show ov_R u d ov_m152 45 [(0, ov_r 46), (1, ov_r 58), (2, ov_i s), (3, ov_i o), (4, ov_i v3)] [] z19 h20 (P_Ways_arrivalTurning_46_58 F z h s o)
    have f22 : (h20 36 7) = (h14 36 7) ∧ (h20 1 1) = (h14 1 1) ∧ (h20 90 2) = (h14 90 2) ∧ (h20 0 10) = (h14 0 10) ∧ (h20 0 11) = (h14 0 11) ∧ (h20 0 12) = (h14 0 12) ∧ (h20 0 13) = (h14 0 13) ∧ (h20 3 1) = (h14 3 1) ∧ (h20 36 8) = (h14 36 8) ∧ (h20 46 3) = (h14 46 3) ∧ (h20 46 4) = (h14 46 4) ∧ (h20 49 4) = (h14 49 4) ∧ (h20 49 5) = (h14 49 5) ∧ (h20 64 0) = (h14 64 0) ∧ (h20 76 0) = (h14 76 0) := f18
    clear f18
    have e23 : h20 46 3 = 58 := by omega
    refine ov_blk (ls2 := [(0, ov_r 46), (1, ov_r 58), (2, ov_i s), (3, ov_i o), (4, ov_i v3), (5, ov_i 1)]) (st2 := []) (pc2 := 48) b_152_45_2 rfl rfl ?_
    have L27 : ∀ (n24 : Nat) (x5 : Int) (z28 : ov_Z) (h29 : ov_H) (I30 : ov_I F z28 h29) (q26 : 1 ≤ x5 ∧ x5 ≤ 53 ∧ (h29 36 7) = (h 36 7) ∧ (h29 1 1) = (h 1 1) ∧ (h29 90 2) = (h 90 2) ∧ (h29 0 10) = (h 0 10) ∧ (h29 0 11) = (h 0 11) ∧ (h29 0 12) = (h 0 12) ∧ (h29 0 13) = (h 0 13) ∧ (h29 3 1) = (h 3 1) ∧ (h29 36 8) = (h 36 8) ∧ (h29 46 4) = (h 46 4) ∧ (h29 49 4) = (h 49 4) ∧ (h29 49 5) = (h 49 5) ∧ (h29 64 0) = (h 64 0) ∧ (h29 76 0) = (h 76 0) ∧ h29 46 3 = 58), 53 - x5 < (n24 : Int) → ov_R u d ov_m152 48 [(0, ov_r 46), (1, ov_r 58), (2, ov_i s), (3, ov_i o), (4, ov_i v3), (5, ov_i x5)] [] z28 h29 (P_Ways_arrivalTurning_46_58 F z h s o) := by
      intro n24
      induction n24 with
      | zero =>
        intro x5 z28 h29 I30 q26 hn31
        exact absurd hn31 (by omega)
      | succ n24 ih25 =>
        intro x5 z28 h29 I30 q26 hn31
        have e32 : h29 46 3 = 58 := by omega
        refine ov_blk (ls2 := [(0, ov_r 46), (1, ov_r 58), (2, ov_i s), (3, ov_i o), (4, ov_i v3), (5, ov_i x5)]) (st2 := [ov_i v3, ov_i x5]) (pc2 := 52) b_152_48_2 rfl rfl ?_
        refine ov_icge (tgt := 85) d_152_52 (by decide) (by omega) (by omega) (fun c33 => ?_) (fun c33 => ?_)
        · skip
          refine ov_blk (ls2 := [(0, ov_r 46), (1, ov_r 58), (2, ov_i s), (3, ov_i o), (4, ov_i v3), (5, ov_i (-1)), (6, ov_i 0)]) (st2 := []) (pc2 := 91) b_152_85_4 rfl rfl ?_
          have L37 : ∀ (n34 : Nat) (x5_ : Int) (x6 : Int) (q36 : ov_g x5_ ∧ 0 ≤ x6 ∧ x6 ≤ 13), 13 - x6 < (n34 : Int) → ov_R u d ov_m152 91 [(0, ov_r 46), (1, ov_r 58), (2, ov_i s), (3, ov_i o), (4, ov_i v3), (5, ov_i x5_), (6, ov_i x6)] [] z28 h29 (P_Ways_arrivalTurning_46_58 F z h s o) := by
            intro n34
            induction n34 with
            | zero =>
              intro x5_ x6 q36 hn38
              exact absurd hn38 (by omega)
            | succ n34 ih35 =>
              intro x5_ x6 q36 hn38
              refine ov_blk (ls2 := [(0, ov_r 46), (1, ov_r 58), (2, ov_i s), (3, ov_i o), (4, ov_i v3), (5, ov_i x5_), (6, ov_i x6)]) (st2 := [ov_i o, ov_i x6]) (pc2 := 94) b_152_91_2 rfl rfl ?_
              refine ov_icgt (tgt := 143) d_152_94 (by decide) (by omega) (by omega) (fun c39 => ?_) (fun c39 => ?_)
              · skip
                refine ov_blk (ls2 := [(0, ov_r 46), (1, ov_r 58), (2, ov_i s), (3, ov_i o), (4, ov_i v3), (5, ov_i x5_), (6, ov_i x6)]) (st2 := [ov_i x5_]) (pc2 := 145) b_152_143_1 rfl rfl ?_
                exact ov_reti (st := []) d_152_145 rfl ⟨_, rfl, I30, (by show -2147483648 ≤ x5_ ∧ x5_ ≤ 2147483647 ∧ (h29 36 7) = (h 36 7) ∧ (h29 1 1) = (h 1 1) ∧ (h29 90 2) = (h 90 2) ∧ (h29 0 10) = (h 0 10) ∧ (h29 0 11) = (h 0 11) ∧ (h29 0 12) = (h 0 12) ∧ (h29 0 13) = (h 0 13) ∧ (h29 3 1) = (h 3 1) ∧ (h29 36 8) = (h 36 8) ∧ (h29 46 4) = (h 46 4) ∧ (h29 49 4) = (h 49 4) ∧ (h29 49 5) = (h 49 5) ∧ (h29 64 0) = (h 64 0) ∧ (h29 76 0) = (h 76 0); omega)⟩
              · skip
                refine ov_blk (ls2 := [(0, ov_r 46), (1, ov_r 58), (2, ov_i s), (3, ov_i o), (4, ov_i v3), (5, ov_i x5_), (6, ov_i x6)]) (st2 := [ov_r 46, ov_i x5_]) (pc2 := 100) b_152_97_2 rfl rfl ?_
                refine ov_getf (v := ov_r 48) d_152_100 fl_Ways_15 (zb_46 I30) (zs_46 I30) (congrArg ov_r (rg_46_6 I30)) ?_
                refine ov_blk (ls2 := [(0, ov_r 46), (1, ov_r 58), (2, ov_i s), (3, ov_i o), (4, ov_i v3), (5, ov_i x5_), (6, ov_i x6)]) (st2 := [ov_i x6, ov_i 0, ov_i v3, ov_r 48, ov_i x5_]) (pc2 := 108) b_152_103_3 rfl rfl ?_
                refine ov_cS (as := [ov_i v3, ov_i 0, ov_i x6]) (st := [ov_r 48, ov_i x5_]) (d2 := d - 1) d_152_108 lk_Ways_79 rfl (Nat.le_of_ble_eq_true rfl) (by omega) (c_Ways_turnedCell (d - 1) (by omega) U I30 v3 0 x6 (by omega) (by omega) (by omega) (by omega) (by omega) (by omega)) ?_
                rintro _ _ _ ⟨v41, rfl, rfl, rfl, f40⟩
                show ov_R u d ov_m152 111 [(0, ov_r 46), (1, ov_r 58), (2, ov_i s), (3, ov_i o), (4, ov_i v3), (5, ov_i x5_), (6, ov_i x6)] [ov_i v41, ov_r 48, ov_i x5_] z28 h29 (P_Ways_arrivalTurning_46_58 F z h s o)
                have f42 : v41 = (v3 * 2 + (0 : Int)) * 13 + x6 := f40
                clear f40
                refine ov_iald d_152_111 (zb_48 I30) (zs_48 I30) (by omega) ?_
                have g43 := ra_48 I30 v41
                refine ov_cSN (as := [ov_i x5_, ov_i (h29 48 v41)]) (st := []) (d2 := d - 1) d_152_112 lk_Ways_50 rfl (Nat.le_of_ble_eq_true rfl) (by omega) (c_OF_lesser (d - 1) (by omega) U I30 x5_ (h29 48 v41) (by omega) (by omega)) ?_
                rintro _ _ _ ⟨v45, rfl, rfl, rfl, f44⟩
                show ov_R u d ov_m152 115 [(0, ov_r 46), (1, ov_r 58), (2, ov_i s), (3, ov_i o), (4, ov_i v3), (5, ov_i x5_), (6, ov_i x6)] [ov_i v45] z28 h29 (P_Ways_arrivalTurning_46_58 F z h s o)
                have f46 : (v45 = x5_ ∨ v45 = (h29 48 v41)) := f44
                clear f44
                refine ov_blk (ls2 := [(0, ov_r 46), (1, ov_r 58), (2, ov_i s), (3, ov_i o), (4, ov_i v3), (5, ov_i v45), (6, ov_i x6)]) (st2 := [ov_r 46, ov_i v45]) (pc2 := 120) b_152_115_3 rfl rfl ?_
                refine ov_getf (v := ov_r 48) d_152_120 fl_Ways_15 (zb_46 I30) (zs_46 I30) (congrArg ov_r (rg_46_6 I30)) ?_
                refine ov_blk (ls2 := [(0, ov_r 46), (1, ov_r 58), (2, ov_i s), (3, ov_i o), (4, ov_i v3), (5, ov_i v45), (6, ov_i x6)]) (st2 := [ov_i x6, ov_i 1, ov_i v3, ov_r 48, ov_i v45]) (pc2 := 128) b_152_123_3 rfl rfl ?_
                refine ov_cS (as := [ov_i v3, ov_i 1, ov_i x6]) (st := [ov_r 48, ov_i v45]) (d2 := d - 1) d_152_128 lk_Ways_79 rfl (Nat.le_of_ble_eq_true rfl) (by omega) (c_Ways_turnedCell (d - 1) (by omega) U I30 v3 1 x6 (by omega) (by omega) (by omega) (by omega) (by omega) (by omega)) ?_
                rintro _ _ _ ⟨v48, rfl, rfl, rfl, f47⟩
                show ov_R u d ov_m152 131 [(0, ov_r 46), (1, ov_r 58), (2, ov_i s), (3, ov_i o), (4, ov_i v3), (5, ov_i v45), (6, ov_i x6)] [ov_i v48, ov_r 48, ov_i v45] z28 h29 (P_Ways_arrivalTurning_46_58 F z h s o)
                have f49 : v48 = (v3 * 2 + (1 : Int)) * 13 + x6 := f47
                clear f47
                refine ov_iald d_152_131 (zb_48 I30) (zs_48 I30) (by omega) ?_
                have g50 := ra_48 I30 v48
                refine ov_cSN (as := [ov_i v45, ov_i (h29 48 v48)]) (st := []) (d2 := d - 1) d_152_132 lk_Ways_50 rfl (Nat.le_of_ble_eq_true rfl) (by omega) (c_OF_lesser (d - 1) (by omega) U I30 v45 (h29 48 v48) (by omega) (by omega)) ?_
                rintro _ _ _ ⟨v52, rfl, rfl, rfl, f51⟩
                show ov_R u d ov_m152 135 [(0, ov_r 46), (1, ov_r 58), (2, ov_i s), (3, ov_i o), (4, ov_i v3), (5, ov_i v45), (6, ov_i x6)] [ov_i v52] z28 h29 (P_Ways_arrivalTurning_46_58 F z h s o)
                have f53 : (v52 = v45 ∨ v52 = (h29 48 v48)) := f51
                clear f51
                refine ov_blk (ls2 := [(0, ov_r 46), (1, ov_r 58), (2, ov_i s), (3, ov_i o), (4, ov_i v3), (5, ov_i v52), (6, ov_i (x6 + 1))]) (st2 := []) (pc2 := 140) b_152_135_2 rfl rfl ?_
                refine ov_goto (tgt := 91) d_152_140 (by decide) ?_
                exact ih35 v52 (x6 + 1) (by show ov_g v52 ∧ 0 ≤ (x6 + 1) ∧ (x6 + 1) ≤ 13; omega) (by omega)
          exact L37 14 (-1) 0 (by show ov_g (-1) ∧ 0 ≤ 0 ∧ 0 ≤ 13; omega) (by omega)
        · skip
          refine ov_blk (ls2 := [(0, ov_r 46), (1, ov_r 58), (2, ov_i s), (3, ov_i o), (4, ov_i v3), (5, ov_i x5), (6, ov_i 0)]) (st2 := []) (pc2 := 58) b_152_55_2 rfl rfl ?_
          have L57 : ∀ (n54 : Nat) (x6_ : Int) (z58 : ov_Z) (h59 : ov_H) (I60 : ov_I F z58 h59) (q56 : 0 ≤ x6_ ∧ x6_ ≤ 13 ∧ (h59 36 7) = (h 36 7) ∧ (h59 1 1) = (h 1 1) ∧ (h59 90 2) = (h 90 2) ∧ (h59 0 10) = (h 0 10) ∧ (h59 0 11) = (h 0 11) ∧ (h59 0 12) = (h 0 12) ∧ (h59 0 13) = (h 0 13) ∧ (h59 3 1) = (h 3 1) ∧ (h59 36 8) = (h 36 8) ∧ (h59 46 4) = (h 46 4) ∧ (h59 49 4) = (h 49 4) ∧ (h59 49 5) = (h 49 5) ∧ (h59 64 0) = (h 64 0) ∧ (h59 76 0) = (h 76 0) ∧ h59 46 3 = 58), 13 - x6_ < (n54 : Int) → ov_R u d ov_m152 58 [(0, ov_r 46), (1, ov_r 58), (2, ov_i s), (3, ov_i o), (4, ov_i v3), (5, ov_i x5), (6, ov_i x6_)] [] z58 h59 (P_Ways_arrivalTurning_46_58 F z h s o) := by
            intro n54
            induction n54 with
            | zero =>
              intro x6_ z58 h59 I60 q56 hn61
              exact absurd hn61 (by omega)
            | succ n54 ih55 =>
              intro x6_ z58 h59 I60 q56 hn61
              have e62 : h59 46 3 = 58 := by omega
              refine ov_blk (ls2 := [(0, ov_r 46), (1, ov_r 58), (2, ov_i s), (3, ov_i o), (4, ov_i v3), (5, ov_i x5), (6, ov_i x6_)]) (st2 := [ov_i o, ov_i x6_]) (pc2 := 61) b_152_58_2 rfl rfl ?_
              refine ov_icgt (tgt := 79) d_152_61 (by decide) (by omega) (by omega) (fun c63 => ?_) (fun c63 => ?_)
              · skip
                refine ov_blk (ls2 := [(0, ov_r 46), (1, ov_r 58), (2, ov_i s), (3, ov_i o), (4, ov_i v3), (5, ov_i (x5 + 1)), (6, ov_i x6_)]) (st2 := []) (pc2 := 82) b_152_79_1 rfl rfl ?_
                refine ov_goto (tgt := 48) d_152_82 (by decide) ?_
                refine ov_sub (ls2 := [(0, ov_r 46), (1, ov_r 58), (2, ov_i s), (3, ov_i o), (4, ov_i v3), (5, ov_i (x5 + 1))]) (List.Sublist.subset (by repeat (first | exact List.Sublist.refl _ | apply List.Sublist.cons_cons | apply List.Sublist.cons))) ?_
                exact ih25 (x5 + 1) _ _ I60 (by show 1 ≤ (x5 + 1) ∧ (x5 + 1) ≤ 53 ∧ (h59 36 7) = (h 36 7) ∧ (h59 1 1) = (h 1 1) ∧ (h59 90 2) = (h 90 2) ∧ (h59 0 10) = (h 0 10) ∧ (h59 0 11) = (h 0 11) ∧ (h59 0 12) = (h 0 12) ∧ (h59 0 13) = (h 0 13) ∧ (h59 3 1) = (h 3 1) ∧ (h59 36 8) = (h 36 8) ∧ (h59 46 4) = (h 46 4) ∧ (h59 49 4) = (h 49 4) ∧ (h59 49 5) = (h 49 5) ∧ (h59 64 0) = (h 64 0) ∧ (h59 76 0) = (h 76 0) ∧ (h59 46 3) = 58; omega) (by omega)
              · skip
                refine ov_blk (ls2 := [(0, ov_r 46), (1, ov_r 58), (2, ov_i s), (3, ov_i o), (4, ov_i v3), (5, ov_i x5), (6, ov_i x6_)]) (st2 := [ov_i o, ov_i x6_, ov_i x5, ov_r 46]) (pc2 := 70) b_152_64_4 rfl rfl ?_
                refine ov_cV (as := [ov_i x5, ov_i x6_, ov_i o]) (st := []) (d2 := d - 1) d_152_70 lk_Ways_75 rfl (Nat.le_of_ble_eq_true rfl) (c := 12) (zb_46 I60) (zs_46 I60) ⟨by decide, rfl⟩ (by omega) (c_Ways_goOnTurning_46_k46_3_58 (d - 1) (by omega) U I60 x5 x6_ o e62 (by omega) (by omega) (by omega) (by omega) (by omega)) ?_
                rintro _ z65 h66 ⟨rfl, I67, f64⟩
                show ov_R u d ov_m152 73 [(0, ov_r 46), (1, ov_r 58), (2, ov_i s), (3, ov_i o), (4, ov_i v3), (5, ov_i x5), (6, ov_i x6_)] [] z65 h66 (P_Ways_arrivalTurning_46_58 F z h s o)
                have f68 : (h66 36 7) = (h59 36 7) ∧ (h66 1 1) = (h59 1 1) ∧ (h66 90 2) = (h59 90 2) ∧ (h66 0 10) = (h59 0 10) ∧ (h66 0 11) = (h59 0 11) ∧ (h66 0 12) = (h59 0 12) ∧ (h66 0 13) = (h59 0 13) ∧ (h66 3 1) = (h59 3 1) ∧ (h66 36 8) = (h59 36 8) ∧ (h66 46 3) = (h59 46 3) ∧ (h66 46 4) = (h59 46 4) ∧ (h66 49 4) = (h59 49 4) ∧ (h66 49 5) = (h59 49 5) ∧ (h66 64 0) = (h59 64 0) ∧ (h66 76 0) = (h59 76 0) := f64
                clear f64
                have e69 : h66 46 3 = 58 := by omega
                refine ov_blk (ls2 := [(0, ov_r 46), (1, ov_r 58), (2, ov_i s), (3, ov_i o), (4, ov_i v3), (5, ov_i x5), (6, ov_i (x6_ + 1))]) (st2 := []) (pc2 := 76) b_152_73_1 rfl rfl ?_
                refine ov_goto (tgt := 58) d_152_76 (by decide) ?_
                exact ih55 (x6_ + 1) _ _ I67 (by show 0 ≤ (x6_ + 1) ∧ (x6_ + 1) ≤ 13 ∧ (h66 36 7) = (h 36 7) ∧ (h66 1 1) = (h 1 1) ∧ (h66 90 2) = (h 90 2) ∧ (h66 0 10) = (h 0 10) ∧ (h66 0 11) = (h 0 11) ∧ (h66 0 12) = (h 0 12) ∧ (h66 0 13) = (h 0 13) ∧ (h66 3 1) = (h 3 1) ∧ (h66 36 8) = (h 36 8) ∧ (h66 46 4) = (h 46 4) ∧ (h66 49 4) = (h 49 4) ∧ (h66 49 5) = (h 49 5) ∧ (h66 64 0) = (h 64 0) ∧ (h66 76 0) = (h 76 0) ∧ (h66 46 3) = 58; omega) (by omega)
          exact L57 14 0 _ _ I30 (by show 0 ≤ 0 ∧ 0 ≤ 13 ∧ (h29 36 7) = (h 36 7) ∧ (h29 1 1) = (h 1 1) ∧ (h29 90 2) = (h 90 2) ∧ (h29 0 10) = (h 0 10) ∧ (h29 0 11) = (h 0 11) ∧ (h29 0 12) = (h 0 12) ∧ (h29 0 13) = (h 0 13) ∧ (h29 3 1) = (h 3 1) ∧ (h29 36 8) = (h 36 8) ∧ (h29 46 4) = (h 46 4) ∧ (h29 49 4) = (h 49 4) ∧ (h29 49 5) = (h 49 5) ∧ (h29 64 0) = (h 64 0) ∧ (h29 76 0) = (h 76 0) ∧ (h29 46 3) = 58; omega) (by omega)
    exact L27 54 1 _ _ I21 (by show 1 ≤ 1 ∧ 1 ≤ 53 ∧ (h20 36 7) = (h 36 7) ∧ (h20 1 1) = (h 1 1) ∧ (h20 90 2) = (h 90 2) ∧ (h20 0 10) = (h 0 10) ∧ (h20 0 11) = (h 0 11) ∧ (h20 0 12) = (h 0 12) ∧ (h20 0 13) = (h 0 13) ∧ (h20 3 1) = (h 3 1) ∧ (h20 36 8) = (h 36 8) ∧ (h20 46 4) = (h 46 4) ∧ (h20 49 4) = (h 49 4) ∧ (h20 49 5) = (h 49 5) ∧ (h20 64 0) = (h 64 0) ∧ (h20 76 0) = (h 76 0) ∧ (h20 46 3) = 58; omega) (by omega)
  · skip
    refine ov_blk (ls2 := [(0, ov_r 46), (1, ov_r 58), (2, ov_i s), (3, ov_i o), (4, ov_i v3)]) (st2 := [ov_i s]) (pc2 := 20) b_152_19_1 rfl rfl ?_
    exact ov_reti (st := []) d_152_20 rfl ⟨_, rfl, I1, (by show -2147483648 ≤ s ∧ s ≤ 2147483647 ∧ (h 36 7) = (h 36 7) ∧ (h 1 1) = (h 1 1) ∧ (h 90 2) = (h 90 2) ∧ (h 0 10) = (h 0 10) ∧ (h 0 11) = (h 0 11) ∧ (h 0 12) = (h 0 12) ∧ (h 0 13) = (h 0 13) ∧ (h 3 1) = (h 3 1) ∧ (h 36 8) = (h 36 8) ∧ (h 46 4) = (h 46 4) ∧ (h 49 4) = (h 49 4) ∧ (h 49 5) = (h 49 5) ∧ (h 64 0) = (h 64 0) ∧ (h 76 0) = (h 76 0); omega)⟩
abbrev P_Ways_trace_46_k46_3_58_k46_4_4 (F : ov_H) (z : ov_Z) (h : ov_H) (c : Int) (s : Int) (n : Int) (bits : Int) (mask : Int) (met : Int) : Option ov_V → ov_Z → ov_H → Prop := fun r0 z' h' => r0 = none ∧ ov_I F z' h' ∧ (h' 36 7 = h 36 7 ∧ h' 1 1 = h 1 1 ∧ h' 90 2 = h 90 2 ∧ h' 0 10 = h 0 10 ∧ h' 0 11 = h 0 11 ∧ h' 0 12 = h 0 12 ∧ h' 0 13 = h 0 13 ∧ h' 3 1 = h 3 1 ∧ h' 36 8 = h 36 8 ∧ h' 46 3 = h 46 3 ∧ h' 46 4 = h 46 4 ∧ h' 49 4 = h 49 4 ∧ h' 49 5 = h 49 5 ∧ h' 64 0 = h 64 0 ∧ h' 76 0 = h 76 0)
set_option maxHeartbeats 4000000 in
theorem c_Ways_trace_46_k46_3_58_k46_4_4 {u : ov_U} {F : ov_H} (k : Nat) (HC : ∀ k' : Nat, k' < k → ∀ {z : ov_Z} {h : ov_H} (d : Nat) (hd : (10 + 1 * k' ) ≤ d) (U : ov_cap u) (I : ov_I F z h) (c : Int) (s : Int) (n : Int) (bits : Int) (mask : Int) (met : Int) (k0 : h 46 3 = 58) (k1 : h 46 4 = 4) (g_c : ov_g c) (g_s : ov_g s) (g_n : ov_g n) (g_met : ov_g met) (p0 : 0 ≤ c ∧ c ≤ 53) (p1 : 0 ≤ n ∧ n + (k' : Int) = 13) (p2 : F (-5) 58 = 1), ov_T u d ov_m189 [ov_r 46, ov_i c, ov_i s, ov_i n, ov_l bits, ov_l mask, ov_i met] z h (P_Ways_trace_46_k46_3_58_k46_4_4 F z h c s n bits mask met)) {z : ov_Z} {h : ov_H} (d : Nat) (hd : (10 + 1 * k ) ≤ d) (U : ov_cap u) (I : ov_I F z h) (c : Int) (s : Int) (n : Int) (bits : Int) (mask : Int) (met : Int) (k0 : h 46 3 = 58) (k1 : h 46 4 = 4) (g_c : ov_g c) (g_s : ov_g s) (g_n : ov_g n) (g_met : ov_g met) (p0 : 0 ≤ c ∧ c ≤ 53) (p1 : 0 ≤ n ∧ n + (k : Int) = 13) (p2 : F (-5) 58 = 1) : ov_T u d ov_m189 [ov_r 46, ov_i c, ov_i s, ov_i n, ov_l bits, ov_l mask, ov_i met] z h (P_Ways_trace_46_k46_3_58_k46_4_4 F z h c s n bits mask met) := by
  refine ov_en rfl (Nat.le_of_ble_eq_true rfl) ?_
  show ov_R u d ov_m189 0 [(0, ov_r 46), (1, ov_i c), (2, ov_i s), (3, ov_i n), (4, ov_l bits), (6, ov_l mask), (8, ov_i met)] [] z h (P_Ways_trace_46_k46_3_58_k46_4_4 F z h c s n bits mask met)
  refine ov_blk (ls2 := [(0, ov_r 46), (1, ov_i c), (2, ov_i s), (3, ov_i n), (4, ov_l bits), (6, ov_l mask), (8, ov_i met)]) (st2 := [ov_r 46, ov_i c]) (pc2 := 2) b_189_0_2 rfl rfl ?_
  refine ov_getf (v := ov_r 58) d_189_2 fl_Ways_18 (zb_46 I) (zs_46 I) (congrArg ov_r k0) ?_
  refine ov_cV (as := []) (st := [ov_i c]) (d2 := d - 1) d_189_5 lk_Ways_28 rfl (Nat.le_of_ble_eq_true rfl) (c := 9) (zb_58 I) (zs_58 I) ⟨by decide, rfl⟩ (by omega) (c_Town_home_58 (d - 1) (by omega) U I (by omega)) ?_
  rintro _ _ _ ⟨v2, rfl, rfl, rfl, f1⟩
  show ov_R u d ov_m189 8 [(0, ov_r 46), (1, ov_i c), (2, ov_i s), (3, ov_i n), (4, ov_l bits), (6, ov_l mask), (8, ov_i met)] [ov_i v2, ov_i c] z h (P_Ways_trace_46_k46_3_58_k46_4_4 F z h c s n bits mask met)
  have f3 : v2 = ((h 58 1) - 1) * 6 + (h 58 0) - 1 ∧ 0 ≤ v2 ∧ v2 ≤ 53 := f1
  clear f1
  refine ov_icne (tgt := 87) d_189_8 (by decide) (by omega) (by omega) (fun c4 => ?_) (fun c4 => ?_)
  · skip
    refine ov_blk (ls2 := [(0, ov_r 46), (1, ov_i c), (2, ov_i s), (3, ov_i n), (4, ov_l bits), (6, ov_l mask), (8, ov_i met), (9, ov_i 0)]) (st2 := []) (pc2 := 90) b_189_87_2 rfl rfl ?_
    have L8 : ∀ (n5 : Nat) (x9 : Int) (z9 : ov_Z) (h10 : ov_H) (I11 : ov_I F z9 h10) (q7 : 0 ≤ x9 ∧ x9 ≤ 2 ∧ (h10 36 7) = (h 36 7) ∧ (h10 1 1) = (h 1 1) ∧ (h10 90 2) = (h 90 2) ∧ (h10 0 10) = (h 0 10) ∧ (h10 0 11) = (h 0 11) ∧ (h10 0 12) = (h 0 12) ∧ (h10 0 13) = (h 0 13) ∧ (h10 3 1) = (h 3 1) ∧ (h10 36 8) = (h 36 8) ∧ (h10 46 3) = (h 46 3) ∧ (h10 46 4) = (h 46 4) ∧ (h10 49 4) = (h 49 4) ∧ (h10 49 5) = (h 49 5) ∧ (h10 64 0) = (h 64 0) ∧ (h10 76 0) = (h 76 0) ∧ h10 46 3 = 58 ∧ h10 46 4 = 4), 2 - x9 < (n5 : Int) → ov_R u d ov_m189 90 [(0, ov_r 46), (1, ov_i c), (2, ov_i s), (3, ov_i n), (4, ov_l bits), (6, ov_l mask), (8, ov_i met), (9, ov_i x9)] [] z9 h10 (P_Ways_trace_46_k46_3_58_k46_4_4 F z h c s n bits mask met) := by
      intro n5
      induction n5 with
      | zero =>
        intro x9 z9 h10 I11 q7 hn12
        exact absurd hn12 (by omega)
      | succ n5 ih6 =>
        intro x9 z9 h10 I11 q7 hn12
        have e13 : h10 46 3 = 58 := by omega
        have e14 : h10 46 4 = 4 := by omega
        refine ov_blk (ls2 := [(0, ov_r 46), (1, ov_i c), (2, ov_i s), (3, ov_i n), (4, ov_l bits), (6, ov_l mask), (8, ov_i met), (9, ov_i x9)]) (st2 := [ov_i 1, ov_i x9]) (pc2 := 93) b_189_90_2 rfl rfl ?_
        refine ov_icgt (tgt := 208) d_189_93 (by decide) (by omega) (by omega) (fun c15 => ?_) (fun c15 => ?_)
        · skip
          exact ov_retv (st := []) d_189_208 rfl ⟨rfl, I11, (by show (h10 36 7) = (h 36 7) ∧ (h10 1 1) = (h 1 1) ∧ (h10 90 2) = (h 90 2) ∧ (h10 0 10) = (h 0 10) ∧ (h10 0 11) = (h 0 11) ∧ (h10 0 12) = (h 0 12) ∧ (h10 0 13) = (h 0 13) ∧ (h10 3 1) = (h 3 1) ∧ (h10 36 8) = (h 36 8) ∧ (h10 46 3) = (h 46 3) ∧ (h10 46 4) = (h 46 4) ∧ (h10 49 4) = (h 49 4) ∧ (h10 49 5) = (h 49 5) ∧ (h10 64 0) = (h 64 0) ∧ (h10 76 0) = (h 76 0); omega)⟩
        · skip
          refine ov_blk (ls2 := [(0, ov_r 46), (1, ov_i c), (2, ov_i s), (3, ov_i n), (4, ov_l bits), (6, ov_l mask), (8, ov_i met), (9, ov_i x9)]) (st2 := [ov_i 13, ov_i n]) (pc2 := 99) b_189_96_2 rfl rfl ?_
          refine ov_icge (tgt := 208) d_189_99 (by decide) (by omega) (by omega) (fun c16 => ?_) (fun c16 => ?_)
          · skip
            exact ov_retv (st := []) d_189_208 rfl ⟨rfl, I11, (by show (h10 36 7) = (h 36 7) ∧ (h10 1 1) = (h 1 1) ∧ (h10 90 2) = (h 90 2) ∧ (h10 0 10) = (h 0 10) ∧ (h10 0 11) = (h 0 11) ∧ (h10 0 12) = (h 0 12) ∧ (h10 0 13) = (h 0 13) ∧ (h10 3 1) = (h 3 1) ∧ (h10 36 8) = (h 36 8) ∧ (h10 46 3) = (h 46 3) ∧ (h10 46 4) = (h 46 4) ∧ (h10 49 4) = (h 49 4) ∧ (h10 49 5) = (h 49 5) ∧ (h10 64 0) = (h 64 0) ∧ (h10 76 0) = (h 76 0); omega)⟩
          · skip
            refine ov_blk (ls2 := [(0, ov_r 46), (1, ov_i c), (2, ov_i s), (3, ov_i n), (4, ov_l bits), (6, ov_l mask), (8, ov_i met), (9, ov_i x9)]) (st2 := [ov_r 46]) (pc2 := 103) b_189_102_1 rfl rfl ?_
            refine ov_getf (v := ov_r 58) d_189_103 fl_Ways_18 (zb_46 I11) (zs_46 I11) (congrArg ov_r e13) ?_
            refine ov_blk (ls2 := [(0, ov_r 46), (1, ov_i c), (2, ov_i s), (3, ov_i n), (4, ov_l bits), (6, ov_l mask), (8, ov_i met), (9, ov_i x9)]) (st2 := [ov_i x9, ov_i c, ov_r 58]) (pc2 := 109) b_189_106_2 rfl rfl ?_
            refine ov_cV (as := [ov_i c, ov_i x9]) (st := []) (d2 := d - 1) d_189_109 lk_Ways_38 rfl (Nat.le_of_ble_eq_true rfl) (c := 9) (zb_58 I11) (zs_58 I11) ⟨by decide, rfl⟩ (by omega) (c_Town_isOpen_58 (d - 1) (by omega) U I11 c x9 (by omega) (by omega) (by omega)) ?_
            rintro _ _ _ ⟨v18, rfl, rfl, rfl, f17⟩
            show ov_R u d ov_m189 112 [(0, ov_r 46), (1, ov_i c), (2, ov_i s), (3, ov_i n), (4, ov_l bits), (6, ov_l mask), (8, ov_i met), (9, ov_i x9)] [ov_i v18] z9 h10 (P_Ways_trace_46_k46_3_58_k46_4_4 F z h c s n bits mask met)
            have f19 : (v18 = 0 ∨ v18 = 1) ∧ (v18 = 1 → (x9 = 0 ∧ c ≤ 52) ∨ (x9 = 1 ∧ c ≤ 47)) := f17
            clear f17
            refine ov_ifeq (tgt := 202) d_189_112 (by decide) (by omega) (fun c20 => ?_) (fun c20 => ?_)
            · skip
              refine ov_blk (ls2 := [(0, ov_r 46), (1, ov_i c), (2, ov_i s), (3, ov_i n), (4, ov_l bits), (6, ov_l mask), (8, ov_i met), (9, ov_i (x9 + 1))]) (st2 := []) (pc2 := 205) b_189_202_1 rfl rfl ?_
              refine ov_goto (tgt := 90) d_189_205 (by decide) ?_
              exact ih6 (x9 + 1) _ _ I11 (by show 0 ≤ (x9 + 1) ∧ (x9 + 1) ≤ 2 ∧ (h10 36 7) = (h 36 7) ∧ (h10 1 1) = (h 1 1) ∧ (h10 90 2) = (h 90 2) ∧ (h10 0 10) = (h 0 10) ∧ (h10 0 11) = (h 0 11) ∧ (h10 0 12) = (h 0 12) ∧ (h10 0 13) = (h 0 13) ∧ (h10 3 1) = (h 3 1) ∧ (h10 36 8) = (h 36 8) ∧ (h10 46 3) = (h 46 3) ∧ (h10 46 4) = (h 46 4) ∧ (h10 49 4) = (h 49 4) ∧ (h10 49 5) = (h 49 5) ∧ (h10 64 0) = (h 64 0) ∧ (h10 76 0) = (h 76 0) ∧ (h10 46 3) = 58 ∧ (h10 46 4) = 4; omega) (by omega)
            · skip
              refine ov_blk (ls2 := [(0, ov_r 46), (1, ov_i c), (2, ov_i s), (3, ov_i n), (4, ov_l bits), (6, ov_l mask), (8, ov_i met), (9, ov_i x9)]) (st2 := [ov_r 46, ov_i s]) (pc2 := 117) b_189_115_2 rfl rfl ?_
              refine ov_getf (v := ov_r 58) d_189_117 fl_Ways_18 (zb_46 I11) (zs_46 I11) (congrArg ov_r e13) ?_
              refine ov_blk (ls2 := [(0, ov_r 46), (1, ov_i c), (2, ov_i s), (3, ov_i n), (4, ov_l bits), (6, ov_l mask), (8, ov_i met), (9, ov_i x9)]) (st2 := [ov_i s, ov_i x9, ov_i c, ov_r 58, ov_i s]) (pc2 := 124) b_189_120_3 rfl rfl ?_
              refine ov_cV (as := [ov_i c, ov_i x9, ov_i s]) (st := [ov_i s]) (d2 := d - 1) d_189_124 lk_Ways_53 rfl (Nat.le_of_ble_eq_true rfl) (c := 9) (zb_58 I11) (zs_58 I11) ⟨by decide, rfl⟩ (by omega) (c_Town_waitFor_58 (d - 1) (by omega) U I11 c x9 s (by omega) (by omega) (by omega) (by omega)) ?_
              rintro _ _ _ ⟨v22, rfl, rfl, rfl, f21⟩
              show ov_R u d ov_m189 127 [(0, ov_r 46), (1, ov_i c), (2, ov_i s), (3, ov_i n), (4, ov_l bits), (6, ov_l mask), (8, ov_i met), (9, ov_i x9)] [ov_i v22, ov_i s] z9 h10 (P_Ways_trace_46_k46_3_58_k46_4_4 F z h c s n bits mask met)
              have f23 : 0 ≤ v22 ∧ v22 ≤ 60 := f21
              clear f21
              refine ov_blk (ls2 := [(0, ov_r 46), (1, ov_i c), (2, ov_i s), (3, ov_i n), (4, ov_l bits), (6, ov_l mask), (8, ov_i met), (9, ov_i x9)]) (st2 := [ov_i (s + v22)]) (pc2 := 128) b_189_127_1 rfl rfl ?_
              refine ov_havw (fun w24 gw24 qw24 => ?_)
              refine ov_blk (ls2 := [(0, ov_r 46), (1, ov_i c), (2, ov_i s), (3, ov_i n), (4, ov_l bits), (6, ov_l mask), (8, ov_i met), (9, ov_i x9), (10, ov_i w24)]) (st2 := [ov_r 46]) (pc2 := 131) b_189_128_2 rfl rfl ?_
              refine ov_getf (v := ov_r 4) d_189_131 fl_Ways_82 (zb_46 I11) (zs_46 I11) (congrArg ov_r e14) ?_
              refine ov_blk (ls2 := [(0, ov_r 46), (1, ov_i c), (2, ov_i s), (3, ov_i n), (4, ov_l bits), (6, ov_l mask), (8, ov_i met), (9, ov_i x9), (10, ov_i w24)]) (st2 := [ov_i w24, ov_i s, ov_i c, ov_r 4]) (pc2 := 138) b_189_134_3 rfl rfl ?_
              refine ov_cV (as := [ov_i c, ov_i s, ov_i w24]) (st := []) (d2 := d - 1) d_189_138 lk_Ways_102 rfl (Nat.le_of_ble_eq_true rfl) (c := 7) (zb_4 I11) (zs_4 I11) ⟨by decide, rfl⟩ (by omega) (c_State_sightingsWithin_4 (d - 1) (by omega) U I11 c s w24 (by omega) (by omega) (by omega)) ?_
              rintro _ _ _ ⟨v26, rfl, rfl, rfl, f25⟩
              show ov_R u d ov_m189 141 [(0, ov_r 46), (1, ov_i c), (2, ov_i s), (3, ov_i n), (4, ov_l bits), (6, ov_l mask), (8, ov_i met), (9, ov_i x9), (10, ov_i w24)] [ov_i v26] z9 h10 (P_Ways_trace_46_k46_3_58_k46_4_4 F z h c s n bits mask met)
              have f27 : -1 ≤ v26 ∧ v26 ≤ 8 := f25
              clear f25
              refine ov_blk (ls2 := [(0, ov_r 46), (1, ov_i c), (2, ov_i s), (3, ov_i n), (4, ov_l bits), (6, ov_l mask), (8, ov_i met), (9, ov_i x9), (10, ov_i w24), (11, ov_i v26)]) (st2 := [ov_i (-1), ov_i v26]) (pc2 := 146) b_189_141_3 rfl rfl ?_
              refine ov_iceq (tgt := 202) d_189_146 (by decide) (by omega) (by omega) (fun c28 => ?_) (fun c28 => ?_)
              · skip
                refine ov_blk (ls2 := [(0, ov_r 46), (1, ov_i c), (2, ov_i s), (3, ov_i n), (4, ov_l bits), (6, ov_l mask), (8, ov_i met), (9, ov_i (x9 + 1)), (10, ov_i w24), (11, ov_i v26)]) (st2 := []) (pc2 := 205) b_189_202_1 rfl rfl ?_
                refine ov_goto (tgt := 90) d_189_205 (by decide) ?_
                refine ov_sub (ls2 := [(0, ov_r 46), (1, ov_i c), (2, ov_i s), (3, ov_i n), (4, ov_l bits), (6, ov_l mask), (8, ov_i met), (9, ov_i (x9 + 1))]) (List.Sublist.subset (by repeat (first | exact List.Sublist.refl _ | apply List.Sublist.cons_cons | apply List.Sublist.cons))) ?_
                exact ih6 (x9 + 1) _ _ I11 (by show 0 ≤ (x9 + 1) ∧ (x9 + 1) ≤ 2 ∧ (h10 36 7) = (h 36 7) ∧ (h10 1 1) = (h 1 1) ∧ (h10 90 2) = (h 90 2) ∧ (h10 0 10) = (h 0 10) ∧ (h10 0 11) = (h 0 11) ∧ (h10 0 12) = (h 0 12) ∧ (h10 0 13) = (h 0 13) ∧ (h10 3 1) = (h 3 1) ∧ (h10 36 8) = (h 36 8) ∧ (h10 46 3) = (h 46 3) ∧ (h10 46 4) = (h 46 4) ∧ (h10 49 4) = (h 49 4) ∧ (h10 49 5) = (h 49 5) ∧ (h10 64 0) = (h 64 0) ∧ (h10 76 0) = (h 76 0) ∧ (h10 46 3) = 58 ∧ (h10 46 4) = 4; omega) (by omega)
              · skip
                refine ov_blk (ls2 := [(0, ov_r 46), (1, ov_i c), (2, ov_i s), (3, ov_i n), (4, ov_l bits), (6, ov_l mask), (8, ov_i met), (9, ov_i x9), (10, ov_i w24), (11, ov_i v26)]) (st2 := [ov_r 46]) (pc2 := 150) b_189_149_1 rfl rfl ?_
                refine ov_getf (v := ov_r 58) d_189_150 fl_Ways_18 (zb_46 I11) (zs_46 I11) (congrArg ov_r e13) ?_
                refine ov_blk (ls2 := [(0, ov_r 46), (1, ov_i c), (2, ov_i s), (3, ov_i n), (4, ov_l bits), (6, ov_l mask), (8, ov_i met), (9, ov_i x9), (10, ov_i w24), (11, ov_i v26)]) (st2 := [ov_i x9, ov_i c, ov_r 58]) (pc2 := 156) b_189_153_2 rfl rfl ?_
                refine ov_cV (as := [ov_i c, ov_i x9]) (st := []) (d2 := d - 1) d_189_156 lk_Ways_42 rfl (Nat.le_of_ble_eq_true rfl) (c := 9) (zb_58 I11) (zs_58 I11) ⟨by decide, rfl⟩ (by omega) (c_Town_after_58 (d - 1) (by omega) U I11 c x9 (by omega) (by omega) (by omega)) ?_
                rintro _ _ _ ⟨v30, rfl, rfl, rfl, f29⟩
                show ov_R u d ov_m189 159 [(0, ov_r 46), (1, ov_i c), (2, ov_i s), (3, ov_i n), (4, ov_l bits), (6, ov_l mask), (8, ov_i met), (9, ov_i x9), (10, ov_i w24), (11, ov_i v26)] [ov_i v30] z9 h10 (P_Ways_trace_46_k46_3_58_k46_4_4 F z h c s n bits mask met)
                have f31 : (x9 = 0 → v30 = c + 1) ∧ (¬ x9 = 0 → v30 = c + 6) := f29
                clear f29
                refine ov_blk (ls2 := [(0, ov_r 46), (1, ov_i c), (2, ov_i s), (3, ov_i n), (4, ov_l bits), (6, ov_l mask), (8, ov_i met), (9, ov_i x9), (10, ov_i w24), (11, ov_i v26), (12, ov_i v30)]) (st2 := [ov_r 46, ov_i w24, ov_i v30, ov_r 46]) (pc2 := 167) b_189_159_5 rfl rfl ?_
                refine ov_getf (v := ov_r 58) d_189_167 fl_Ways_18 (zb_46 I11) (zs_46 I11) (congrArg ov_r e13) ?_
                refine ov_getf (v := ov_r 64) d_189_170 fl_Ways_56 (zb_58 I11) (zs_58 I11) (congrArg ov_r (rg_58_7 I11)) ?_
                refine ov_blk (ls2 := [(0, ov_r 46), (1, ov_i c), (2, ov_i s), (3, ov_i n), (4, ov_l bits), (6, ov_l mask), (8, ov_i met), (9, ov_i x9), (10, ov_i w24), (11, ov_i v26), (12, ov_i v30)]) (st2 := [ov_i 0, ov_r 64, ov_i w24, ov_i v30, ov_r 46]) (pc2 := 174) b_189_173_1 rfl rfl ?_
                refine ov_iald d_189_174 (zb_64 I11) (zs_64 I11) (by omega) ?_
                have g32 := ra_64 I11 0
                refine ov_blk (ls2 := [(0, ov_r 46), (1, ov_i c), (2, ov_i s), (3, ov_i n), (4, ov_l bits), (6, ov_l mask), (8, ov_i met), (9, ov_i x9), (10, ov_i w24), (11, ov_i v26), (12, ov_i v30)]) (st2 := [ov_i (w24 + (h10 64 0)), ov_i v30, ov_r 46]) (pc2 := 176) b_189_175_1 rfl rfl ?_
                refine ov_havw (fun w33 gw33 qw33 => ?_)
                refine ov_blk (ls2 := [(0, ov_r 46), (1, ov_i c), (2, ov_i s), (3, ov_i n), (4, ov_l bits), (6, ov_l mask), (8, ov_i met), (9, ov_i x9), (10, ov_i w24), (11, ov_i v26), (12, ov_i v30)]) (st2 := [ov_i (n + 1), ov_i w33, ov_i v30, ov_r 46]) (pc2 := 179) b_189_176_3 rfl rfl ?_
                refine ov_havw (fun w34 gw34 qw34 => ?_)
                refine ov_blk (ls2 := [(0, ov_r 46), (1, ov_i c), (2, ov_i s), (3, ov_i n), (4, ov_l bits), (6, ov_l mask), (8, ov_i met), (9, ov_i x9), (10, ov_i w24), (11, ov_i v26), (12, ov_i v30)]) (st2 := [ov_i (met + v26), ov_l (ov_lor mask (ov_lshl 1 v30)), ov_l (ov_lor bits (ov_lshl (ov_w x9) n)), ov_i w34, ov_i w33, ov_i v30, ov_r 46]) (pc2 := 199) b_189_179_14 rfl rfl ?_
                have g35 := ov_wg x9
                have g36 := ov_wq x9
                refine ov_havw (fun w37 gw37 qw37 => ?_)
                refine ov_cV (as := [ov_i v30, ov_i w33, ov_i w34, ov_l (ov_lor bits (ov_lshl (ov_w x9) n)), ov_l (ov_lor mask (ov_lshl 1 v30)), ov_i w37]) (st := []) (d2 := d - 1) d_189_199 lk_Ways_97 rfl (Nat.le_of_ble_eq_true rfl) (c := 12) (zb_46 I11) (zs_46 I11) ⟨by decide, rfl⟩ (by omega) (HC (k - 1) (by omega) (d - 1) (by omega) U I11 v30 w33 w34 (ov_lor bits (ov_lshl (ov_w x9) n)) (ov_lor mask (ov_lshl 1 v30)) w37 e13 e14 (by omega) (by omega) (by omega) (by omega) (by omega) (by omega) (by omega)) ?_
                rintro _ z39 h40 ⟨rfl, I41, f38⟩
                show ov_R u d ov_m189 202 [(0, ov_r 46), (1, ov_i c), (2, ov_i s), (3, ov_i n), (4, ov_l bits), (6, ov_l mask), (8, ov_i met), (9, ov_i x9), (10, ov_i w24), (11, ov_i v26), (12, ov_i v30)] [] z39 h40 (P_Ways_trace_46_k46_3_58_k46_4_4 F z h c s n bits mask met)
                have f42 : (h40 36 7) = (h10 36 7) ∧ (h40 1 1) = (h10 1 1) ∧ (h40 90 2) = (h10 90 2) ∧ (h40 0 10) = (h10 0 10) ∧ (h40 0 11) = (h10 0 11) ∧ (h40 0 12) = (h10 0 12) ∧ (h40 0 13) = (h10 0 13) ∧ (h40 3 1) = (h10 3 1) ∧ (h40 36 8) = (h10 36 8) ∧ (h40 46 3) = (h10 46 3) ∧ (h40 46 4) = (h10 46 4) ∧ (h40 49 4) = (h10 49 4) ∧ (h40 49 5) = (h10 49 5) ∧ (h40 64 0) = (h10 64 0) ∧ (h40 76 0) = (h10 76 0) := f38
                clear f38
                have e43 : h40 46 3 = 58 := by omega
                have e44 : h40 46 4 = 4 := by omega
                refine ov_blk (ls2 := [(0, ov_r 46), (1, ov_i c), (2, ov_i s), (3, ov_i n), (4, ov_l bits), (6, ov_l mask), (8, ov_i met), (9, ov_i (x9 + 1)), (10, ov_i w24), (11, ov_i v26), (12, ov_i v30)]) (st2 := []) (pc2 := 205) b_189_202_1 rfl rfl ?_
                refine ov_goto (tgt := 90) d_189_205 (by decide) ?_
                refine ov_sub (ls2 := [(0, ov_r 46), (1, ov_i c), (2, ov_i s), (3, ov_i n), (4, ov_l bits), (6, ov_l mask), (8, ov_i met), (9, ov_i (x9 + 1))]) (List.Sublist.subset (by repeat (first | exact List.Sublist.refl _ | apply List.Sublist.cons_cons | apply List.Sublist.cons))) ?_
                exact ih6 (x9 + 1) _ _ I41 (by show 0 ≤ (x9 + 1) ∧ (x9 + 1) ≤ 2 ∧ (h40 36 7) = (h 36 7) ∧ (h40 1 1) = (h 1 1) ∧ (h40 90 2) = (h 90 2) ∧ (h40 0 10) = (h 0 10) ∧ (h40 0 11) = (h 0 11) ∧ (h40 0 12) = (h 0 12) ∧ (h40 0 13) = (h 0 13) ∧ (h40 3 1) = (h 3 1) ∧ (h40 36 8) = (h 36 8) ∧ (h40 46 3) = (h 46 3) ∧ (h40 46 4) = (h 46 4) ∧ (h40 49 4) = (h 49 4) ∧ (h40 49 5) = (h 49 5) ∧ (h40 64 0) = (h 64 0) ∧ (h40 76 0) = (h 76 0) ∧ (h40 46 3) = 58 ∧ (h40 46 4) = 4; omega) (by omega)
    exact L8 3 0 _ _ I (by show 0 ≤ 0 ∧ 0 ≤ 2 ∧ (h 36 7) = (h 36 7) ∧ (h 1 1) = (h 1 1) ∧ (h 90 2) = (h 90 2) ∧ (h 0 10) = (h 0 10) ∧ (h 0 11) = (h 0 11) ∧ (h 0 12) = (h 0 12) ∧ (h 0 13) = (h 0 13) ∧ (h 3 1) = (h 3 1) ∧ (h 36 8) = (h 36 8) ∧ (h 46 3) = (h 46 3) ∧ (h 46 4) = (h 46 4) ∧ (h 49 4) = (h 49 4) ∧ (h 49 5) = (h 49 5) ∧ (h 64 0) = (h 64 0) ∧ (h 76 0) = (h 76 0) ∧ (h 46 3) = 58 ∧ (h 46 4) = 4; omega) (by omega)
  · skip
    refine ov_blk (ls2 := [(0, ov_r 46), (1, ov_i c), (2, ov_i s), (3, ov_i n), (4, ov_l bits), (6, ov_l mask), (8, ov_i met)]) (st2 := [ov_r 46]) (pc2 := 12) b_189_11_1 rfl rfl ?_
    refine ov_getf (v := ov_r 4) d_189_12 fl_Ways_82 (zb_46 I) (zs_46 I) (congrArg ov_r k1) ?_
    refine ov_blk (ls2 := [(0, ov_r 46), (1, ov_i c), (2, ov_i s), (3, ov_i n), (4, ov_l bits), (6, ov_l mask), (8, ov_i met)]) (st2 := [ov_i s, ov_i c, ov_r 4]) (pc2 := 17) b_189_15_2 rfl rfl ?_
    refine ov_ldc (n := 2147483647) d_189_17 kc_Ways_101 ?_
    refine ov_cV (as := [ov_i c, ov_i s, ov_i 2147483647]) (st := []) (d2 := d - 1) d_189_19 lk_Ways_102 rfl (Nat.le_of_ble_eq_true rfl) (c := 7) (zb_4 I) (zs_4 I) ⟨by decide, rfl⟩ (by omega) (c_State_sightingsWithin_4 (d - 1) (by omega) U I c s 2147483647 (by omega) (by omega) (by omega)) ?_
    rintro _ _ _ ⟨v46, rfl, rfl, rfl, f45⟩
    show ov_R u d ov_m189 22 [(0, ov_r 46), (1, ov_i c), (2, ov_i s), (3, ov_i n), (4, ov_l bits), (6, ov_l mask), (8, ov_i met)] [ov_i v46] z h (P_Ways_trace_46_k46_3_58_k46_4_4 F z h c s n bits mask met)
    have f47 : -1 ≤ v46 ∧ v46 ≤ 8 := f45
    clear f45
    refine ov_blk (ls2 := [(0, ov_r 46), (1, ov_i c), (2, ov_i s), (3, ov_i n), (4, ov_l bits), (6, ov_l mask), (8, ov_i met), (9, ov_i v46)]) (st2 := [ov_i (-1), ov_i v46]) (pc2 := 27) b_189_22_3 rfl rfl ?_
    refine ov_iceq (tgt := 86) d_189_27 (by decide) (by omega) (by omega) (fun c48 => ?_) (fun c48 => ?_)
    · skip
      exact ov_retv (st := []) d_189_86 rfl ⟨rfl, I, (by show (h 36 7) = (h 36 7) ∧ (h 1 1) = (h 1 1) ∧ (h 90 2) = (h 90 2) ∧ (h 0 10) = (h 0 10) ∧ (h 0 11) = (h 0 11) ∧ (h 0 12) = (h 0 12) ∧ (h 0 13) = (h 0 13) ∧ (h 3 1) = (h 3 1) ∧ (h 36 8) = (h 36 8) ∧ (h 46 3) = (h 46 3) ∧ (h 46 4) = (h 46 4) ∧ (h 49 4) = (h 49 4) ∧ (h 49 5) = (h 49 5) ∧ (h 64 0) = (h 64 0) ∧ (h 76 0) = (h 76 0); omega)⟩
    · skip
      refine ov_blk (ls2 := [(0, ov_r 46), (1, ov_i c), (2, ov_i s), (3, ov_i n), (4, ov_l bits), (6, ov_l mask), (8, ov_i met), (9, ov_i v46)]) (st2 := [ov_i (met + v46)]) (pc2 := 35) b_189_30_3 rfl rfl ?_
      refine ov_havw (fun w49 gw49 qw49 => ?_)
      refine ov_blk (ls2 := [(0, ov_r 46), (1, ov_i c), (2, ov_i s), (3, ov_i n), (4, ov_l bits), (6, ov_l mask), (8, ov_i met), (9, ov_i v46)]) (st2 := [ov_r 46, ov_i w49]) (pc2 := 36) b_189_35_1 rfl rfl ?_
      refine ov_getf (v := ov_r 4) d_189_36 fl_Ways_82 (zb_46 I) (zs_46 I) (congrArg ov_r k1) ?_
      refine ov_getf (v := ov_i (h 4 5)) d_189_39 fl_Ways_107 (zb_4 I) (zs_4 I) rfl ?_
      have g50 := rg_4_5 I
      refine ov_icne (tgt := 86) d_189_42 (by decide) (by omega) (by omega) (fun c51 => ?_) (fun c51 => ?_)
      · skip
        exact ov_retv (st := []) d_189_86 rfl ⟨rfl, I, (by show (h 36 7) = (h 36 7) ∧ (h 1 1) = (h 1 1) ∧ (h 90 2) = (h 90 2) ∧ (h 0 10) = (h 0 10) ∧ (h 0 11) = (h 0 11) ∧ (h 0 12) = (h 0 12) ∧ (h 0 13) = (h 0 13) ∧ (h 3 1) = (h 3 1) ∧ (h 36 8) = (h 36 8) ∧ (h 46 3) = (h 46 3) ∧ (h 46 4) = (h 46 4) ∧ (h 49 4) = (h 49 4) ∧ (h 49 5) = (h 49 5) ∧ (h 64 0) = (h 64 0) ∧ (h 76 0) = (h 76 0); omega)⟩
      · skip
        refine ov_blk (ls2 := [(0, ov_r 46), (1, ov_i c), (2, ov_i s), (3, ov_i n), (4, ov_l bits), (6, ov_l mask), (8, ov_i met), (9, ov_i v46)]) (st2 := [ov_r 46, ov_r 46]) (pc2 := 47) b_189_45_2 rfl rfl ?_
        refine ov_getf (v := ov_i (h 46 0)) d_189_47 fl_Ways_86 (zb_46 I) (zs_46 I) rfl ?_
        have g52 := rg_46_0 I
        refine ov_ifne (tgt := 58) d_189_50 (by decide) (by omega) (fun c53 => ?_) (fun c53 => ?_)
        · skip
          refine ov_blk (ls2 := [(0, ov_r 46), (1, ov_i c), (2, ov_i s), (3, ov_i n), (4, ov_l bits), (6, ov_l mask), (8, ov_i met), (9, ov_i v46)]) (st2 := [ov_r 46, ov_r 46]) (pc2 := 59) b_189_58_1 rfl rfl ?_
          refine ov_getf (v := ov_l (h 46 1)) d_189_59 fl_Ways_89 (zb_46 I) (zs_46 I) rfl ?_
          refine ov_putf (x := (h 46 1)) d_189_62 fl_Ways_89 (zb_46 I) (zs_46 I) rfl nk_1 rfl ?_
          have I54 := up_46_1 (x := (h 46 1)) I
          refine ov_blk (ls2 := [(0, ov_r 46), (1, ov_i c), (2, ov_i s), (3, ov_i n), (4, ov_l bits), (6, ov_l mask), (8, ov_i met), (9, ov_i v46)]) (st2 := [ov_r 46, ov_r 46]) (pc2 := 67) b_189_65_2 rfl rfl ?_
          refine ov_getf (v := ov_i (h 46 0)) d_189_67 fl_Ways_86 (zb_46 I54) (zs_46 I54) rfl ?_
          refine ov_blk (ls2 := [(0, ov_r 46), (1, ov_i c), (2, ov_i s), (3, ov_i n), (4, ov_l bits), (6, ov_l mask), (8, ov_i met), (9, ov_i v46)]) (st2 := [ov_i ((h 46 0) + 1), ov_r 46]) (pc2 := 72) b_189_70_2 rfl rfl ?_
          refine ov_havw (fun w56 gw56 qw56 => ?_)
          refine ov_putf (x := w56) d_189_72 fl_Ways_86 (zb_46 I54) (zs_46 I54) rfl nk_0 rfl ?_
          have I57 := up_46_0 (x := w56) I54 (by omega)
          refine ov_blk (ls2 := [(0, ov_r 46), (1, ov_i c), (2, ov_i s), (3, ov_i n), (4, ov_l bits), (6, ov_l mask), (8, ov_i met), (9, ov_i v46)]) (st2 := [ov_r 46, ov_r 46]) (pc2 := 77) b_189_75_2 rfl rfl ?_
          refine ov_getf (v := ov_l (h 46 2)) d_189_77 fl_Ways_95 (zb_46 I57) (zs_46 I57) rfl ?_
          refine ov_blk (ls2 := [(0, ov_r 46), (1, ov_i c), (2, ov_i s), (3, ov_i n), (4, ov_l bits), (6, ov_l mask), (8, ov_i met), (9, ov_i v46)]) (st2 := [ov_l (ov_land (h 46 2) mask), ov_r 46]) (pc2 := 83) b_189_80_2 rfl rfl ?_
          refine ov_putf (x := (ov_land (h 46 2) mask)) d_189_83 fl_Ways_95 (zb_46 I57) (zs_46 I57) rfl nk_1 rfl ?_
          have I58 := up_46_2 (x := (ov_land (h 46 2) mask)) I57
          exact ov_retv (st := []) d_189_86 rfl ⟨rfl, I58, (by show (h 36 7) = (h 36 7) ∧ (h 1 1) = (h 1 1) ∧ (h 90 2) = (h 90 2) ∧ (h 0 10) = (h 0 10) ∧ (h 0 11) = (h 0 11) ∧ (h 0 12) = (h 0 12) ∧ (h 0 13) = (h 0 13) ∧ (h 3 1) = (h 3 1) ∧ (h 36 8) = (h 36 8) ∧ (h 46 3) = (h 46 3) ∧ (h 46 4) = (h 46 4) ∧ (h 49 4) = (h 49 4) ∧ (h 49 5) = (h 49 5) ∧ (h 64 0) = (h 64 0) ∧ (h 76 0) = (h 76 0); omega)⟩
        · skip
          refine ov_blk (ls2 := [(0, ov_r 46), (1, ov_i c), (2, ov_i s), (3, ov_i n), (4, ov_l bits), (6, ov_l mask), (8, ov_i met), (9, ov_i v46)]) (st2 := [ov_l bits, ov_r 46]) (pc2 := 55) b_189_53_1 rfl rfl ?_
          refine ov_goto (tgt := 62) d_189_55 (by decide) ?_
          refine ov_putf (x := bits) d_189_62 fl_Ways_89 (zb_46 I) (zs_46 I) rfl nk_1 rfl ?_
          have I59 := up_46_1 (x := bits) I
          refine ov_blk (ls2 := [(0, ov_r 46), (1, ov_i c), (2, ov_i s), (3, ov_i n), (4, ov_l bits), (6, ov_l mask), (8, ov_i met), (9, ov_i v46)]) (st2 := [ov_r 46, ov_r 46]) (pc2 := 67) b_189_65_2 rfl rfl ?_
          refine ov_getf (v := ov_i (h 46 0)) d_189_67 fl_Ways_86 (zb_46 I59) (zs_46 I59) rfl ?_
          refine ov_blk (ls2 := [(0, ov_r 46), (1, ov_i c), (2, ov_i s), (3, ov_i n), (4, ov_l bits), (6, ov_l mask), (8, ov_i met), (9, ov_i v46)]) (st2 := [ov_i ((h 46 0) + 1), ov_r 46]) (pc2 := 72) b_189_70_2 rfl rfl ?_
          refine ov_havw (fun w61 gw61 qw61 => ?_)
          refine ov_putf (x := w61) d_189_72 fl_Ways_86 (zb_46 I59) (zs_46 I59) rfl nk_0 rfl ?_
          have I62 := up_46_0 (x := w61) I59 (by omega)
          refine ov_blk (ls2 := [(0, ov_r 46), (1, ov_i c), (2, ov_i s), (3, ov_i n), (4, ov_l bits), (6, ov_l mask), (8, ov_i met), (9, ov_i v46)]) (st2 := [ov_r 46, ov_r 46]) (pc2 := 77) b_189_75_2 rfl rfl ?_
          refine ov_getf (v := ov_l (h 46 2)) d_189_77 fl_Ways_95 (zb_46 I62) (zs_46 I62) rfl ?_
          refine ov_blk (ls2 := [(0, ov_r 46), (1, ov_i c), (2, ov_i s), (3, ov_i n), (4, ov_l bits), (6, ov_l mask), (8, ov_i met), (9, ov_i v46)]) (st2 := [ov_l (ov_land (h 46 2) mask), ov_r 46]) (pc2 := 83) b_189_80_2 rfl rfl ?_
          refine ov_putf (x := (ov_land (h 46 2) mask)) d_189_83 fl_Ways_95 (zb_46 I62) (zs_46 I62) rfl nk_1 rfl ?_
          have I63 := up_46_2 (x := (ov_land (h 46 2) mask)) I62
          exact ov_retv (st := []) d_189_86 rfl ⟨rfl, I63, (by show (h 36 7) = (h 36 7) ∧ (h 1 1) = (h 1 1) ∧ (h 90 2) = (h 90 2) ∧ (h 0 10) = (h 0 10) ∧ (h 0 11) = (h 0 11) ∧ (h 0 12) = (h 0 12) ∧ (h 0 13) = (h 0 13) ∧ (h 3 1) = (h 3 1) ∧ (h 36 8) = (h 36 8) ∧ (h 46 3) = (h 46 3) ∧ (h 46 4) = (h 46 4) ∧ (h 49 4) = (h 49 4) ∧ (h 49 5) = (h 49 5) ∧ (h 64 0) = (h 64 0) ∧ (h 76 0) = (h 76 0); omega)⟩
theorem c_Ways_trace_46_k46_3_58_k46_4_4_all {u : ov_U} {F : ov_H} (k : Nat) : ∀ {z : ov_Z} {h : ov_H} (d : Nat) (hd : (10 + 1 * k ) ≤ d) (U : ov_cap u) (I : ov_I F z h) (c : Int) (s : Int) (n : Int) (bits : Int) (mask : Int) (met : Int) (k0 : h 46 3 = 58) (k1 : h 46 4 = 4) (g_c : ov_g c) (g_s : ov_g s) (g_n : ov_g n) (g_met : ov_g met) (p0 : 0 ≤ c ∧ c ≤ 53) (p1 : 0 ≤ n ∧ n + (k : Int) = 13) (p2 : F (-5) 58 = 1), ov_T u d ov_m189 [ov_r 46, ov_i c, ov_i s, ov_i n, ov_l bits, ov_l mask, ov_i met] z h (P_Ways_trace_46_k46_3_58_k46_4_4 F z h c s n bits mask met) := by
  induction k using Nat.strongRecOn with
  | ind k ih => exact fun {z} {h} => @c_Ways_trace_46_k46_3_58_k46_4_4 u F k (fun k' hk => @ih k' hk) z h
abbrev P_Ways_fitSightings_46_58_4 (F : ov_H) (z : ov_Z) (h : ov_H)  : Option ov_V → ov_Z → ov_H → Prop := fun r0 z' h' => r0 = none ∧ ov_I F z' h' ∧ ((h' 36 7) = (h 36 7) ∧ (h' 1 1) = (h 1 1) ∧ (h' 90 2) = (h 90 2) ∧ (h' 0 10) = (h 0 10) ∧ (h' 0 11) = (h 0 11) ∧ (h' 0 12) = (h 0 12) ∧ (h' 0 13) = (h 0 13) ∧ (h' 3 1) = (h 3 1) ∧ (h' 36 8) = (h 36 8) ∧ (h' 49 4) = (h 49 4) ∧ (h' 49 5) = (h 49 5) ∧ (h' 64 0) = (h 64 0) ∧ (h' 76 0) = (h 76 0))
set_option maxHeartbeats 4000000 in
theorem c_Ways_fitSightings_46_58_4 {u : ov_U} {F : ov_H} {z : ov_Z} {h : ov_H} (d : Nat) (hd : 30 ≤ d) (U : ov_cap u) (I : ov_I F z h) (p0 : F (-5) 58 = 1) : ov_T u d ov_m188 [ov_r 46, ov_r 58, ov_r 4] z h (P_Ways_fitSightings_46_58_4 F z h) := by
  refine ov_en rfl (Nat.le_of_ble_eq_true rfl) ?_
  show ov_R u d ov_m188 0 [(0, ov_r 46), (1, ov_r 58), (2, ov_r 4)] [] z h (P_Ways_fitSightings_46_58_4 F z h)
  refine ov_blk (ls2 := [(0, ov_r 46), (1, ov_r 58), (2, ov_r 4)]) (st2 := [ov_r 58, ov_r 46]) (pc2 := 2) b_188_0_2 rfl rfl ?_
  refine ov_putf (x := 58) d_188_2 fl_Ways_18 (zb_46 I) (zs_46 I) rfl nk_2 rfl ?_
  have I1 := up_46_3 (x := 58) I (by omega)
  refine ov_blk (ls2 := [(0, ov_r 46), (1, ov_r 58), (2, ov_r 4)]) (st2 := [ov_r 4, ov_r 46]) (pc2 := 7) b_188_5_2 rfl rfl ?_
  refine ov_putf (x := 4) d_188_7 fl_Ways_82 (zb_46 I1) (zs_46 I1) rfl nk_2 rfl ?_
  have I2 := up_46_4 (x := 4) I1 (by omega)
  refine ov_blk (ls2 := [(0, ov_r 46), (1, ov_r 58), (2, ov_r 4)]) (st2 := [ov_i 0, ov_r 46]) (pc2 := 12) b_188_10_2 rfl rfl ?_
  refine ov_putf (x := 0) d_188_12 fl_Ways_86 (zb_46 I2) (zs_46 I2) rfl nk_0 rfl ?_
  have I3 := up_46_0 (x := 0) I2 (by omega)
  refine ov_blk (ls2 := [(0, ov_r 46), (1, ov_r 58), (2, ov_r 4)]) (st2 := [ov_l 0, ov_r 46]) (pc2 := 17) b_188_15_2 rfl rfl ?_
  refine ov_putf (x := 0) d_188_17 fl_Ways_89 (zb_46 I3) (zs_46 I3) rfl nk_1 rfl ?_
  have I4 := up_46_1 (x := 0) I3
  refine ov_blk (ls2 := [(0, ov_r 46), (1, ov_r 58), (2, ov_r 4)]) (st2 := [ov_r 46]) (pc2 := 21) b_188_20_1 rfl rfl ?_
  refine ov_ldc2 (n := (-1)) d_188_21 kc_Ways_93 ?_
  refine ov_putf (x := (-1)) d_188_24 fl_Ways_95 (zb_46 I4) (zs_46 I4) rfl nk_1 rfl ?_
  have I5 := up_46_2 (x := (-1)) I4
  refine ov_blk (ls2 := [(0, ov_r 46), (1, ov_r 58), (2, ov_r 4)]) (st2 := [ov_i 0, ov_l 1, ov_l 0, ov_i 0, ov_i 0, ov_i 0, ov_r 46]) (pc2 := 34) b_188_27_7 rfl rfl ?_
  refine ov_cV (as := [ov_i 0, ov_i 0, ov_i 0, ov_l 0, ov_l 1, ov_i 0]) (st := []) (d2 := d - 1) d_188_34 lk_Ways_97 rfl (Nat.le_of_ble_eq_true rfl) (c := 12) (zb_46 I5) (zs_46 I5) ⟨by decide, rfl⟩ (by omega) (c_Ways_trace_46_k46_3_58_k46_4_4_all 13 (d - 1) (by omega) U I5 0 0 0 0 1 0 rfl rfl (by omega) (by omega) (by omega) (by omega) (by omega) (by omega) (by omega)) ?_
  rintro _ z7 h8 ⟨rfl, I9, f6⟩
  show ov_R u d ov_m188 37 [(0, ov_r 46), (1, ov_r 58), (2, ov_r 4)] [] z7 h8 (P_Ways_fitSightings_46_58_4 F z h)
  have f10 : (h8 36 7) = (h 36 7) ∧ (h8 1 1) = (h 1 1) ∧ (h8 90 2) = (h 90 2) ∧ (h8 0 10) = (h 0 10) ∧ (h8 0 11) = (h 0 11) ∧ (h8 0 12) = (h 0 12) ∧ (h8 0 13) = (h 0 13) ∧ (h8 3 1) = (h 3 1) ∧ (h8 36 8) = (h 36 8) ∧ (h8 46 3) = 58 ∧ (h8 46 4) = 4 ∧ (h8 49 4) = (h 49 4) ∧ (h8 49 5) = (h 49 5) ∧ (h8 64 0) = (h 64 0) ∧ (h8 76 0) = (h 76 0) := f6
  clear f6
  have e11 : h8 46 3 = 58 := by omega
  have e12 : h8 46 4 = 4 := by omega
  exact ov_retv (st := []) d_188_37 rfl ⟨rfl, I9, (by show (h8 36 7) = (h 36 7) ∧ (h8 1 1) = (h 1 1) ∧ (h8 90 2) = (h 90 2) ∧ (h8 0 10) = (h 0 10) ∧ (h8 0 11) = (h 0 11) ∧ (h8 0 12) = (h 0 12) ∧ (h8 0 13) = (h 0 13) ∧ (h8 3 1) = (h 3 1) ∧ (h8 36 8) = (h 36 8) ∧ (h8 49 4) = (h 49 4) ∧ (h8 49 5) = (h 49 5) ∧ (h8 64 0) = (h 64 0) ∧ (h8 76 0) = (h 76 0); omega)⟩
abbrev P_Ways_afterStreet_46_k46_3_70 (F : ov_H) (z : ov_Z) (h : ov_H) (c : Int) (way : Int) (s : Int) : Option ov_V → ov_Z → ov_H → Prop := fun r0 z' h' => ∃ r : Int, r0 = some (ov_i r) ∧ z = z' ∧ h = h' ∧ (-2147483648 ≤ r ∧ r ≤ 2147483647)
set_option maxHeartbeats 4000000 in
theorem c_Ways_afterStreet_46_k46_3_70 {u : ov_U} {F : ov_H} {z : ov_Z} {h : ov_H} (d : Nat) (hd : 2 ≤ d) (U : ov_cap u) (I : ov_I F z h) (c : Int) (way : Int) (s : Int) (k0 : h 46 3 = 70) (g_c : ov_g c) (g_way : ov_g way) (g_s : ov_g s) (p0 : 0 ≤ c ∧ c ≤ 53) : ov_T u d ov_m117 [ov_r 46, ov_i c, ov_i way, ov_i s] z h (P_Ways_afterStreet_46_k46_3_70 F z h c way s) := by
  refine ov_en rfl (Nat.le_of_ble_eq_true rfl) ?_
  show ov_R u d ov_m117 0 [(0, ov_r 46), (1, ov_i c), (2, ov_i way), (3, ov_i s)] [] z h (P_Ways_afterStreet_46_k46_3_70 F z h c way s)
  refine ov_blk (ls2 := [(0, ov_r 46), (1, ov_i c), (2, ov_i way), (3, ov_i s)]) (st2 := [ov_r 46, ov_i s]) (pc2 := 2) b_117_0_2 rfl rfl ?_
  refine ov_getf (v := ov_r 70) d_117_2 fl_Ways_18 (zb_46 I) (zs_46 I) (congrArg ov_r k0) ?_
  refine ov_blk (ls2 := [(0, ov_r 46), (1, ov_i c), (2, ov_i way), (3, ov_i s)]) (st2 := [ov_i s, ov_i way, ov_i c, ov_r 70, ov_i s]) (pc2 := 8) b_117_5_3 rfl rfl ?_
  refine ov_cV (as := [ov_i c, ov_i way, ov_i s]) (st := [ov_i s]) (d2 := d - 1) d_117_8 lk_Ways_53 rfl (Nat.le_of_ble_eq_true rfl) (c := 9) (zb_70 I) (zs_70 I) ⟨by decide, rfl⟩ (by omega) (c_Town_waitFor_70 (d - 1) (by omega) U I c way s (by omega) (by omega) (by omega) (by omega)) ?_
  rintro _ _ _ ⟨v2, rfl, rfl, rfl, f1⟩
  show ov_R u d ov_m117 11 [(0, ov_r 46), (1, ov_i c), (2, ov_i way), (3, ov_i s)] [ov_i v2, ov_i s] z h (P_Ways_afterStreet_46_k46_3_70 F z h c way s)
  have f3 : 0 ≤ v2 ∧ v2 ≤ 60 := f1
  clear f1
  refine ov_blk (ls2 := [(0, ov_r 46), (1, ov_i c), (2, ov_i way), (3, ov_i s)]) (st2 := [ov_i (s + v2)]) (pc2 := 12) b_117_11_1 rfl rfl ?_
  refine ov_havw (fun w4 gw4 qw4 => ?_)
  refine ov_blk (ls2 := [(0, ov_r 46), (1, ov_i c), (2, ov_i way), (3, ov_i s)]) (st2 := [ov_r 46, ov_i w4]) (pc2 := 13) b_117_12_1 rfl rfl ?_
  refine ov_getf (v := ov_r 70) d_117_13 fl_Ways_18 (zb_46 I) (zs_46 I) (congrArg ov_r k0) ?_
  refine ov_getf (v := ov_r 76) d_117_16 fl_Ways_56 (zb_70 I) (zs_70 I) (congrArg ov_r (rg_70_7 I)) ?_
  refine ov_blk (ls2 := [(0, ov_r 46), (1, ov_i c), (2, ov_i way), (3, ov_i s)]) (st2 := [ov_i 0, ov_r 76, ov_i w4]) (pc2 := 20) b_117_19_1 rfl rfl ?_
  refine ov_iald d_117_20 (zb_76 I) (zs_76 I) (by omega) ?_
  have g5 := ra_76 I 0
  refine ov_blk (ls2 := [(0, ov_r 46), (1, ov_i c), (2, ov_i way), (3, ov_i s)]) (st2 := [ov_i (w4 + (h 76 0))]) (pc2 := 22) b_117_21_1 rfl rfl ?_
  refine ov_havw (fun w6 gw6 qw6 => ?_)
  exact ov_reti (st := []) d_117_22 rfl ⟨_, rfl, rfl, rfl, (by show -2147483648 ≤ w6 ∧ w6 ≤ 2147483647; omega)⟩
abbrev P_Ways_pass_46_k46_3_70 (F : ov_H) (z : ov_Z) (h : ov_H) (c : Int) (way : Int) : Option ov_V → ov_Z → ov_H → Prop := fun r0 z' h' => r0 = none ∧ ov_I F z' h' ∧ ((h' 36 7) = (h 36 7) ∧ (h' 1 1) = (h 1 1) ∧ (h' 90 2) = (h 90 2) ∧ (h' 0 10) = (h 0 10) ∧ (h' 0 11) = (h 0 11) ∧ (h' 0 12) = (h 0 12) ∧ (h' 0 13) = (h 0 13) ∧ (h' 3 1) = (h 3 1) ∧ (h' 36 8) = (h 36 8) ∧ (h' 46 3) = (h 46 3) ∧ (h' 46 4) = (h 46 4) ∧ (h' 49 4) = (h 49 4) ∧ (h' 49 5) = (h 49 5) ∧ (h' 64 0) = (h 64 0) ∧ (h' 76 0) = (h 76 0))
set_option maxHeartbeats 4000000 in
theorem c_Ways_pass_46_k46_3_70 {u : ov_U} {F : ov_H} {z : ov_Z} {h : ov_H} (d : Nat) (hd : 3 ≤ d) (U : ov_cap u) (I : ov_I F z h) (c : Int) (way : Int) (k0 : h 46 3 = 70) (g_c : ov_g c) (g_way : ov_g way) (p0 : 0 ≤ c ∧ c ≤ 53) : ov_T u d ov_m116 [ov_r 46, ov_i c, ov_i way] z h (P_Ways_pass_46_k46_3_70 F z h c way) := by
  refine ov_en rfl (Nat.le_of_ble_eq_true rfl) ?_
  show ov_R u d ov_m116 0 [(0, ov_r 46), (1, ov_i c), (2, ov_i way)] [] z h (P_Ways_pass_46_k46_3_70 F z h c way)
  refine ov_blk (ls2 := [(0, ov_r 46), (1, ov_i c), (2, ov_i way)]) (st2 := [ov_r 46]) (pc2 := 1) b_116_0_1 rfl rfl ?_
  refine ov_getf (v := ov_r 70) d_116_1 fl_Ways_18 (zb_46 I) (zs_46 I) (congrArg ov_r k0) ?_
  refine ov_blk (ls2 := [(0, ov_r 46), (1, ov_i c), (2, ov_i way)]) (st2 := [ov_i way, ov_i c, ov_r 70]) (pc2 := 6) b_116_4_2 rfl rfl ?_
  refine ov_cV (as := [ov_i c, ov_i way]) (st := []) (d2 := d - 1) d_116_6 lk_Ways_38 rfl (Nat.le_of_ble_eq_true rfl) (c := 9) (zb_70 I) (zs_70 I) ⟨by decide, rfl⟩ (by omega) (c_Town_isOpen_70 (d - 1) (by omega) U I c way (by omega) (by omega) (by omega)) ?_
  rintro _ _ _ ⟨v2, rfl, rfl, rfl, f1⟩
  show ov_R u d ov_m116 9 [(0, ov_r 46), (1, ov_i c), (2, ov_i way)] [ov_i v2] z h (P_Ways_pass_46_k46_3_70 F z h c way)
  have f3 : (v2 = 0 ∨ v2 = 1) ∧ (v2 = 1 → (way = 0 ∧ c ≤ 52) ∨ (way = 1 ∧ c ≤ 47)) := f1
  clear f1
  refine ov_ifeq (tgt := 49) d_116_9 (by decide) (by omega) (fun c4 => ?_) (fun c4 => ?_)
  · skip
    exact ov_retv (st := []) d_116_49 rfl ⟨rfl, I, (by show (h 36 7) = (h 36 7) ∧ (h 1 1) = (h 1 1) ∧ (h 90 2) = (h 90 2) ∧ (h 0 10) = (h 0 10) ∧ (h 0 11) = (h 0 11) ∧ (h 0 12) = (h 0 12) ∧ (h 0 13) = (h 0 13) ∧ (h 3 1) = (h 3 1) ∧ (h 36 8) = (h 36 8) ∧ (h 46 3) = (h 46 3) ∧ (h 46 4) = (h 46 4) ∧ (h 49 4) = (h 49 4) ∧ (h 49 5) = (h 49 5) ∧ (h 64 0) = (h 64 0) ∧ (h 76 0) = (h 76 0); omega)⟩
  · skip
    refine ov_blk (ls2 := [(0, ov_r 46), (1, ov_i c), (2, ov_i way)]) (st2 := [ov_r 46]) (pc2 := 13) b_116_12_1 rfl rfl ?_
    refine ov_getf (v := ov_r 70) d_116_13 fl_Ways_18 (zb_46 I) (zs_46 I) (congrArg ov_r k0) ?_
    refine ov_blk (ls2 := [(0, ov_r 46), (1, ov_i c), (2, ov_i way)]) (st2 := [ov_i way, ov_i c, ov_r 70]) (pc2 := 18) b_116_16_2 rfl rfl ?_
    refine ov_cV (as := [ov_i c, ov_i way]) (st := []) (d2 := d - 1) d_116_18 lk_Ways_42 rfl (Nat.le_of_ble_eq_true rfl) (c := 9) (zb_70 I) (zs_70 I) ⟨by decide, rfl⟩ (by omega) (c_Town_after_70 (d - 1) (by omega) U I c way (by omega) (by omega) (by omega)) ?_
    rintro _ _ _ ⟨v6, rfl, rfl, rfl, f5⟩
    show ov_R u d ov_m116 21 [(0, ov_r 46), (1, ov_i c), (2, ov_i way)] [ov_i v6] z h (P_Ways_pass_46_k46_3_70 F z h c way)
    have f7 : (way = 0 → v6 = c + 1) ∧ (¬ way = 0 → v6 = c + 6) := f5
    clear f5
    refine ov_blk (ls2 := [(0, ov_r 46), (1, ov_i c), (2, ov_i way), (3, ov_i v6)]) (st2 := [ov_r 46]) (pc2 := 23) b_116_21_2 rfl rfl ?_
    refine ov_getf (v := ov_r 47) d_116_23 fl_Ways_9 (zb_46 I) (zs_46 I) (congrArg ov_r (rg_46_5 I)) ?_
    refine ov_blk (ls2 := [(0, ov_r 46), (1, ov_i c), (2, ov_i way), (3, ov_i v6)]) (st2 := [ov_r 46, ov_i v6, ov_r 47]) (pc2 := 28) b_116_26_2 rfl rfl ?_
    refine ov_getf (v := ov_r 47) d_116_28 fl_Ways_9 (zb_46 I) (zs_46 I) (congrArg ov_r (rg_46_5 I)) ?_
    refine ov_blk (ls2 := [(0, ov_r 46), (1, ov_i c), (2, ov_i way), (3, ov_i v6)]) (st2 := [ov_i v6, ov_r 47, ov_i v6, ov_r 47]) (pc2 := 32) b_116_31_1 rfl rfl ?_
    refine ov_iald d_116_32 (zb_47 I) (zs_47 I) (by omega) ?_
    have g8 := ra_47 I v6
    refine ov_blk (ls2 := [(0, ov_r 46), (1, ov_i c), (2, ov_i way), (3, ov_i v6)]) (st2 := [ov_r 46, ov_i way, ov_i c, ov_r 46, ov_i (h 47 v6), ov_i v6, ov_r 47]) (pc2 := 37) b_116_33_4 rfl rfl ?_
    refine ov_getf (v := ov_r 47) d_116_37 fl_Ways_9 (zb_46 I) (zs_46 I) (congrArg ov_r (rg_46_5 I)) ?_
    refine ov_blk (ls2 := [(0, ov_r 46), (1, ov_i c), (2, ov_i way), (3, ov_i v6)]) (st2 := [ov_i c, ov_r 47, ov_i way, ov_i c, ov_r 46, ov_i (h 47 v6), ov_i v6, ov_r 47]) (pc2 := 41) b_116_40_1 rfl rfl ?_
    refine ov_iald d_116_41 (zb_47 I) (zs_47 I) (by omega) ?_
    have g9 := ra_47 I c
    refine ov_cV (as := [ov_i c, ov_i way, ov_i (h 47 c)]) (st := [ov_i (h 47 v6), ov_i v6, ov_r 47]) (d2 := d - 1) d_116_42 lk_Ways_46 rfl (Nat.le_of_ble_eq_true rfl) (c := 12) (zb_46 I) (zs_46 I) ⟨by decide, rfl⟩ (by omega) (c_Ways_afterStreet_46_k46_3_70 (d - 1) (by omega) U I c way (h 47 c) k0 (by omega) (by omega) (by omega) (by omega)) ?_
    rintro _ _ _ ⟨v11, rfl, rfl, rfl, f10⟩
    show ov_R u d ov_m116 45 [(0, ov_r 46), (1, ov_i c), (2, ov_i way), (3, ov_i v6)] [ov_i v11, ov_i (h 47 v6), ov_i v6, ov_r 47] z h (P_Ways_pass_46_k46_3_70 F z h c way)
    have f12 : -2147483648 ≤ v11 ∧ v11 ≤ 2147483647 := f10
    clear f10
    refine ov_cSN (as := [ov_i (h 47 v6), ov_i v11]) (st := [ov_i v6, ov_r 47]) (d2 := d - 1) d_116_45 lk_Ways_50 rfl (Nat.le_of_ble_eq_true rfl) (by omega) (c_OF_lesser (d - 1) (by omega) U I (h 47 v6) v11 (by omega) (by omega)) ?_
    rintro _ _ _ ⟨v14, rfl, rfl, rfl, f13⟩
    show ov_R u d ov_m116 48 [(0, ov_r 46), (1, ov_i c), (2, ov_i way), (3, ov_i v6)] [ov_i v14, ov_i v6, ov_r 47] z h (P_Ways_pass_46_k46_3_70 F z h c way)
    have f15 : (v14 = (h 47 v6) ∨ v14 = v11) := f13
    clear f13
    refine ov_iast d_116_48 (zb_47 I) (zs_47 I) (by omega) ?_
    have I16 := ua_47 (k := v6) (x := v14) I (by omega)
    exact ov_retv (st := []) d_116_49 rfl ⟨rfl, I16, (by show (h 36 7) = (h 36 7) ∧ (h 1 1) = (h 1 1) ∧ (h 90 2) = (h 90 2) ∧ (h 0 10) = (h 0 10) ∧ (h 0 11) = (h 0 11) ∧ (h 0 12) = (h 0 12) ∧ (h 0 13) = (h 0 13) ∧ (h 3 1) = (h 3 1) ∧ (h 36 8) = (h 36 8) ∧ (h 46 3) = (h 46 3) ∧ (h 46 4) = (h 46 4) ∧ (h 49 4) = (h 49 4) ∧ (h 49 5) = (h 49 5) ∧ (h 64 0) = (h 64 0) ∧ (h 76 0) = (h 76 0); omega)⟩
abbrev P_Ways_arrival_46_70 (F : ov_H) (z : ov_Z) (h : ov_H) (c : Int) (s : Int) : Option ov_V → ov_Z → ov_H → Prop := fun r0 z' h' => ∃ r : Int, r0 = some (ov_i r) ∧ ov_I F z' h' ∧ (-2147483648 ≤ r ∧ r ≤ 2147483647 ∧ (h' 46 3) = 70 ∧ (h' 36 7) = (h 36 7) ∧ (h' 1 1) = (h 1 1) ∧ (h' 90 2) = (h 90 2) ∧ (h' 0 10) = (h 0 10) ∧ (h' 0 11) = (h 0 11) ∧ (h' 0 12) = (h 0 12) ∧ (h' 0 13) = (h 0 13) ∧ (h' 3 1) = (h 3 1) ∧ (h' 36 8) = (h 36 8) ∧ (h' 46 4) = (h 46 4) ∧ (h' 49 4) = (h 49 4) ∧ (h' 49 5) = (h 49 5) ∧ (h' 64 0) = (h 64 0) ∧ (h' 76 0) = (h 76 0))
set_option maxHeartbeats 4000000 in
theorem c_Ways_arrival_46_70 {u : ov_U} {F : ov_H} {z : ov_Z} {h : ov_H} (d : Nat) (hd : 4 ≤ d) (U : ov_cap u) (I : ov_I F z h) (c : Int) (s : Int) (g_c : ov_g c) (g_s : ov_g s) (p0 : 0 ≤ c ∧ c ≤ 53) (p1 : F (-5) 70 = 1) : ov_T u d ov_m114 [ov_r 46, ov_r 70, ov_i c, ov_i s] z h (P_Ways_arrival_46_70 F z h c s) := by
  refine ov_en rfl (Nat.le_of_ble_eq_true rfl) ?_
  show ov_R u d ov_m114 0 [(0, ov_r 46), (1, ov_r 70), (2, ov_i c), (3, ov_i s)] [] z h (P_Ways_arrival_46_70 F z h c s)
  refine ov_blk (ls2 := [(0, ov_r 46), (1, ov_r 70), (2, ov_i c), (3, ov_i s)]) (st2 := [ov_r 70, ov_r 46]) (pc2 := 2) b_114_0_2 rfl rfl ?_
  refine ov_putf (x := 70) d_114_2 fl_Ways_18 (zb_46 I) (zs_46 I) rfl nk_2 rfl ?_
  have I1 := up_46_3 (x := 70) I (by omega)
  refine ov_blk (ls2 := [(0, ov_r 46), (1, ov_r 70), (2, ov_i c), (3, ov_i s)]) (st2 := [ov_r 46]) (pc2 := 6) b_114_5_1 rfl rfl ?_
  refine ov_getf (v := ov_r 47) d_114_6 fl_Ways_9 (zb_46 I1) (zs_46 I1) (congrArg ov_r (rg_46_5 I1)) ?_
  refine ov_blk (ls2 := [(0, ov_r 46), (1, ov_r 70), (2, ov_i c), (3, ov_i s)]) (st2 := [ov_i (-1), ov_r 47]) (pc2 := 10) b_114_9_1 rfl rfl ?_
  refine ov_cS (as := [ov_r 47, ov_i (-1)]) (st := []) (d2 := d - 1) d_114_10 lk_Ways_22 rfl (Nat.le_of_ble_eq_true rfl) (by omega) (c_Arrays_fill_AIIV_47 (d - 1) (by omega) U I1 (-1) (by omega) (by omega)) ?_
  rintro _ z3 h4 ⟨rfl, I5, f2⟩
  show ov_R u d ov_m114 13 [(0, ov_r 46), (1, ov_r 70), (2, ov_i c), (3, ov_i s)] [] z3 h4 (P_Ways_arrival_46_70 F z h c s)
  have f6 : (h4 36 7) = (h 36 7) ∧ (h4 1 1) = (h 1 1) ∧ (h4 90 2) = (h 90 2) ∧ (h4 0 10) = (h 0 10) ∧ (h4 0 11) = (h 0 11) ∧ (h4 0 12) = (h 0 12) ∧ (h4 0 13) = (h 0 13) ∧ (h4 3 1) = (h 3 1) ∧ (h4 36 8) = (h 36 8) ∧ (h4 46 3) = 70 ∧ (h4 46 4) = (h 46 4) ∧ (h4 49 4) = (h 49 4) ∧ (h4 49 5) = (h 49 5) ∧ (h4 64 0) = (h 64 0) ∧ (h4 76 0) = (h 76 0) := f2
  clear f2
  have e7 : h4 46 3 = 70 := by omega
  refine ov_blk (ls2 := [(0, ov_r 46), (1, ov_r 70), (2, ov_i c), (3, ov_i s)]) (st2 := [ov_r 46]) (pc2 := 14) b_114_13_1 rfl rfl ?_
  refine ov_getf (v := ov_r 47) d_114_14 fl_Ways_9 (zb_46 I5) (zs_46 I5) (congrArg ov_r (rg_46_5 I5)) ?_
  refine ov_blk (ls2 := [(0, ov_r 46), (1, ov_r 70), (2, ov_i c), (3, ov_i s)]) (st2 := [ov_i s, ov_i c, ov_r 47]) (pc2 := 19) b_114_17_2 rfl rfl ?_
  refine ov_iast d_114_19 (zb_47 I5) (zs_47 I5) (by omega) ?_
  have I8 := ua_47 (k := c) (x := s) I5 (by omega)
  refine ov_blk (ls2 := [(0, ov_r 46), (1, ov_r 70), (2, ov_i c), (3, ov_i s)]) (st2 := [ov_r 46]) (pc2 := 21) b_114_20_1 rfl rfl ?_
  refine ov_getf (v := ov_r 70) d_114_21 fl_Ways_18 (zb_46 I8) (zs_46 I8) (congrArg ov_r e7) ?_
  refine ov_cV (as := []) (st := []) (d2 := d - 1) d_114_24 lk_Ways_28 rfl (Nat.le_of_ble_eq_true rfl) (c := 9) (zb_70 I8) (zs_70 I8) ⟨by decide, rfl⟩ (by omega) (c_Town_home_70 (d - 1) (by omega) U I8 (by omega)) ?_
  rintro _ _ _ ⟨v10, rfl, rfl, rfl, f9⟩
  show ov_R u d ov_m114 27 [(0, ov_r 46), (1, ov_r 70), (2, ov_i c), (3, ov_i s)] [ov_i v10] z3 (ov_up h4 47 c s) (P_Ways_arrival_46_70 F z h c s)
  have f11 : v10 = ((h4 70 1) - 1) * 6 + (h4 70 0) - 1 ∧ 0 ≤ v10 ∧ v10 ≤ 53 := f9
  clear f9
  refine ov_blk (ls2 := [(0, ov_r 46), (1, ov_r 70), (2, ov_i c), (3, ov_i s), (4, ov_i v10), (5, ov_i c)]) (st2 := []) (pc2 := 32) b_114_27_3 rfl rfl ?_
  have L15 : ∀ (n12 : Nat) (x5 : Int) (z16 : ov_Z) (h17 : ov_H) (I18 : ov_I F z16 h17) (q14 : 0 ≤ x5 ∧ x5 ≤ 53 ∧ (h17 36 7) = (h 36 7) ∧ (h17 1 1) = (h 1 1) ∧ (h17 90 2) = (h 90 2) ∧ (h17 0 10) = (h 0 10) ∧ (h17 0 11) = (h 0 11) ∧ (h17 0 12) = (h 0 12) ∧ (h17 0 13) = (h 0 13) ∧ (h17 3 1) = (h 3 1) ∧ (h17 36 8) = (h 36 8) ∧ (h17 46 4) = (h 46 4) ∧ (h17 49 4) = (h 49 4) ∧ (h17 49 5) = (h 49 5) ∧ (h17 64 0) = (h 64 0) ∧ (h17 76 0) = (h 76 0) ∧ h17 46 3 = 70), 53 - x5 < (n12 : Int) → ov_R u d ov_m114 32 [(0, ov_r 46), (1, ov_r 70), (2, ov_i c), (3, ov_i s), (4, ov_i v10), (5, ov_i x5)] [] z16 h17 (P_Ways_arrival_46_70 F z h c s) := by
    intro n12
    induction n12 with
    | zero =>
      intro x5 z16 h17 I18 q14 hn19
      exact absurd hn19 (by omega)
    | succ n12 ih13 =>
      intro x5 z16 h17 I18 q14 hn19
      have e20 : h17 46 3 = 70 := by omega
      refine ov_blk (ls2 := [(0, ov_r 46), (1, ov_r 70), (2, ov_i c), (3, ov_i s), (4, ov_i v10), (5, ov_i x5)]) (st2 := [ov_i v10, ov_i x5]) (pc2 := 36) b_114_32_2 rfl rfl ?_
      refine ov_icge (tgt := 70) d_114_36 (by decide) (by omega) (by omega) (fun c21 => ?_) (fun c21 => ?_)
      · skip
        refine ov_blk (ls2 := [(0, ov_r 46), (1, ov_r 70), (2, ov_i c), (3, ov_i s), (4, ov_i v10), (5, ov_i x5)]) (st2 := [ov_r 46]) (pc2 := 71) b_114_70_1 rfl rfl ?_
        refine ov_getf (v := ov_r 47) d_114_71 fl_Ways_9 (zb_46 I18) (zs_46 I18) (congrArg ov_r (rg_46_5 I18)) ?_
        refine ov_blk (ls2 := [(0, ov_r 46), (1, ov_r 70), (2, ov_i c), (3, ov_i s), (4, ov_i v10), (5, ov_i x5)]) (st2 := [ov_i v10, ov_r 47]) (pc2 := 76) b_114_74_1 rfl rfl ?_
        refine ov_iald d_114_76 (zb_47 I18) (zs_47 I18) (by omega) ?_
        have g22 := ra_47 I18 v10
        exact ov_reti (st := []) d_114_77 rfl ⟨_, rfl, I18, (by show -2147483648 ≤ (h17 47 v10) ∧ (h17 47 v10) ≤ 2147483647 ∧ (h17 46 3) = 70 ∧ (h17 36 7) = (h 36 7) ∧ (h17 1 1) = (h 1 1) ∧ (h17 90 2) = (h 90 2) ∧ (h17 0 10) = (h 0 10) ∧ (h17 0 11) = (h 0 11) ∧ (h17 0 12) = (h 0 12) ∧ (h17 0 13) = (h 0 13) ∧ (h17 3 1) = (h 3 1) ∧ (h17 36 8) = (h 36 8) ∧ (h17 46 4) = (h 46 4) ∧ (h17 49 4) = (h 49 4) ∧ (h17 49 5) = (h 49 5) ∧ (h17 64 0) = (h 64 0) ∧ (h17 76 0) = (h 76 0); omega)⟩
      · skip
        refine ov_blk (ls2 := [(0, ov_r 46), (1, ov_r 70), (2, ov_i c), (3, ov_i s), (4, ov_i v10), (5, ov_i x5)]) (st2 := [ov_r 46]) (pc2 := 40) b_114_39_1 rfl rfl ?_
        refine ov_getf (v := ov_r 47) d_114_40 fl_Ways_9 (zb_46 I18) (zs_46 I18) (congrArg ov_r (rg_46_5 I18)) ?_
        refine ov_blk (ls2 := [(0, ov_r 46), (1, ov_r 70), (2, ov_i c), (3, ov_i s), (4, ov_i v10), (5, ov_i x5)]) (st2 := [ov_i x5, ov_r 47]) (pc2 := 45) b_114_43_1 rfl rfl ?_
        refine ov_iald d_114_45 (zb_47 I18) (zs_47 I18) (by omega) ?_
        have g23 := ra_47 I18 x5
        refine ov_blk (ls2 := [(0, ov_r 46), (1, ov_r 70), (2, ov_i c), (3, ov_i s), (4, ov_i v10), (5, ov_i x5)]) (st2 := [ov_i (-1), ov_i (h17 47 x5)]) (pc2 := 47) b_114_46_1 rfl rfl ?_
        refine ov_iceq (tgt := 64) d_114_47 (by decide) (by omega) (by omega) (fun c24 => ?_) (fun c24 => ?_)
        · skip
          refine ov_blk (ls2 := [(0, ov_r 46), (1, ov_r 70), (2, ov_i c), (3, ov_i s), (4, ov_i v10), (5, ov_i (x5 + 1))]) (st2 := []) (pc2 := 67) b_114_64_1 rfl rfl ?_
          refine ov_goto (tgt := 32) d_114_67 (by decide) ?_
          exact ih13 (x5 + 1) _ _ I18 (by show 0 ≤ (x5 + 1) ∧ (x5 + 1) ≤ 53 ∧ (h17 36 7) = (h 36 7) ∧ (h17 1 1) = (h 1 1) ∧ (h17 90 2) = (h 90 2) ∧ (h17 0 10) = (h 0 10) ∧ (h17 0 11) = (h 0 11) ∧ (h17 0 12) = (h 0 12) ∧ (h17 0 13) = (h 0 13) ∧ (h17 3 1) = (h 3 1) ∧ (h17 36 8) = (h 36 8) ∧ (h17 46 4) = (h 46 4) ∧ (h17 49 4) = (h 49 4) ∧ (h17 49 5) = (h 49 5) ∧ (h17 64 0) = (h 64 0) ∧ (h17 76 0) = (h 76 0) ∧ (h17 46 3) = 70; omega) (by omega)
        · skip
          refine ov_blk (ls2 := [(0, ov_r 46), (1, ov_r 70), (2, ov_i c), (3, ov_i s), (4, ov_i v10), (5, ov_i x5)]) (st2 := [ov_i 0, ov_i x5, ov_r 46]) (pc2 := 54) b_114_50_3 rfl rfl ?_
          refine ov_cV (as := [ov_i x5, ov_i 0]) (st := []) (d2 := d - 1) d_114_54 lk_Ways_34 rfl (Nat.le_of_ble_eq_true rfl) (c := 12) (zb_46 I18) (zs_46 I18) ⟨by decide, rfl⟩ (by omega) (c_Ways_pass_46_k46_3_70 (d - 1) (by omega) U I18 x5 0 e20 (by omega) (by omega) (by omega)) ?_
          rintro _ z26 h27 ⟨rfl, I28, f25⟩
          show ov_R u d ov_m114 57 [(0, ov_r 46), (1, ov_r 70), (2, ov_i c), (3, ov_i s), (4, ov_i v10), (5, ov_i x5)] [] z26 h27 (P_Ways_arrival_46_70 F z h c s)
          have f29 : (h27 36 7) = (h17 36 7) ∧ (h27 1 1) = (h17 1 1) ∧ (h27 90 2) = (h17 90 2) ∧ (h27 0 10) = (h17 0 10) ∧ (h27 0 11) = (h17 0 11) ∧ (h27 0 12) = (h17 0 12) ∧ (h27 0 13) = (h17 0 13) ∧ (h27 3 1) = (h17 3 1) ∧ (h27 36 8) = (h17 36 8) ∧ (h27 46 3) = (h17 46 3) ∧ (h27 46 4) = (h17 46 4) ∧ (h27 49 4) = (h17 49 4) ∧ (h27 49 5) = (h17 49 5) ∧ (h27 64 0) = (h17 64 0) ∧ (h27 76 0) = (h17 76 0) := f25
          clear f25
          have e30 : h27 46 3 = 70 := by omega
          refine ov_blk (ls2 := [(0, ov_r 46), (1, ov_r 70), (2, ov_i c), (3, ov_i s), (4, ov_i v10), (5, ov_i x5)]) (st2 := [ov_i 1, ov_i x5, ov_r 46]) (pc2 := 61) b_114_57_3 rfl rfl ?_
          refine ov_cV (as := [ov_i x5, ov_i 1]) (st := []) (d2 := d - 1) d_114_61 lk_Ways_34 rfl (Nat.le_of_ble_eq_true rfl) (c := 12) (zb_46 I28) (zs_46 I28) ⟨by decide, rfl⟩ (by omega) (c_Ways_pass_46_k46_3_70 (d - 1) (by omega) U I28 x5 1 e30 (by omega) (by omega) (by omega)) ?_
          rintro _ z32 h33 ⟨rfl, I34, f31⟩
          show ov_R u d ov_m114 64 [(0, ov_r 46), (1, ov_r 70), (2, ov_i c), (3, ov_i s), (4, ov_i v10), (5, ov_i x5)] [] z32 h33 (P_Ways_arrival_46_70 F z h c s)
          have f35 : (h33 36 7) = (h27 36 7) ∧ (h33 1 1) = (h27 1 1) ∧ (h33 90 2) = (h27 90 2) ∧ (h33 0 10) = (h27 0 10) ∧ (h33 0 11) = (h27 0 11) ∧ (h33 0 12) = (h27 0 12) ∧ (h33 0 13) = (h27 0 13) ∧ (h33 3 1) = (h27 3 1) ∧ (h33 36 8) = (h27 36 8) ∧ (h33 46 3) = (h27 46 3) ∧ (h33 46 4) = (h27 46 4) ∧ (h33 49 4) = (h27 49 4) ∧ (h33 49 5) = (h27 49 5) ∧ (h33 64 0) = (h27 64 0) ∧ (h33 76 0) = (h27 76 0) := f31
          clear f31
          have e36 : h33 46 3 = 70 := by omega
          refine ov_blk (ls2 := [(0, ov_r 46), (1, ov_r 70), (2, ov_i c), (3, ov_i s), (4, ov_i v10), (5, ov_i (x5 + 1))]) (st2 := []) (pc2 := 67) b_114_64_1 rfl rfl ?_
          refine ov_goto (tgt := 32) d_114_67 (by decide) ?_
          exact ih13 (x5 + 1) _ _ I34 (by show 0 ≤ (x5 + 1) ∧ (x5 + 1) ≤ 53 ∧ (h33 36 7) = (h 36 7) ∧ (h33 1 1) = (h 1 1) ∧ (h33 90 2) = (h 90 2) ∧ (h33 0 10) = (h 0 10) ∧ (h33 0 11) = (h 0 11) ∧ (h33 0 12) = (h 0 12) ∧ (h33 0 13) = (h 0 13) ∧ (h33 3 1) = (h 3 1) ∧ (h33 36 8) = (h 36 8) ∧ (h33 46 4) = (h 46 4) ∧ (h33 49 4) = (h 49 4) ∧ (h33 49 5) = (h 49 5) ∧ (h33 64 0) = (h 64 0) ∧ (h33 76 0) = (h 76 0) ∧ (h33 46 3) = 70; omega) (by omega)
  exact L15 55 c _ _ I8 (by show 0 ≤ c ∧ c ≤ 53 ∧ (h4 36 7) = (h 36 7) ∧ (h4 1 1) = (h 1 1) ∧ (h4 90 2) = (h 90 2) ∧ (h4 0 10) = (h 0 10) ∧ (h4 0 11) = (h 0 11) ∧ (h4 0 12) = (h 0 12) ∧ (h4 0 13) = (h 0 13) ∧ (h4 3 1) = (h 3 1) ∧ (h4 36 8) = (h 36 8) ∧ (h4 46 4) = (h 46 4) ∧ (h4 49 4) = (h 49 4) ∧ (h4 49 5) = (h 49 5) ∧ (h4 64 0) = (h 64 0) ∧ (h4 76 0) = (h 76 0) ∧ (h4 46 3) = 70; omega) (by omega)
abbrev P_Ways_isAsSoonOver_46_k46_3_70 (F : ov_H) (z : ov_Z) (h : ov_H) (c : Int) (s : Int) (n : Int) : Option ov_V → ov_Z → ov_H → Prop := fun r0 z' h' => ∃ r : Int, r0 = some (ov_i r) ∧ ov_I F z' h' ∧ ((r = 0 ∨ r = 1) ∧ (r = 1 → c ≤ 52) ∧ (h' 36 7) = (h 36 7) ∧ (h' 1 1) = (h 1 1) ∧ (h' 90 2) = (h 90 2) ∧ (h' 0 10) = (h 0 10) ∧ (h' 0 11) = (h 0 11) ∧ (h' 0 12) = (h 0 12) ∧ (h' 0 13) = (h 0 13) ∧ (h' 3 1) = (h 3 1) ∧ (h' 36 8) = (h 36 8) ∧ (h' 46 3) = (h 46 3) ∧ (h' 46 4) = (h 46 4) ∧ (h' 49 4) = (h 49 4) ∧ (h' 49 5) = (h 49 5) ∧ (h' 64 0) = (h 64 0) ∧ (h' 76 0) = (h 76 0))
set_option maxHeartbeats 4000000 in
theorem c_Ways_isAsSoonOver_46_k46_3_70 {u : ov_U} {F : ov_H} {z : ov_Z} {h : ov_H} (d : Nat) (hd : 5 ≤ d) (U : ov_cap u) (I : ov_I F z h) (c : Int) (s : Int) (n : Int) (k0 : h 46 3 = 70) (g_c : ov_g c) (g_s : ov_g s) (g_n : ov_g n) (p0 : 0 ≤ c ∧ c ≤ 53) (p1 : F (-5) 70 = 1) : ov_T u d ov_m119 [ov_r 46, ov_i c, ov_i s, ov_i n] z h (P_Ways_isAsSoonOver_46_k46_3_70 F z h c s n) := by
  refine ov_en rfl (Nat.le_of_ble_eq_true rfl) ?_
  show ov_R u d ov_m119 0 [(0, ov_r 46), (1, ov_i c), (2, ov_i s), (3, ov_i n)] [] z h (P_Ways_isAsSoonOver_46_k46_3_70 F z h c s n)
  refine ov_blk (ls2 := [(0, ov_r 46), (1, ov_i c), (2, ov_i s), (3, ov_i n)]) (st2 := [ov_r 46]) (pc2 := 1) b_119_0_1 rfl rfl ?_
  refine ov_getf (v := ov_r 70) d_119_1 fl_Ways_18 (zb_46 I) (zs_46 I) (congrArg ov_r k0) ?_
  refine ov_blk (ls2 := [(0, ov_r 46), (1, ov_i c), (2, ov_i s), (3, ov_i n)]) (st2 := [ov_i 0, ov_i c, ov_r 70]) (pc2 := 6) b_119_4_2 rfl rfl ?_
  refine ov_cV (as := [ov_i c, ov_i 0]) (st := []) (d2 := d - 1) d_119_6 lk_Ways_38 rfl (Nat.le_of_ble_eq_true rfl) (c := 9) (zb_70 I) (zs_70 I) ⟨by decide, rfl⟩ (by omega) (c_Town_isOpen_70 (d - 1) (by omega) U I c 0 (by omega) (by omega) (by omega)) ?_
  rintro _ _ _ ⟨v2, rfl, rfl, rfl, f1⟩
  show ov_R u d ov_m119 9 [(0, ov_r 46), (1, ov_i c), (2, ov_i s), (3, ov_i n)] [ov_i v2] z h (P_Ways_isAsSoonOver_46_k46_3_70 F z h c s n)
  have f3 : (v2 = 0 ∨ v2 = 1) ∧ (v2 = 1 → ((0 : Int) = 0 ∧ c ≤ 52) ∨ ((0 : Int) = 1 ∧ c ≤ 47)) := f1
  clear f1
  refine ov_ifeq (tgt := 44) d_119_9 (by decide) (by omega) (fun c4 => ?_) (fun c4 => ?_)
  · skip
    refine ov_blk (ls2 := [(0, ov_r 46), (1, ov_i c), (2, ov_i s), (3, ov_i n)]) (st2 := [ov_i 0]) (pc2 := 45) b_119_44_1 rfl rfl ?_
    exact ov_retz (st := []) d_119_45 rfl (by omega) ⟨_, rfl, I, (by show (0 = 0 ∨ 0 = 1) ∧ (0 = 1 → c ≤ 52) ∧ (h 36 7) = (h 36 7) ∧ (h 1 1) = (h 1 1) ∧ (h 90 2) = (h 90 2) ∧ (h 0 10) = (h 0 10) ∧ (h 0 11) = (h 0 11) ∧ (h 0 12) = (h 0 12) ∧ (h 0 13) = (h 0 13) ∧ (h 3 1) = (h 3 1) ∧ (h 36 8) = (h 36 8) ∧ (h 46 3) = (h 46 3) ∧ (h 46 4) = (h 46 4) ∧ (h 49 4) = (h 49 4) ∧ (h 49 5) = (h 49 5) ∧ (h 64 0) = (h 64 0) ∧ (h 76 0) = (h 76 0); omega)⟩
  · skip
    refine ov_blk (ls2 := [(0, ov_r 46), (1, ov_i c), (2, ov_i s), (3, ov_i n)]) (st2 := [ov_r 46, ov_r 46]) (pc2 := 14) b_119_12_2 rfl rfl ?_
    refine ov_getf (v := ov_r 70) d_119_14 fl_Ways_18 (zb_46 I) (zs_46 I) (congrArg ov_r k0) ?_
    refine ov_blk (ls2 := [(0, ov_r 46), (1, ov_i c), (2, ov_i s), (3, ov_i n)]) (st2 := [ov_r 46, ov_r 70, ov_r 46]) (pc2 := 18) b_119_17_1 rfl rfl ?_
    refine ov_getf (v := ov_r 70) d_119_18 fl_Ways_18 (zb_46 I) (zs_46 I) (congrArg ov_r k0) ?_
    refine ov_blk (ls2 := [(0, ov_r 46), (1, ov_i c), (2, ov_i s), (3, ov_i n)]) (st2 := [ov_i 0, ov_i c, ov_r 70, ov_r 70, ov_r 46]) (pc2 := 23) b_119_21_2 rfl rfl ?_
    refine ov_cV (as := [ov_i c, ov_i 0]) (st := [ov_r 70, ov_r 46]) (d2 := d - 1) d_119_23 lk_Ways_42 rfl (Nat.le_of_ble_eq_true rfl) (c := 9) (zb_70 I) (zs_70 I) ⟨by decide, rfl⟩ (by omega) (c_Town_after_70 (d - 1) (by omega) U I c 0 (by omega) (by omega) (by omega)) ?_
    rintro _ _ _ ⟨v6, rfl, rfl, rfl, f5⟩
    show ov_R u d ov_m119 26 [(0, ov_r 46), (1, ov_i c), (2, ov_i s), (3, ov_i n)] [ov_i v6, ov_r 70, ov_r 46] z h (P_Ways_isAsSoonOver_46_k46_3_70 F z h c s n)
    have f7 : ((0 : Int) = 0 → v6 = c + 1) ∧ (¬ (0 : Int) = 0 → v6 = c + 6) := f5
    clear f5
    refine ov_blk (ls2 := [(0, ov_r 46), (1, ov_i c), (2, ov_i s), (3, ov_i n)]) (st2 := [ov_i s, ov_i 0, ov_i c, ov_r 46, ov_i v6, ov_r 70, ov_r 46]) (pc2 := 30) b_119_26_4 rfl rfl ?_
    refine ov_cV (as := [ov_i c, ov_i 0, ov_i s]) (st := [ov_i v6, ov_r 70, ov_r 46]) (d2 := d - 1) d_119_30 lk_Ways_46 rfl (Nat.le_of_ble_eq_true rfl) (c := 12) (zb_46 I) (zs_46 I) ⟨by decide, rfl⟩ (by omega) (c_Ways_afterStreet_46_k46_3_70 (d - 1) (by omega) U I c 0 s k0 (by omega) (by omega) (by omega) (by omega)) ?_
    rintro _ _ _ ⟨v9, rfl, rfl, rfl, f8⟩
    show ov_R u d ov_m119 33 [(0, ov_r 46), (1, ov_i c), (2, ov_i s), (3, ov_i n)] [ov_i v9, ov_i v6, ov_r 70, ov_r 46] z h (P_Ways_isAsSoonOver_46_k46_3_70 F z h c s n)
    have f10 : -2147483648 ≤ v9 ∧ v9 ≤ 2147483647 := f8
    clear f8
    refine ov_cV (as := [ov_r 70, ov_i v6, ov_i v9]) (st := []) (d2 := d - 1) d_119_33 lk_Ways_59 rfl (Nat.le_of_ble_eq_true rfl) (c := 12) (zb_46 I) (zs_46 I) ⟨by decide, rfl⟩ (by omega) (c_Ways_arrival_46_70 (d - 1) (by omega) U I v6 v9 (by omega) (by omega) (by omega) (by omega)) ?_
    rintro _ z13 h14 ⟨v12, rfl, I15, f11⟩
    show ov_R u d ov_m119 36 [(0, ov_r 46), (1, ov_i c), (2, ov_i s), (3, ov_i n)] [ov_i v12] z13 h14 (P_Ways_isAsSoonOver_46_k46_3_70 F z h c s n)
    have f16 : -2147483648 ≤ v12 ∧ v12 ≤ 2147483647 ∧ (h14 46 3) = 70 ∧ (h14 36 7) = (h 36 7) ∧ (h14 1 1) = (h 1 1) ∧ (h14 90 2) = (h 90 2) ∧ (h14 0 10) = (h 0 10) ∧ (h14 0 11) = (h 0 11) ∧ (h14 0 12) = (h 0 12) ∧ (h14 0 13) = (h 0 13) ∧ (h14 3 1) = (h 3 1) ∧ (h14 36 8) = (h 36 8) ∧ (h14 46 4) = (h 46 4) ∧ (h14 49 4) = (h 49 4) ∧ (h14 49 5) = (h 49 5) ∧ (h14 64 0) = (h 64 0) ∧ (h14 76 0) = (h 76 0) := f11
    clear f11
    have e17 : h14 46 3 = 70 := by omega
    refine ov_blk (ls2 := [(0, ov_r 46), (1, ov_i c), (2, ov_i s), (3, ov_i n)]) (st2 := [ov_i n, ov_i v12]) (pc2 := 37) b_119_36_1 rfl rfl ?_
    refine ov_icne (tgt := 44) d_119_37 (by decide) (by omega) (by omega) (fun c18 => ?_) (fun c18 => ?_)
    · skip
      refine ov_blk (ls2 := [(0, ov_r 46), (1, ov_i c), (2, ov_i s), (3, ov_i n)]) (st2 := [ov_i 0]) (pc2 := 45) b_119_44_1 rfl rfl ?_
      exact ov_retz (st := []) d_119_45 rfl (by omega) ⟨_, rfl, I15, (by show (0 = 0 ∨ 0 = 1) ∧ (0 = 1 → c ≤ 52) ∧ (h14 36 7) = (h 36 7) ∧ (h14 1 1) = (h 1 1) ∧ (h14 90 2) = (h 90 2) ∧ (h14 0 10) = (h 0 10) ∧ (h14 0 11) = (h 0 11) ∧ (h14 0 12) = (h 0 12) ∧ (h14 0 13) = (h 0 13) ∧ (h14 3 1) = (h 3 1) ∧ (h14 36 8) = (h 36 8) ∧ (h14 46 3) = (h 46 3) ∧ (h14 46 4) = (h 46 4) ∧ (h14 49 4) = (h 49 4) ∧ (h14 49 5) = (h 49 5) ∧ (h14 64 0) = (h 64 0) ∧ (h14 76 0) = (h 76 0); omega)⟩
    · skip
      refine ov_blk (ls2 := [(0, ov_r 46), (1, ov_i c), (2, ov_i s), (3, ov_i n)]) (st2 := [ov_i 1]) (pc2 := 41) b_119_40_1 rfl rfl ?_
      refine ov_goto (tgt := 45) d_119_41 (by decide) ?_
      exact ov_retz (st := []) d_119_45 rfl (by omega) ⟨_, rfl, I15, (by show (1 = 0 ∨ 1 = 1) ∧ (1 = 1 → c ≤ 52) ∧ (h14 36 7) = (h 36 7) ∧ (h14 1 1) = (h 1 1) ∧ (h14 90 2) = (h 90 2) ∧ (h14 0 10) = (h 0 10) ∧ (h14 0 11) = (h 0 11) ∧ (h14 0 12) = (h 0 12) ∧ (h14 0 13) = (h 0 13) ∧ (h14 3 1) = (h 3 1) ∧ (h14 36 8) = (h 36 8) ∧ (h14 46 3) = (h 46 3) ∧ (h14 46 4) = (h 46 4) ∧ (h14 49 4) = (h 49 4) ∧ (h14 49 5) = (h 49 5) ∧ (h14 64 0) = (h 64 0) ∧ (h14 76 0) = (h 76 0); omega)⟩
abbrev P_Ways_lastAsSoon_46_70 (F : ov_H) (z : ov_Z) (h : ov_H) (c : Int) (s : Int) : Option ov_V → ov_Z → ov_H → Prop := fun r0 z' h' => ∃ r : Int, r0 = some (ov_i r) ∧ ov_I F z' h' ∧ (-2147483648 ≤ r ∧ r ≤ 2147483647 ∧ (h' 36 7) = (h 36 7) ∧ (h' 1 1) = (h 1 1) ∧ (h' 90 2) = (h 90 2) ∧ (h' 0 10) = (h 0 10) ∧ (h' 0 11) = (h 0 11) ∧ (h' 0 12) = (h 0 12) ∧ (h' 0 13) = (h 0 13) ∧ (h' 3 1) = (h 3 1) ∧ (h' 36 8) = (h 36 8) ∧ (h' 46 4) = (h 46 4) ∧ (h' 49 4) = (h 49 4) ∧ (h' 49 5) = (h 49 5) ∧ (h' 64 0) = (h 64 0) ∧ (h' 76 0) = (h 76 0))
set_option maxHeartbeats 4000000 in
theorem c_Ways_lastAsSoon_46_70 {u : ov_U} {F : ov_H} {z : ov_Z} {h : ov_H} (d : Nat) (hd : 5 ≤ d) (U : ov_cap u) (I : ov_I F z h) (c : Int) (s : Int) (g_c : ov_g c) (g_s : ov_g s) (p0 : 0 ≤ c ∧ c ≤ 53) (p1 : F (-5) 70 = 1) : ov_T u d ov_m150 [ov_r 46, ov_r 70, ov_i c, ov_i s] z h (P_Ways_lastAsSoon_46_70 F z h c s) := by
  refine ov_en rfl (Nat.le_of_ble_eq_true rfl) ?_
  show ov_R u d ov_m150 0 [(0, ov_r 46), (1, ov_r 70), (2, ov_i c), (3, ov_i s)] [] z h (P_Ways_lastAsSoon_46_70 F z h c s)
  refine ov_blk (ls2 := [(0, ov_r 46), (1, ov_r 70), (2, ov_i c), (3, ov_i s)]) (st2 := [ov_i s, ov_i c, ov_r 70, ov_r 46]) (pc2 := 4) b_150_0_4 rfl rfl ?_
  refine ov_cV (as := [ov_r 70, ov_i c, ov_i s]) (st := []) (d2 := d - 1) d_150_4 lk_Ways_59 rfl (Nat.le_of_ble_eq_true rfl) (c := 12) (zb_46 I) (zs_46 I) ⟨by decide, rfl⟩ (by omega) (c_Ways_arrival_46_70 (d - 1) (by omega) U I c s (by omega) (by omega) (by omega) (by omega)) ?_
  rintro _ z3 h4 ⟨v2, rfl, I5, f1⟩
  show ov_R u d ov_m150 7 [(0, ov_r 46), (1, ov_r 70), (2, ov_i c), (3, ov_i s)] [ov_i v2] z3 h4 (P_Ways_lastAsSoon_46_70 F z h c s)
  have f6 : -2147483648 ≤ v2 ∧ v2 ≤ 2147483647 ∧ (h4 46 3) = 70 ∧ (h4 36 7) = (h 36 7) ∧ (h4 1 1) = (h 1 1) ∧ (h4 90 2) = (h 90 2) ∧ (h4 0 10) = (h 0 10) ∧ (h4 0 11) = (h 0 11) ∧ (h4 0 12) = (h 0 12) ∧ (h4 0 13) = (h 0 13) ∧ (h4 3 1) = (h 3 1) ∧ (h4 36 8) = (h 36 8) ∧ (h4 46 4) = (h 46 4) ∧ (h4 49 4) = (h 49 4) ∧ (h4 49 5) = (h 49 5) ∧ (h4 64 0) = (h 64 0) ∧ (h4 76 0) = (h 76 0) := f1
  clear f1
  have e7 : h4 46 3 = 70 := by omega
  refine ov_blk (ls2 := [(0, ov_r 46), (1, ov_r 70), (2, ov_i c), (3, ov_i s), (4, ov_i v2)]) (st2 := [ov_i (-1), ov_i v2]) (pc2 := 12) b_150_7_3 rfl rfl ?_
  refine ov_icne (tgt := 17) d_150_12 (by decide) (by omega) (by omega) (fun c8 => ?_) (fun c8 => ?_)
  · skip
    refine ov_blk (ls2 := [(0, ov_r 46), (1, ov_r 70), (2, ov_i c), (3, ov_i s), (4, ov_i v2), (5, ov_i s)]) (st2 := [ov_r 46, ov_i s]) (pc2 := 22) b_150_17_4 rfl rfl ?_
    refine ov_getf (v := ov_r 70) d_150_22 fl_Ways_18 (zb_46 I5) (zs_46 I5) (congrArg ov_r e7) ?_
    refine ov_getf (v := ov_i (h4 70 10)) d_150_25 fl_Ways_67 (zb_70 I5) (zs_70 I5) rfl ?_
    have g9 := rg_70_10 I5
    refine ov_blk (ls2 := [(0, ov_r 46), (1, ov_r 70), (2, ov_i c), (3, ov_i s), (4, ov_i v2), (5, ov_i s)]) (st2 := [ov_i (s + (h4 70 10))]) (pc2 := 29) b_150_28_1 rfl rfl ?_
    refine ov_havw (fun w10 gw10 qw10 => ?_)
    refine ov_blk (ls2 := [(0, ov_r 46), (1, ov_r 70), (2, ov_i c), (3, ov_i s), (4, ov_i v2), (5, ov_i s), (6, ov_i w10), (7, ov_i 0)]) (st2 := []) (pc2 := 34) b_150_29_3 rfl rfl ?_
    have L14 : ∀ (n11 : Nat) (x5 : Int) (x6 : Int) (x7 : Int) (z15 : ov_Z) (h16 : ov_H) (I17 : ov_I F z15 h16) (q13 : ov_g x5 ∧ ov_g x6 ∧ 0 ≤ x7 ∧ x7 ≤ 32 ∧ (h16 36 7) = (h 36 7) ∧ (h16 1 1) = (h 1 1) ∧ (h16 90 2) = (h 90 2) ∧ (h16 0 10) = (h 0 10) ∧ (h16 0 11) = (h 0 11) ∧ (h16 0 12) = (h 0 12) ∧ (h16 0 13) = (h 0 13) ∧ (h16 3 1) = (h 3 1) ∧ (h16 36 8) = (h 36 8) ∧ (h16 46 4) = (h 46 4) ∧ (h16 49 4) = (h 49 4) ∧ (h16 49 5) = (h 49 5) ∧ (h16 64 0) = (h 64 0) ∧ (h16 76 0) = (h 76 0) ∧ h16 46 3 = 70), 32 - x7 < (n11 : Int) → ov_R u d ov_m150 34 [(0, ov_r 46), (1, ov_r 70), (2, ov_i c), (3, ov_i s), (4, ov_i v2), (5, ov_i x5), (6, ov_i x6), (7, ov_i x7)] [] z15 h16 (P_Ways_lastAsSoon_46_70 F z h c s) := by
      intro n11
      induction n11 with
      | zero =>
        intro x5 x6 x7 z15 h16 I17 q13 hn18
        exact absurd hn18 (by omega)
      | succ n11 ih12 =>
        intro x5 x6 x7 z15 h16 I17 q13 hn18
        have e19 : h16 46 3 = 70 := by omega
        refine ov_blk (ls2 := [(0, ov_r 46), (1, ov_r 70), (2, ov_i c), (3, ov_i s), (4, ov_i v2), (5, ov_i x5), (6, ov_i x6), (7, ov_i x7)]) (st2 := [ov_i 32, ov_i x7]) (pc2 := 38) b_150_34_2 rfl rfl ?_
        refine ov_icge (tgt := 92) d_150_38 (by decide) (by omega) (by omega) (fun c20 => ?_) (fun c20 => ?_)
        · skip
          refine ov_blk (ls2 := [(0, ov_r 46), (1, ov_r 70), (2, ov_i c), (3, ov_i s), (4, ov_i v2), (5, ov_i x5), (6, ov_i x6), (7, ov_i x7)]) (st2 := [ov_i x5]) (pc2 := 94) b_150_92_1 rfl rfl ?_
          exact ov_reti (st := []) d_150_94 rfl ⟨_, rfl, I17, (by show -2147483648 ≤ x5 ∧ x5 ≤ 2147483647 ∧ (h16 36 7) = (h 36 7) ∧ (h16 1 1) = (h 1 1) ∧ (h16 90 2) = (h 90 2) ∧ (h16 0 10) = (h 0 10) ∧ (h16 0 11) = (h 0 11) ∧ (h16 0 12) = (h 0 12) ∧ (h16 0 13) = (h 0 13) ∧ (h16 3 1) = (h 3 1) ∧ (h16 36 8) = (h 36 8) ∧ (h16 46 4) = (h 46 4) ∧ (h16 49 4) = (h 49 4) ∧ (h16 49 5) = (h 49 5) ∧ (h16 64 0) = (h 64 0) ∧ (h16 76 0) = (h 76 0); omega)⟩
        · skip
          refine ov_blk (ls2 := [(0, ov_r 46), (1, ov_r 70), (2, ov_i c), (3, ov_i s), (4, ov_i v2), (5, ov_i x5), (6, ov_i x6), (7, ov_i x7)]) (st2 := [ov_i (x6 - x5)]) (pc2 := 46) b_150_41_3 rfl rfl ?_
          refine ov_havw (fun w21 gw21 qw21 => ?_)
          refine ov_blk (ls2 := [(0, ov_r 46), (1, ov_r 70), (2, ov_i c), (3, ov_i s), (4, ov_i v2), (5, ov_i x5), (6, ov_i x6), (7, ov_i x7)]) (st2 := [ov_i 1, ov_i w21]) (pc2 := 47) b_150_46_1 rfl rfl ?_
          refine ov_icle (tgt := 92) d_150_47 (by decide) (by omega) (by omega) (fun c22 => ?_) (fun c22 => ?_)
          · skip
            refine ov_blk (ls2 := [(0, ov_r 46), (1, ov_r 70), (2, ov_i c), (3, ov_i s), (4, ov_i v2), (5, ov_i x5), (6, ov_i x6), (7, ov_i x7)]) (st2 := [ov_i x5]) (pc2 := 94) b_150_92_1 rfl rfl ?_
            exact ov_reti (st := []) d_150_94 rfl ⟨_, rfl, I17, (by show -2147483648 ≤ x5 ∧ x5 ≤ 2147483647 ∧ (h16 36 7) = (h 36 7) ∧ (h16 1 1) = (h 1 1) ∧ (h16 90 2) = (h 90 2) ∧ (h16 0 10) = (h 0 10) ∧ (h16 0 11) = (h 0 11) ∧ (h16 0 12) = (h 0 12) ∧ (h16 0 13) = (h 0 13) ∧ (h16 3 1) = (h 3 1) ∧ (h16 36 8) = (h 36 8) ∧ (h16 46 4) = (h 46 4) ∧ (h16 49 4) = (h 49 4) ∧ (h16 49 5) = (h 49 5) ∧ (h16 64 0) = (h 64 0) ∧ (h16 76 0) = (h 76 0); omega)⟩
          · skip
            refine ov_blk (ls2 := [(0, ov_r 46), (1, ov_r 70), (2, ov_i c), (3, ov_i s), (4, ov_i v2), (5, ov_i x5), (6, ov_i x6), (7, ov_i x7)]) (st2 := [ov_i (x6 - x5), ov_i x5]) (pc2 := 57) b_150_50_4 rfl rfl ?_
            refine ov_havw (fun w23 gw23 qw23 => ?_)
            refine ov_blk (ls2 := [(0, ov_r 46), (1, ov_r 70), (2, ov_i c), (3, ov_i s), (4, ov_i v2), (5, ov_i x5), (6, ov_i x6), (7, ov_i x7)]) (st2 := [ov_i 2, ov_i w23, ov_i x5]) (pc2 := 58) b_150_57_1 rfl rfl ?_
            refine ov_idiv d_150_58 (by omega) (by omega) (by omega) ?_
            refine ov_blk (ls2 := [(0, ov_r 46), (1, ov_r 70), (2, ov_i c), (3, ov_i s), (4, ov_i v2), (5, ov_i x5), (6, ov_i x6), (7, ov_i x7)]) (st2 := [ov_i (x5 + (Int.tdiv w23 2))]) (pc2 := 60) b_150_59_1 rfl rfl ?_
            refine ov_havw (fun w24 gw24 qw24 => ?_)
            refine ov_blk (ls2 := [(0, ov_r 46), (1, ov_r 70), (2, ov_i c), (3, ov_i s), (4, ov_i v2), (5, ov_i x5), (6, ov_i x6), (7, ov_i x7), (8, ov_i w24)]) (st2 := [ov_i w24, ov_i c, ov_r 70, ov_r 46]) (pc2 := 67) b_150_60_5 rfl rfl ?_
            refine ov_cV (as := [ov_r 70, ov_i c, ov_i w24]) (st := []) (d2 := d - 1) d_150_67 lk_Ways_59 rfl (Nat.le_of_ble_eq_true rfl) (c := 12) (zb_46 I17) (zs_46 I17) ⟨by decide, rfl⟩ (by omega) (c_Ways_arrival_46_70 (d - 1) (by omega) U I17 c w24 (by omega) (by omega) (by omega) (by omega)) ?_
            rintro _ z27 h28 ⟨v26, rfl, I29, f25⟩
            show ov_R u d ov_m150 70 [(0, ov_r 46), (1, ov_r 70), (2, ov_i c), (3, ov_i s), (4, ov_i v2), (5, ov_i x5), (6, ov_i x6), (7, ov_i x7), (8, ov_i w24)] [ov_i v26] z27 h28 (P_Ways_lastAsSoon_46_70 F z h c s)
            have f30 : -2147483648 ≤ v26 ∧ v26 ≤ 2147483647 ∧ (h28 46 3) = 70 ∧ (h28 36 7) = (h16 36 7) ∧ (h28 1 1) = (h16 1 1) ∧ (h28 90 2) = (h16 90 2) ∧ (h28 0 10) = (h16 0 10) ∧ (h28 0 11) = (h16 0 11) ∧ (h28 0 12) = (h16 0 12) ∧ (h28 0 13) = (h16 0 13) ∧ (h28 3 1) = (h16 3 1) ∧ (h28 36 8) = (h16 36 8) ∧ (h28 46 4) = (h16 46 4) ∧ (h28 49 4) = (h16 49 4) ∧ (h28 49 5) = (h16 49 5) ∧ (h28 64 0) = (h16 64 0) ∧ (h28 76 0) = (h16 76 0) := f25
            clear f25
            have e31 : h28 46 3 = 70 := by omega
            refine ov_blk (ls2 := [(0, ov_r 46), (1, ov_r 70), (2, ov_i c), (3, ov_i s), (4, ov_i v2), (5, ov_i x5), (6, ov_i x6), (7, ov_i x7), (8, ov_i w24)]) (st2 := [ov_i v2, ov_i v26]) (pc2 := 72) b_150_70_1 rfl rfl ?_
            refine ov_icne (tgt := 82) d_150_72 (by decide) (by omega) (by omega) (fun c32 => ?_) (fun c32 => ?_)
            · skip
              refine ov_blk (ls2 := [(0, ov_r 46), (1, ov_r 70), (2, ov_i c), (3, ov_i s), (4, ov_i v2), (5, ov_i x5), (6, ov_i w24), (7, ov_i (x7 + 1)), (8, ov_i w24)]) (st2 := []) (pc2 := 89) b_150_82_3 rfl rfl ?_
              refine ov_goto (tgt := 34) d_150_89 (by decide) ?_
              refine ov_sub (ls2 := [(0, ov_r 46), (1, ov_r 70), (2, ov_i c), (3, ov_i s), (4, ov_i v2), (5, ov_i x5), (6, ov_i w24), (7, ov_i (x7 + 1))]) (List.Sublist.subset (by repeat (first | exact List.Sublist.refl _ | apply List.Sublist.cons_cons | apply List.Sublist.cons))) ?_
              exact ih12 x5 w24 (x7 + 1) _ _ I29 (by show ov_g x5 ∧ ov_g w24 ∧ 0 ≤ (x7 + 1) ∧ (x7 + 1) ≤ 32 ∧ (h28 36 7) = (h 36 7) ∧ (h28 1 1) = (h 1 1) ∧ (h28 90 2) = (h 90 2) ∧ (h28 0 10) = (h 0 10) ∧ (h28 0 11) = (h 0 11) ∧ (h28 0 12) = (h 0 12) ∧ (h28 0 13) = (h 0 13) ∧ (h28 3 1) = (h 3 1) ∧ (h28 36 8) = (h 36 8) ∧ (h28 46 4) = (h 46 4) ∧ (h28 49 4) = (h 49 4) ∧ (h28 49 5) = (h 49 5) ∧ (h28 64 0) = (h 64 0) ∧ (h28 76 0) = (h 76 0) ∧ (h28 46 3) = 70; omega) (by omega)
            · skip
              refine ov_blk (ls2 := [(0, ov_r 46), (1, ov_r 70), (2, ov_i c), (3, ov_i s), (4, ov_i v2), (5, ov_i w24), (6, ov_i x6), (7, ov_i x7), (8, ov_i w24)]) (st2 := []) (pc2 := 79) b_150_75_2 rfl rfl ?_
              refine ov_goto (tgt := 86) d_150_79 (by decide) ?_
              refine ov_blk (ls2 := [(0, ov_r 46), (1, ov_r 70), (2, ov_i c), (3, ov_i s), (4, ov_i v2), (5, ov_i w24), (6, ov_i x6), (7, ov_i (x7 + 1)), (8, ov_i w24)]) (st2 := []) (pc2 := 89) b_150_86_1 rfl rfl ?_
              refine ov_goto (tgt := 34) d_150_89 (by decide) ?_
              refine ov_sub (ls2 := [(0, ov_r 46), (1, ov_r 70), (2, ov_i c), (3, ov_i s), (4, ov_i v2), (5, ov_i w24), (6, ov_i x6), (7, ov_i (x7 + 1))]) (List.Sublist.subset (by repeat (first | exact List.Sublist.refl _ | apply List.Sublist.cons_cons | apply List.Sublist.cons))) ?_
              exact ih12 w24 x6 (x7 + 1) _ _ I29 (by show ov_g w24 ∧ ov_g x6 ∧ 0 ≤ (x7 + 1) ∧ (x7 + 1) ≤ 32 ∧ (h28 36 7) = (h 36 7) ∧ (h28 1 1) = (h 1 1) ∧ (h28 90 2) = (h 90 2) ∧ (h28 0 10) = (h 0 10) ∧ (h28 0 11) = (h 0 11) ∧ (h28 0 12) = (h 0 12) ∧ (h28 0 13) = (h 0 13) ∧ (h28 3 1) = (h 3 1) ∧ (h28 36 8) = (h 36 8) ∧ (h28 46 4) = (h 46 4) ∧ (h28 49 4) = (h 49 4) ∧ (h28 49 5) = (h 49 5) ∧ (h28 64 0) = (h 64 0) ∧ (h28 76 0) = (h 76 0) ∧ (h28 46 3) = 70; omega) (by omega)
    exact L14 33 s w10 0 _ _ I5 (by show ov_g s ∧ ov_g w10 ∧ 0 ≤ 0 ∧ 0 ≤ 32 ∧ (h4 36 7) = (h 36 7) ∧ (h4 1 1) = (h 1 1) ∧ (h4 90 2) = (h 90 2) ∧ (h4 0 10) = (h 0 10) ∧ (h4 0 11) = (h 0 11) ∧ (h4 0 12) = (h 0 12) ∧ (h4 0 13) = (h 0 13) ∧ (h4 3 1) = (h 3 1) ∧ (h4 36 8) = (h 36 8) ∧ (h4 46 4) = (h 46 4) ∧ (h4 49 4) = (h 49 4) ∧ (h4 49 5) = (h 49 5) ∧ (h4 64 0) = (h 64 0) ∧ (h4 76 0) = (h 76 0) ∧ (h4 46 3) = 70; omega) (by omega)
  · skip
    refine ov_blk (ls2 := [(0, ov_r 46), (1, ov_r 70), (2, ov_i c), (3, ov_i s), (4, ov_i v2)]) (st2 := [ov_i (-1)]) (pc2 := 16) b_150_15_1 rfl rfl ?_
    exact ov_reti (st := []) d_150_16 rfl ⟨_, rfl, I5, (by show -2147483648 ≤ (-1) ∧ (-1) ≤ 2147483647 ∧ (h4 36 7) = (h 36 7) ∧ (h4 1 1) = (h 1 1) ∧ (h4 90 2) = (h 90 2) ∧ (h4 0 10) = (h 0 10) ∧ (h4 0 11) = (h 0 11) ∧ (h4 0 12) = (h 0 12) ∧ (h4 0 13) = (h 0 13) ∧ (h4 3 1) = (h 3 1) ∧ (h4 36 8) = (h 36 8) ∧ (h4 46 4) = (h 46 4) ∧ (h4 49 4) = (h 49 4) ∧ (h4 49 5) = (h 49 5) ∧ (h4 64 0) = (h 64 0) ∧ (h4 76 0) = (h 76 0); omega)⟩
abbrev P_Ways_passTurning_46_k46_3_70 (F : ov_H) (z : ov_Z) (h : ov_H) (c : Int) (way : Int) (s : Int) (t : Int) : Option ov_V → ov_Z → ov_H → Prop := fun r0 z' h' => r0 = none ∧ ov_I F z' h' ∧ ((h' 36 7) = (h 36 7) ∧ (h' 1 1) = (h 1 1) ∧ (h' 90 2) = (h 90 2) ∧ (h' 0 10) = (h 0 10) ∧ (h' 0 11) = (h 0 11) ∧ (h' 0 12) = (h 0 12) ∧ (h' 0 13) = (h 0 13) ∧ (h' 3 1) = (h 3 1) ∧ (h' 36 8) = (h 36 8) ∧ (h' 46 3) = (h 46 3) ∧ (h' 46 4) = (h 46 4) ∧ (h' 49 4) = (h 49 4) ∧ (h' 49 5) = (h 49 5) ∧ (h' 64 0) = (h 64 0) ∧ (h' 76 0) = (h 76 0))
set_option maxHeartbeats 4000000 in
theorem c_Ways_passTurning_46_k46_3_70 {u : ov_U} {F : ov_H} {z : ov_Z} {h : ov_H} (d : Nat) (hd : 3 ≤ d) (U : ov_cap u) (I : ov_I F z h) (c : Int) (way : Int) (s : Int) (t : Int) (k0 : h 46 3 = 70) (g_c : ov_g c) (g_way : ov_g way) (g_s : ov_g s) (g_t : ov_g t) (p0 : 0 ≤ c ∧ c ≤ 53) (p1 : 0 ≤ t ∧ t ≤ 12) : ov_T u d ov_m153 [ov_r 46, ov_i c, ov_i way, ov_i s, ov_i t] z h (P_Ways_passTurning_46_k46_3_70 F z h c way s t) := by
  refine ov_en rfl (Nat.le_of_ble_eq_true rfl) ?_
  show ov_R u d ov_m153 0 [(0, ov_r 46), (1, ov_i c), (2, ov_i way), (3, ov_i s), (4, ov_i t)] [] z h (P_Ways_passTurning_46_k46_3_70 F z h c way s t)
  refine ov_blk (ls2 := [(0, ov_r 46), (1, ov_i c), (2, ov_i way), (3, ov_i s), (4, ov_i t)]) (st2 := [ov_r 46]) (pc2 := 1) b_153_0_1 rfl rfl ?_
  refine ov_getf (v := ov_r 70) d_153_1 fl_Ways_18 (zb_46 I) (zs_46 I) (congrArg ov_r k0) ?_
  refine ov_blk (ls2 := [(0, ov_r 46), (1, ov_i c), (2, ov_i way), (3, ov_i s), (4, ov_i t)]) (st2 := [ov_i way, ov_i c, ov_r 70]) (pc2 := 6) b_153_4_2 rfl rfl ?_
  refine ov_cV (as := [ov_i c, ov_i way]) (st := []) (d2 := d - 1) d_153_6 lk_Ways_38 rfl (Nat.le_of_ble_eq_true rfl) (c := 9) (zb_70 I) (zs_70 I) ⟨by decide, rfl⟩ (by omega) (c_Town_isOpen_70 (d - 1) (by omega) U I c way (by omega) (by omega) (by omega)) ?_
  rintro _ _ _ ⟨v2, rfl, rfl, rfl, f1⟩
  show ov_R u d ov_m153 9 [(0, ov_r 46), (1, ov_i c), (2, ov_i way), (3, ov_i s), (4, ov_i t)] [ov_i v2] z h (P_Ways_passTurning_46_k46_3_70 F z h c way s t)
  have f3 : (v2 = 0 ∨ v2 = 1) ∧ (v2 = 1 → (way = 0 ∧ c ≤ 52) ∨ (way = 1 ∧ c ≤ 47)) := f1
  clear f1
  refine ov_ifeq (tgt := 53) d_153_9 (by decide) (by omega) (fun c4 => ?_) (fun c4 => ?_)
  · skip
    exact ov_retv (st := []) d_153_53 rfl ⟨rfl, I, (by show (h 36 7) = (h 36 7) ∧ (h 1 1) = (h 1 1) ∧ (h 90 2) = (h 90 2) ∧ (h 0 10) = (h 0 10) ∧ (h 0 11) = (h 0 11) ∧ (h 0 12) = (h 0 12) ∧ (h 0 13) = (h 0 13) ∧ (h 3 1) = (h 3 1) ∧ (h 36 8) = (h 36 8) ∧ (h 46 3) = (h 46 3) ∧ (h 46 4) = (h 46 4) ∧ (h 49 4) = (h 49 4) ∧ (h 49 5) = (h 49 5) ∧ (h 64 0) = (h 64 0) ∧ (h 76 0) = (h 76 0); omega)⟩
  · skip
    refine ov_blk (ls2 := [(0, ov_r 46), (1, ov_i c), (2, ov_i way), (3, ov_i s), (4, ov_i t)]) (st2 := [ov_r 46]) (pc2 := 13) b_153_12_1 rfl rfl ?_
    refine ov_getf (v := ov_r 70) d_153_13 fl_Ways_18 (zb_46 I) (zs_46 I) (congrArg ov_r k0) ?_
    refine ov_blk (ls2 := [(0, ov_r 46), (1, ov_i c), (2, ov_i way), (3, ov_i s), (4, ov_i t)]) (st2 := [ov_i way, ov_i c, ov_r 70]) (pc2 := 18) b_153_16_2 rfl rfl ?_
    refine ov_cV (as := [ov_i c, ov_i way]) (st := []) (d2 := d - 1) d_153_18 lk_Ways_42 rfl (Nat.le_of_ble_eq_true rfl) (c := 9) (zb_70 I) (zs_70 I) ⟨by decide, rfl⟩ (by omega) (c_Town_after_70 (d - 1) (by omega) U I c way (by omega) (by omega) (by omega)) ?_
    rintro _ _ _ ⟨v6, rfl, rfl, rfl, f5⟩
    show ov_R u d ov_m153 21 [(0, ov_r 46), (1, ov_i c), (2, ov_i way), (3, ov_i s), (4, ov_i t)] [ov_i v6] z h (P_Ways_passTurning_46_k46_3_70 F z h c way s t)
    have f7 : (way = 0 → v6 = c + 1) ∧ (¬ way = 0 → v6 = c + 6) := f5
    clear f5
    refine ov_blk (ls2 := [(0, ov_r 46), (1, ov_i c), (2, ov_i way), (3, ov_i s), (4, ov_i t)]) (st2 := [ov_i t, ov_i way, ov_i v6]) (pc2 := 24) b_153_21_2 rfl rfl ?_
    refine ov_cS (as := [ov_i v6, ov_i way, ov_i t]) (st := []) (d2 := d - 1) d_153_24 lk_Ways_79 rfl (Nat.le_of_ble_eq_true rfl) (by omega) (c_Ways_turnedCell (d - 1) (by omega) U I v6 way t (by omega) (by omega) (by omega) (by omega) (by omega) (by omega)) ?_
    rintro _ _ _ ⟨v9, rfl, rfl, rfl, f8⟩
    show ov_R u d ov_m153 27 [(0, ov_r 46), (1, ov_i c), (2, ov_i way), (3, ov_i s), (4, ov_i t)] [ov_i v9] z h (P_Ways_passTurning_46_k46_3_70 F z h c way s t)
    have f10 : v9 = (v6 * 2 + way) * 13 + t := f8
    clear f8
    refine ov_blk (ls2 := [(0, ov_r 46), (1, ov_i c), (2, ov_i way), (3, ov_i s), (4, ov_i t), (5, ov_i v9)]) (st2 := [ov_r 46]) (pc2 := 30) b_153_27_2 rfl rfl ?_
    refine ov_getf (v := ov_r 48) d_153_30 fl_Ways_15 (zb_46 I) (zs_46 I) (congrArg ov_r (rg_46_6 I)) ?_
    refine ov_blk (ls2 := [(0, ov_r 46), (1, ov_i c), (2, ov_i way), (3, ov_i s), (4, ov_i t), (5, ov_i v9)]) (st2 := [ov_r 46, ov_i v9, ov_r 48]) (pc2 := 36) b_153_33_2 rfl rfl ?_
    refine ov_getf (v := ov_r 48) d_153_36 fl_Ways_15 (zb_46 I) (zs_46 I) (congrArg ov_r (rg_46_6 I)) ?_
    refine ov_blk (ls2 := [(0, ov_r 46), (1, ov_i c), (2, ov_i way), (3, ov_i s), (4, ov_i t), (5, ov_i v9)]) (st2 := [ov_i v9, ov_r 48, ov_i v9, ov_r 48]) (pc2 := 41) b_153_39_1 rfl rfl ?_
    refine ov_iald d_153_41 (zb_48 I) (zs_48 I) (by omega) ?_
    have g11 := ra_48 I v9
    refine ov_blk (ls2 := [(0, ov_r 46), (1, ov_i c), (2, ov_i way), (3, ov_i s), (4, ov_i t), (5, ov_i v9)]) (st2 := [ov_i s, ov_i way, ov_i c, ov_r 46, ov_i (h 48 v9), ov_i v9, ov_r 48]) (pc2 := 46) b_153_42_4 rfl rfl ?_
    refine ov_cV (as := [ov_i c, ov_i way, ov_i s]) (st := [ov_i (h 48 v9), ov_i v9, ov_r 48]) (d2 := d - 1) d_153_46 lk_Ways_46 rfl (Nat.le_of_ble_eq_true rfl) (c := 12) (zb_46 I) (zs_46 I) ⟨by decide, rfl⟩ (by omega) (c_Ways_afterStreet_46_k46_3_70 (d - 1) (by omega) U I c way s k0 (by omega) (by omega) (by omega) (by omega)) ?_
    rintro _ _ _ ⟨v13, rfl, rfl, rfl, f12⟩
    show ov_R u d ov_m153 49 [(0, ov_r 46), (1, ov_i c), (2, ov_i way), (3, ov_i s), (4, ov_i t), (5, ov_i v9)] [ov_i v13, ov_i (h 48 v9), ov_i v9, ov_r 48] z h (P_Ways_passTurning_46_k46_3_70 F z h c way s t)
    have f14 : -2147483648 ≤ v13 ∧ v13 ≤ 2147483647 := f12
    clear f12
    refine ov_cSN (as := [ov_i (h 48 v9), ov_i v13]) (st := [ov_i v9, ov_r 48]) (d2 := d - 1) d_153_49 lk_Ways_50 rfl (Nat.le_of_ble_eq_true rfl) (by omega) (c_OF_lesser (d - 1) (by omega) U I (h 48 v9) v13 (by omega) (by omega)) ?_
    rintro _ _ _ ⟨v16, rfl, rfl, rfl, f15⟩
    show ov_R u d ov_m153 52 [(0, ov_r 46), (1, ov_i c), (2, ov_i way), (3, ov_i s), (4, ov_i t), (5, ov_i v9)] [ov_i v16, ov_i v9, ov_r 48] z h (P_Ways_passTurning_46_k46_3_70 F z h c way s t)
    have f17 : (v16 = (h 48 v9) ∨ v16 = v13) := f15
    clear f15
    refine ov_iast d_153_52 (zb_48 I) (zs_48 I) (by omega) ?_
    have I18 := ua_48 (k := v9) (x := v16) I (by omega)
    exact ov_retv (st := []) d_153_53 rfl ⟨rfl, I18, (by show (h 36 7) = (h 36 7) ∧ (h 1 1) = (h 1 1) ∧ (h 90 2) = (h 90 2) ∧ (h 0 10) = (h 0 10) ∧ (h 0 11) = (h 0 11) ∧ (h 0 12) = (h 0 12) ∧ (h 0 13) = (h 0 13) ∧ (h 3 1) = (h 3 1) ∧ (h 36 8) = (h 36 8) ∧ (h 46 3) = (h 46 3) ∧ (h 46 4) = (h 46 4) ∧ (h 49 4) = (h 49 4) ∧ (h 49 5) = (h 49 5) ∧ (h 64 0) = (h 64 0) ∧ (h 76 0) = (h 76 0); omega)⟩
abbrev P_Ways_goOnTurning_46_k46_3_70 (F : ov_H) (z : ov_Z) (h : ov_H) (c : Int) (t : Int) (o : Int) : Option ov_V → ov_Z → ov_H → Prop := fun r0 z' h' => r0 = none ∧ ov_I F z' h' ∧ ((h' 36 7) = (h 36 7) ∧ (h' 1 1) = (h 1 1) ∧ (h' 90 2) = (h 90 2) ∧ (h' 0 10) = (h 0 10) ∧ (h' 0 11) = (h 0 11) ∧ (h' 0 12) = (h 0 12) ∧ (h' 0 13) = (h 0 13) ∧ (h' 3 1) = (h 3 1) ∧ (h' 36 8) = (h 36 8) ∧ (h' 46 3) = (h 46 3) ∧ (h' 46 4) = (h 46 4) ∧ (h' 49 4) = (h 49 4) ∧ (h' 49 5) = (h 49 5) ∧ (h' 64 0) = (h 64 0) ∧ (h' 76 0) = (h 76 0))
set_option maxHeartbeats 4000000 in
theorem c_Ways_goOnTurning_46_k46_3_70 {u : ov_U} {F : ov_H} {z : ov_Z} {h : ov_H} (d : Nat) (hd : 4 ≤ d) (U : ov_cap u) (I : ov_I F z h) (c : Int) (t : Int) (o : Int) (k0 : h 46 3 = 70) (g_c : ov_g c) (g_t : ov_g t) (g_o : ov_g o) (p0 : 0 ≤ c ∧ c ≤ 53) (p1 : 0 ≤ t ∧ t ≤ o ∧ o ≤ 12) : ov_T u d ov_m155 [ov_r 46, ov_i c, ov_i t, ov_i o] z h (P_Ways_goOnTurning_46_k46_3_70 F z h c t o) := by
  refine ov_en rfl (Nat.le_of_ble_eq_true rfl) ?_
  show ov_R u d ov_m155 0 [(0, ov_r 46), (1, ov_i c), (2, ov_i t), (3, ov_i o)] [] z h (P_Ways_goOnTurning_46_k46_3_70 F z h c t o)
  refine ov_blk (ls2 := [(0, ov_r 46), (1, ov_i c), (2, ov_i t), (3, ov_i o), (4, ov_i 0)]) (st2 := []) (pc2 := 3) b_155_0_2 rfl rfl ?_
  have L4 : ∀ (n1 : Nat) (x4 : Int) (z5 : ov_Z) (h6 : ov_H) (I7 : ov_I F z5 h6) (q3 : 0 ≤ x4 ∧ x4 ≤ 2 ∧ (h6 36 7) = (h 36 7) ∧ (h6 1 1) = (h 1 1) ∧ (h6 90 2) = (h 90 2) ∧ (h6 0 10) = (h 0 10) ∧ (h6 0 11) = (h 0 11) ∧ (h6 0 12) = (h 0 12) ∧ (h6 0 13) = (h 0 13) ∧ (h6 3 1) = (h 3 1) ∧ (h6 36 8) = (h 36 8) ∧ (h6 46 3) = (h 46 3) ∧ (h6 46 4) = (h 46 4) ∧ (h6 49 4) = (h 49 4) ∧ (h6 49 5) = (h 49 5) ∧ (h6 64 0) = (h 64 0) ∧ (h6 76 0) = (h 76 0) ∧ h6 46 3 = 70), 2 - x4 < (n1 : Int) → ov_R u d ov_m155 3 [(0, ov_r 46), (1, ov_i c), (2, ov_i t), (3, ov_i o), (4, ov_i x4)] [] z5 h6 (P_Ways_goOnTurning_46_k46_3_70 F z h c t o) := by
    intro n1
    induction n1 with
    | zero =>
      intro x4 z5 h6 I7 q3 hn8
      exact absurd hn8 (by omega)
    | succ n1 ih2 =>
      intro x4 z5 h6 I7 q3 hn8
      have e9 : h6 46 3 = 70 := by omega
      refine ov_blk (ls2 := [(0, ov_r 46), (1, ov_i c), (2, ov_i t), (3, ov_i o), (4, ov_i x4)]) (st2 := [ov_i 1, ov_i x4]) (pc2 := 6) b_155_3_2 rfl rfl ?_
      refine ov_icgt (tgt := 64) d_155_6 (by decide) (by omega) (by omega) (fun c10 => ?_) (fun c10 => ?_)
      · skip
        exact ov_retv (st := []) d_155_64 rfl ⟨rfl, I7, (by show (h6 36 7) = (h 36 7) ∧ (h6 1 1) = (h 1 1) ∧ (h6 90 2) = (h 90 2) ∧ (h6 0 10) = (h 0 10) ∧ (h6 0 11) = (h 0 11) ∧ (h6 0 12) = (h 0 12) ∧ (h6 0 13) = (h 0 13) ∧ (h6 3 1) = (h 3 1) ∧ (h6 36 8) = (h 36 8) ∧ (h6 46 3) = (h 46 3) ∧ (h6 46 4) = (h 46 4) ∧ (h6 49 4) = (h 49 4) ∧ (h6 49 5) = (h 49 5) ∧ (h6 64 0) = (h 64 0) ∧ (h6 76 0) = (h 76 0); omega)⟩
      · skip
        refine ov_blk (ls2 := [(0, ov_r 46), (1, ov_i c), (2, ov_i t), (3, ov_i o), (4, ov_i x4)]) (st2 := [ov_r 46]) (pc2 := 10) b_155_9_1 rfl rfl ?_
        refine ov_getf (v := ov_r 48) d_155_10 fl_Ways_15 (zb_46 I7) (zs_46 I7) (congrArg ov_r (rg_46_6 I7)) ?_
        refine ov_blk (ls2 := [(0, ov_r 46), (1, ov_i c), (2, ov_i t), (3, ov_i o), (4, ov_i x4)]) (st2 := [ov_i t, ov_i x4, ov_i c, ov_r 48]) (pc2 := 17) b_155_13_3 rfl rfl ?_
        refine ov_cS (as := [ov_i c, ov_i x4, ov_i t]) (st := [ov_r 48]) (d2 := d - 1) d_155_17 lk_Ways_79 rfl (Nat.le_of_ble_eq_true rfl) (by omega) (c_Ways_turnedCell (d - 1) (by omega) U I7 c x4 t (by omega) (by omega) (by omega) (by omega) (by omega) (by omega)) ?_
        rintro _ _ _ ⟨v12, rfl, rfl, rfl, f11⟩
        show ov_R u d ov_m155 20 [(0, ov_r 46), (1, ov_i c), (2, ov_i t), (3, ov_i o), (4, ov_i x4)] [ov_i v12, ov_r 48] z5 h6 (P_Ways_goOnTurning_46_k46_3_70 F z h c t o)
        have f13 : v12 = (c * 2 + x4) * 13 + t := f11
        clear f11
        refine ov_iald d_155_20 (zb_48 I7) (zs_48 I7) (by omega) ?_
        have g14 := ra_48 I7 v12
        refine ov_blk (ls2 := [(0, ov_r 46), (1, ov_i c), (2, ov_i t), (3, ov_i o), (4, ov_i x4), (5, ov_i (h6 48 v12))]) (st2 := [ov_i (-1), ov_i (h6 48 v12)]) (pc2 := 26) b_155_21_3 rfl rfl ?_
        refine ov_iceq (tgt := 58) d_155_26 (by decide) (by omega) (by omega) (fun c15 => ?_) (fun c15 => ?_)
        · skip
          refine ov_blk (ls2 := [(0, ov_r 46), (1, ov_i c), (2, ov_i t), (3, ov_i o), (4, ov_i (x4 + 1)), (5, ov_i (h6 48 v12))]) (st2 := []) (pc2 := 61) b_155_58_1 rfl rfl ?_
          refine ov_goto (tgt := 3) d_155_61 (by decide) ?_
          refine ov_sub (ls2 := [(0, ov_r 46), (1, ov_i c), (2, ov_i t), (3, ov_i o), (4, ov_i (x4 + 1))]) (List.Sublist.subset (by repeat (first | exact List.Sublist.refl _ | apply List.Sublist.cons_cons | apply List.Sublist.cons))) ?_
          exact ih2 (x4 + 1) _ _ I7 (by show 0 ≤ (x4 + 1) ∧ (x4 + 1) ≤ 2 ∧ (h6 36 7) = (h 36 7) ∧ (h6 1 1) = (h 1 1) ∧ (h6 90 2) = (h 90 2) ∧ (h6 0 10) = (h 0 10) ∧ (h6 0 11) = (h 0 11) ∧ (h6 0 12) = (h 0 12) ∧ (h6 0 13) = (h 0 13) ∧ (h6 3 1) = (h 3 1) ∧ (h6 36 8) = (h 36 8) ∧ (h6 46 3) = (h 46 3) ∧ (h6 46 4) = (h 46 4) ∧ (h6 49 4) = (h 49 4) ∧ (h6 49 5) = (h 49 5) ∧ (h6 64 0) = (h 64 0) ∧ (h6 76 0) = (h 76 0) ∧ (h6 46 3) = 70; omega) (by omega)
        · skip
          refine ov_blk (ls2 := [(0, ov_r 46), (1, ov_i c), (2, ov_i t), (3, ov_i o), (4, ov_i x4), (5, ov_i (h6 48 v12))]) (st2 := [ov_i t, ov_i (h6 48 v12), ov_i x4, ov_i c, ov_r 46]) (pc2 := 36) b_155_29_5 rfl rfl ?_
          refine ov_cV (as := [ov_i c, ov_i x4, ov_i (h6 48 v12), ov_i t]) (st := []) (d2 := d - 1) d_155_36 lk_Ways_71 rfl (Nat.le_of_ble_eq_true rfl) (c := 12) (zb_46 I7) (zs_46 I7) ⟨by decide, rfl⟩ (by omega) (c_Ways_passTurning_46_k46_3_70 (d - 1) (by omega) U I7 c x4 (h6 48 v12) t e9 (by omega) (by omega) (by omega) (by omega) (by omega) (by omega)) ?_
          rintro _ z17 h18 ⟨rfl, I19, f16⟩
          show ov_R u d ov_m155 39 [(0, ov_r 46), (1, ov_i c), (2, ov_i t), (3, ov_i o), (4, ov_i x4), (5, ov_i (h6 48 v12))] [] z17 h18 (P_Ways_goOnTurning_46_k46_3_70 F z h c t o)
          have f20 : (h18 36 7) = (h6 36 7) ∧ (h18 1 1) = (h6 1 1) ∧ (h18 90 2) = (h6 90 2) ∧ (h18 0 10) = (h6 0 10) ∧ (h18 0 11) = (h6 0 11) ∧ (h18 0 12) = (h6 0 12) ∧ (h18 0 13) = (h6 0 13) ∧ (h18 3 1) = (h6 3 1) ∧ (h18 36 8) = (h6 36 8) ∧ (h18 46 3) = (h6 46 3) ∧ (h18 46 4) = (h6 46 4) ∧ (h18 49 4) = (h6 49 4) ∧ (h18 49 5) = (h6 49 5) ∧ (h18 64 0) = (h6 64 0) ∧ (h18 76 0) = (h6 76 0) := f16
          clear f16
          have e21 : h18 46 3 = 70 := by omega
          refine ov_blk (ls2 := [(0, ov_r 46), (1, ov_i c), (2, ov_i t), (3, ov_i o), (4, ov_i x4), (5, ov_i (h6 48 v12))]) (st2 := [ov_i o, ov_i t]) (pc2 := 41) b_155_39_2 rfl rfl ?_
          refine ov_icge (tgt := 58) d_155_41 (by decide) (by omega) (by omega) (fun c22 => ?_) (fun c22 => ?_)
          · skip
            refine ov_blk (ls2 := [(0, ov_r 46), (1, ov_i c), (2, ov_i t), (3, ov_i o), (4, ov_i (x4 + 1)), (5, ov_i (h6 48 v12))]) (st2 := []) (pc2 := 61) b_155_58_1 rfl rfl ?_
            refine ov_goto (tgt := 3) d_155_61 (by decide) ?_
            refine ov_sub (ls2 := [(0, ov_r 46), (1, ov_i c), (2, ov_i t), (3, ov_i o), (4, ov_i (x4 + 1))]) (List.Sublist.subset (by repeat (first | exact List.Sublist.refl _ | apply List.Sublist.cons_cons | apply List.Sublist.cons))) ?_
            exact ih2 (x4 + 1) _ _ I19 (by show 0 ≤ (x4 + 1) ∧ (x4 + 1) ≤ 2 ∧ (h18 36 7) = (h 36 7) ∧ (h18 1 1) = (h 1 1) ∧ (h18 90 2) = (h 90 2) ∧ (h18 0 10) = (h 0 10) ∧ (h18 0 11) = (h 0 11) ∧ (h18 0 12) = (h 0 12) ∧ (h18 0 13) = (h 0 13) ∧ (h18 3 1) = (h 3 1) ∧ (h18 36 8) = (h 36 8) ∧ (h18 46 3) = (h 46 3) ∧ (h18 46 4) = (h 46 4) ∧ (h18 49 4) = (h 49 4) ∧ (h18 49 5) = (h 49 5) ∧ (h18 64 0) = (h 64 0) ∧ (h18 76 0) = (h 76 0) ∧ (h18 46 3) = 70; omega) (by omega)
          · skip
            refine ov_blk (ls2 := [(0, ov_r 46), (1, ov_i c), (2, ov_i t), (3, ov_i o), (4, ov_i x4), (5, ov_i (h6 48 v12))]) (st2 := [ov_i (t + 1), ov_i (h6 48 v12), ov_i (1 - x4), ov_i c, ov_r 46]) (pc2 := 55) b_155_44_9 rfl rfl ?_
            refine ov_cV (as := [ov_i c, ov_i (1 - x4), ov_i (h6 48 v12), ov_i (t + 1)]) (st := []) (d2 := d - 1) d_155_55 lk_Ways_71 rfl (Nat.le_of_ble_eq_true rfl) (c := 12) (zb_46 I19) (zs_46 I19) ⟨by decide, rfl⟩ (by omega) (c_Ways_passTurning_46_k46_3_70 (d - 1) (by omega) U I19 c (1 - x4) (h6 48 v12) (t + 1) e21 (by omega) (by omega) (by omega) (by omega) (by omega) (by omega)) ?_
            rintro _ z24 h25 ⟨rfl, I26, f23⟩
            show ov_R u d ov_m155 58 [(0, ov_r 46), (1, ov_i c), (2, ov_i t), (3, ov_i o), (4, ov_i x4), (5, ov_i (h6 48 v12))] [] z24 h25 (P_Ways_goOnTurning_46_k46_3_70 F z h c t o)
            have f27 : (h25 36 7) = (h18 36 7) ∧ (h25 1 1) = (h18 1 1) ∧ (h25 90 2) = (h18 90 2) ∧ (h25 0 10) = (h18 0 10) ∧ (h25 0 11) = (h18 0 11) ∧ (h25 0 12) = (h18 0 12) ∧ (h25 0 13) = (h18 0 13) ∧ (h25 3 1) = (h18 3 1) ∧ (h25 36 8) = (h18 36 8) ∧ (h25 46 3) = (h18 46 3) ∧ (h25 46 4) = (h18 46 4) ∧ (h25 49 4) = (h18 49 4) ∧ (h25 49 5) = (h18 49 5) ∧ (h25 64 0) = (h18 64 0) ∧ (h25 76 0) = (h18 76 0) := f23
            clear f23
            have e28 : h25 46 3 = 70 := by omega
            refine ov_blk (ls2 := [(0, ov_r 46), (1, ov_i c), (2, ov_i t), (3, ov_i o), (4, ov_i (x4 + 1)), (5, ov_i (h6 48 v12))]) (st2 := []) (pc2 := 61) b_155_58_1 rfl rfl ?_
            refine ov_goto (tgt := 3) d_155_61 (by decide) ?_
            refine ov_sub (ls2 := [(0, ov_r 46), (1, ov_i c), (2, ov_i t), (3, ov_i o), (4, ov_i (x4 + 1))]) (List.Sublist.subset (by repeat (first | exact List.Sublist.refl _ | apply List.Sublist.cons_cons | apply List.Sublist.cons))) ?_
            exact ih2 (x4 + 1) _ _ I26 (by show 0 ≤ (x4 + 1) ∧ (x4 + 1) ≤ 2 ∧ (h25 36 7) = (h 36 7) ∧ (h25 1 1) = (h 1 1) ∧ (h25 90 2) = (h 90 2) ∧ (h25 0 10) = (h 0 10) ∧ (h25 0 11) = (h 0 11) ∧ (h25 0 12) = (h 0 12) ∧ (h25 0 13) = (h 0 13) ∧ (h25 3 1) = (h 3 1) ∧ (h25 36 8) = (h 36 8) ∧ (h25 46 3) = (h 46 3) ∧ (h25 46 4) = (h 46 4) ∧ (h25 49 4) = (h 49 4) ∧ (h25 49 5) = (h 49 5) ∧ (h25 64 0) = (h 64 0) ∧ (h25 76 0) = (h 76 0) ∧ (h25 46 3) = 70; omega) (by omega)
  exact L4 3 0 _ _ I (by show 0 ≤ 0 ∧ 0 ≤ 2 ∧ (h 36 7) = (h 36 7) ∧ (h 1 1) = (h 1 1) ∧ (h 90 2) = (h 90 2) ∧ (h 0 10) = (h 0 10) ∧ (h 0 11) = (h 0 11) ∧ (h 0 12) = (h 0 12) ∧ (h 0 13) = (h 0 13) ∧ (h 3 1) = (h 3 1) ∧ (h 36 8) = (h 36 8) ∧ (h 46 3) = (h 46 3) ∧ (h 46 4) = (h 46 4) ∧ (h 49 4) = (h 49 4) ∧ (h 49 5) = (h 49 5) ∧ (h 64 0) = (h 64 0) ∧ (h 76 0) = (h 76 0) ∧ (h 46 3) = 70; omega) (by omega)
abbrev P_Ways_arrivalTurning_46_70 (F : ov_H) (z : ov_Z) (h : ov_H) (s : Int) (o : Int) : Option ov_V → ov_Z → ov_H → Prop := fun r0 z' h' => ∃ r : Int, r0 = some (ov_i r) ∧ ov_I F z' h' ∧ (-2147483648 ≤ r ∧ r ≤ 2147483647 ∧ (h' 36 7) = (h 36 7) ∧ (h' 1 1) = (h 1 1) ∧ (h' 90 2) = (h 90 2) ∧ (h' 0 10) = (h 0 10) ∧ (h' 0 11) = (h 0 11) ∧ (h' 0 12) = (h 0 12) ∧ (h' 0 13) = (h 0 13) ∧ (h' 3 1) = (h 3 1) ∧ (h' 36 8) = (h 36 8) ∧ (h' 46 4) = (h 46 4) ∧ (h' 49 4) = (h 49 4) ∧ (h' 49 5) = (h 49 5) ∧ (h' 64 0) = (h 64 0) ∧ (h' 76 0) = (h 76 0))
set_option maxHeartbeats 4000000 in
theorem c_Ways_arrivalTurning_46_70 {u : ov_U} {F : ov_H} {z : ov_Z} {h : ov_H} (d : Nat) (hd : 5 ≤ d) (U : ov_cap u) (I : ov_I F z h) (s : Int) (o : Int) (g_s : ov_g s) (g_o : ov_g o) (p0 : 0 ≤ o ∧ o ≤ 12) (p1 : F (-5) 70 = 1) : ov_T u d ov_m152 [ov_r 46, ov_r 70, ov_i s, ov_i o] z h (P_Ways_arrivalTurning_46_70 F z h s o) := by
  refine ov_en rfl (Nat.le_of_ble_eq_true rfl) ?_
  show ov_R u d ov_m152 0 [(0, ov_r 46), (1, ov_r 70), (2, ov_i s), (3, ov_i o)] [] z h (P_Ways_arrivalTurning_46_70 F z h s o)
  refine ov_blk (ls2 := [(0, ov_r 46), (1, ov_r 70), (2, ov_i s), (3, ov_i o)]) (st2 := [ov_r 70, ov_r 46]) (pc2 := 2) b_152_0_2 rfl rfl ?_
  refine ov_putf (x := 70) d_152_2 fl_Ways_18 (zb_46 I) (zs_46 I) rfl nk_2 rfl ?_
  have I1 := up_46_3 (x := 70) I (by omega)
  refine ov_blk (ls2 := [(0, ov_r 46), (1, ov_r 70), (2, ov_i s), (3, ov_i o)]) (st2 := [ov_r 46]) (pc2 := 6) b_152_5_1 rfl rfl ?_
  refine ov_getf (v := ov_r 70) d_152_6 fl_Ways_18 (zb_46 I1) (zs_46 I1) rfl ?_
  refine ov_cV (as := []) (st := []) (d2 := d - 1) d_152_9 lk_Ways_28 rfl (Nat.le_of_ble_eq_true rfl) (c := 9) (zb_70 I1) (zs_70 I1) ⟨by decide, rfl⟩ (by omega) (c_Town_home_70 (d - 1) (by omega) U I1 (by omega)) ?_
  rintro _ _ _ ⟨v3, rfl, rfl, rfl, f2⟩
  show ov_R u d ov_m152 12 [(0, ov_r 46), (1, ov_r 70), (2, ov_i s), (3, ov_i o)] [ov_i v3] z (ov_up h 46 3 70) (P_Ways_arrivalTurning_46_70 F z h s o)
  have f4 : v3 = ((h 70 1) - 1) * 6 + (h 70 0) - 1 ∧ 0 ≤ v3 ∧ v3 ≤ 53 := f2
  clear f2
  refine ov_blk (ls2 := [(0, ov_r 46), (1, ov_r 70), (2, ov_i s), (3, ov_i o), (4, ov_i v3)]) (st2 := [ov_i v3]) (pc2 := 16) b_152_12_2 rfl rfl ?_
  refine ov_ifne (tgt := 21) d_152_16 (by decide) (by omega) (fun c5 => ?_) (fun c5 => ?_)
  · skip
    refine ov_blk (ls2 := [(0, ov_r 46), (1, ov_r 70), (2, ov_i s), (3, ov_i o), (4, ov_i v3)]) (st2 := [ov_r 46]) (pc2 := 22) b_152_21_1 rfl rfl ?_
    refine ov_getf (v := ov_r 48) d_152_22 fl_Ways_15 (zb_46 I1) (zs_46 I1) (congrArg ov_r (rg_46_6 I1)) ?_
    refine ov_blk (ls2 := [(0, ov_r 46), (1, ov_r 70), (2, ov_i s), (3, ov_i o), (4, ov_i v3)]) (st2 := [ov_i (-1), ov_r 48]) (pc2 := 26) b_152_25_1 rfl rfl ?_
    refine ov_cS (as := [ov_r 48, ov_i (-1)]) (st := []) (d2 := d - 1) d_152_26 lk_Ways_22 rfl (Nat.le_of_ble_eq_true rfl) (by omega) (c_Arrays_fill_AIIV_48 (d - 1) (by omega) U I1 (-1) (by omega) (by omega)) ?_
    rintro _ z7 h8 ⟨rfl, I9, f6⟩
    show ov_R u d ov_m152 29 [(0, ov_r 46), (1, ov_r 70), (2, ov_i s), (3, ov_i o), (4, ov_i v3)] [] z7 h8 (P_Ways_arrivalTurning_46_70 F z h s o)
    have f10 : (h8 36 7) = (h 36 7) ∧ (h8 1 1) = (h 1 1) ∧ (h8 90 2) = (h 90 2) ∧ (h8 0 10) = (h 0 10) ∧ (h8 0 11) = (h 0 11) ∧ (h8 0 12) = (h 0 12) ∧ (h8 0 13) = (h 0 13) ∧ (h8 3 1) = (h 3 1) ∧ (h8 36 8) = (h 36 8) ∧ (h8 46 3) = 70 ∧ (h8 46 4) = (h 46 4) ∧ (h8 49 4) = (h 49 4) ∧ (h8 49 5) = (h 49 5) ∧ (h8 64 0) = (h 64 0) ∧ (h8 76 0) = (h 76 0) := f6
    clear f6
    have e11 : h8 46 3 = 70 := by omega
    refine ov_blk (ls2 := [(0, ov_r 46), (1, ov_r 70), (2, ov_i s), (3, ov_i o), (4, ov_i v3)]) (st2 := [ov_i 0, ov_i s, ov_i 0, ov_i 0, ov_r 46]) (pc2 := 34) b_152_29_5 rfl rfl ?_
    refine ov_cV (as := [ov_i 0, ov_i 0, ov_i s, ov_i 0]) (st := []) (d2 := d - 1) d_152_34 lk_Ways_71 rfl (Nat.le_of_ble_eq_true rfl) (c := 12) (zb_46 I9) (zs_46 I9) ⟨by decide, rfl⟩ (by omega) (c_Ways_passTurning_46_k46_3_70 (d - 1) (by omega) U I9 0 0 s 0 e11 (by omega) (by omega) (by omega) (by omega) (by omega) (by omega)) ?_
    rintro _ z13 h14 ⟨rfl, I15, f12⟩
    show ov_R u d ov_m152 37 [(0, ov_r 46), (1, ov_r 70), (2, ov_i s), (3, ov_i o), (4, ov_i v3)] [] z13 h14 (P_Ways_arrivalTurning_46_70 F z h s o)
    have f16 : (h14 36 7) = (h8 36 7) ∧ (h14 1 1) = (h8 1 1) ∧ (h14 90 2) = (h8 90 2) ∧ (h14 0 10) = (h8 0 10) ∧ (h14 0 11) = (h8 0 11) ∧ (h14 0 12) = (h8 0 12) ∧ (h14 0 13) = (h8 0 13) ∧ (h14 3 1) = (h8 3 1) ∧ (h14 36 8) = (h8 36 8) ∧ (h14 46 3) = (h8 46 3) ∧ (h14 46 4) = (h8 46 4) ∧ (h14 49 4) = (h8 49 4) ∧ (h14 49 5) = (h8 49 5) ∧ (h14 64 0) = (h8 64 0) ∧ (h14 76 0) = (h8 76 0) := f12
    clear f12
    have e17 : h14 46 3 = 70 := by omega
    refine ov_blk (ls2 := [(0, ov_r 46), (1, ov_r 70), (2, ov_i s), (3, ov_i o), (4, ov_i v3)]) (st2 := [ov_i 0, ov_i s, ov_i 1, ov_i 0, ov_r 46]) (pc2 := 42) b_152_37_5 rfl rfl ?_
    refine ov_cV (as := [ov_i 0, ov_i 1, ov_i s, ov_i 0]) (st := []) (d2 := d - 1) d_152_42 lk_Ways_71 rfl (Nat.le_of_ble_eq_true rfl) (c := 12) (zb_46 I15) (zs_46 I15) ⟨by decide, rfl⟩ (by omega) (c_Ways_passTurning_46_k46_3_70 (d - 1) (by omega) U I15 0 1 s 0 e17 (by omega) (by omega) (by omega) (by omega) (by omega) (by omega)) ?_
    rintro _ z19 h20 ⟨rfl, I21, f18⟩
    show ov_R u d ov_m152 45 [(0, ov_r 46), (1, ov_r 70), (2, ov_i s), (3, ov_i o), (4, ov_i v3)] [] z19 h20 (P_Ways_arrivalTurning_46_70 F z h s o)
    have f22 : (h20 36 7) = (h14 36 7) ∧ (h20 1 1) = (h14 1 1) ∧ (h20 90 2) = (h14 90 2) ∧ (h20 0 10) = (h14 0 10) ∧ (h20 0 11) = (h14 0 11) ∧ (h20 0 12) = (h14 0 12) ∧ (h20 0 13) = (h14 0 13) ∧ (h20 3 1) = (h14 3 1) ∧ (h20 36 8) = (h14 36 8) ∧ (h20 46 3) = (h14 46 3) ∧ (h20 46 4) = (h14 46 4) ∧ (h20 49 4) = (h14 49 4) ∧ (h20 49 5) = (h14 49 5) ∧ (h20 64 0) = (h14 64 0) ∧ (h20 76 0) = (h14 76 0) := f18
    clear f18
    have e23 : h20 46 3 = 70 := by omega
    refine ov_blk (ls2 := [(0, ov_r 46), (1, ov_r 70), (2, ov_i s), (3, ov_i o), (4, ov_i v3), (5, ov_i 1)]) (st2 := []) (pc2 := 48) b_152_45_2 rfl rfl ?_
    have L27 : ∀ (n24 : Nat) (x5 : Int) (z28 : ov_Z) (h29 : ov_H) (I30 : ov_I F z28 h29) (q26 : 1 ≤ x5 ∧ x5 ≤ 53 ∧ (h29 36 7) = (h 36 7) ∧ (h29 1 1) = (h 1 1) ∧ (h29 90 2) = (h 90 2) ∧ (h29 0 10) = (h 0 10) ∧ (h29 0 11) = (h 0 11) ∧ (h29 0 12) = (h 0 12) ∧ (h29 0 13) = (h 0 13) ∧ (h29 3 1) = (h 3 1) ∧ (h29 36 8) = (h 36 8) ∧ (h29 46 4) = (h 46 4) ∧ (h29 49 4) = (h 49 4) ∧ (h29 49 5) = (h 49 5) ∧ (h29 64 0) = (h 64 0) ∧ (h29 76 0) = (h 76 0) ∧ h29 46 3 = 70), 53 - x5 < (n24 : Int) → ov_R u d ov_m152 48 [(0, ov_r 46), (1, ov_r 70), (2, ov_i s), (3, ov_i o), (4, ov_i v3), (5, ov_i x5)] [] z28 h29 (P_Ways_arrivalTurning_46_70 F z h s o) := by
      intro n24
      induction n24 with
      | zero =>
        intro x5 z28 h29 I30 q26 hn31
        exact absurd hn31 (by omega)
      | succ n24 ih25 =>
        intro x5 z28 h29 I30 q26 hn31
        have e32 : h29 46 3 = 70 := by omega
        refine ov_blk (ls2 := [(0, ov_r 46), (1, ov_r 70), (2, ov_i s), (3, ov_i o), (4, ov_i v3), (5, ov_i x5)]) (st2 := [ov_i v3, ov_i x5]) (pc2 := 52) b_152_48_2 rfl rfl ?_
        refine ov_icge (tgt := 85) d_152_52 (by decide) (by omega) (by omega) (fun c33 => ?_) (fun c33 => ?_)
        · skip
          refine ov_blk (ls2 := [(0, ov_r 46), (1, ov_r 70), (2, ov_i s), (3, ov_i o), (4, ov_i v3), (5, ov_i (-1)), (6, ov_i 0)]) (st2 := []) (pc2 := 91) b_152_85_4 rfl rfl ?_
          have L37 : ∀ (n34 : Nat) (x5_ : Int) (x6 : Int) (q36 : ov_g x5_ ∧ 0 ≤ x6 ∧ x6 ≤ 13), 13 - x6 < (n34 : Int) → ov_R u d ov_m152 91 [(0, ov_r 46), (1, ov_r 70), (2, ov_i s), (3, ov_i o), (4, ov_i v3), (5, ov_i x5_), (6, ov_i x6)] [] z28 h29 (P_Ways_arrivalTurning_46_70 F z h s o) := by
            intro n34
            induction n34 with
            | zero =>
              intro x5_ x6 q36 hn38
              exact absurd hn38 (by omega)
            | succ n34 ih35 =>
              intro x5_ x6 q36 hn38
              refine ov_blk (ls2 := [(0, ov_r 46), (1, ov_r 70), (2, ov_i s), (3, ov_i o), (4, ov_i v3), (5, ov_i x5_), (6, ov_i x6)]) (st2 := [ov_i o, ov_i x6]) (pc2 := 94) b_152_91_2 rfl rfl ?_
              refine ov_icgt (tgt := 143) d_152_94 (by decide) (by omega) (by omega) (fun c39 => ?_) (fun c39 => ?_)
              · skip
                refine ov_blk (ls2 := [(0, ov_r 46), (1, ov_r 70), (2, ov_i s), (3, ov_i o), (4, ov_i v3), (5, ov_i x5_), (6, ov_i x6)]) (st2 := [ov_i x5_]) (pc2 := 145) b_152_143_1 rfl rfl ?_
                exact ov_reti (st := []) d_152_145 rfl ⟨_, rfl, I30, (by show -2147483648 ≤ x5_ ∧ x5_ ≤ 2147483647 ∧ (h29 36 7) = (h 36 7) ∧ (h29 1 1) = (h 1 1) ∧ (h29 90 2) = (h 90 2) ∧ (h29 0 10) = (h 0 10) ∧ (h29 0 11) = (h 0 11) ∧ (h29 0 12) = (h 0 12) ∧ (h29 0 13) = (h 0 13) ∧ (h29 3 1) = (h 3 1) ∧ (h29 36 8) = (h 36 8) ∧ (h29 46 4) = (h 46 4) ∧ (h29 49 4) = (h 49 4) ∧ (h29 49 5) = (h 49 5) ∧ (h29 64 0) = (h 64 0) ∧ (h29 76 0) = (h 76 0); omega)⟩
              · skip
                refine ov_blk (ls2 := [(0, ov_r 46), (1, ov_r 70), (2, ov_i s), (3, ov_i o), (4, ov_i v3), (5, ov_i x5_), (6, ov_i x6)]) (st2 := [ov_r 46, ov_i x5_]) (pc2 := 100) b_152_97_2 rfl rfl ?_
                refine ov_getf (v := ov_r 48) d_152_100 fl_Ways_15 (zb_46 I30) (zs_46 I30) (congrArg ov_r (rg_46_6 I30)) ?_
                refine ov_blk (ls2 := [(0, ov_r 46), (1, ov_r 70), (2, ov_i s), (3, ov_i o), (4, ov_i v3), (5, ov_i x5_), (6, ov_i x6)]) (st2 := [ov_i x6, ov_i 0, ov_i v3, ov_r 48, ov_i x5_]) (pc2 := 108) b_152_103_3 rfl rfl ?_
                refine ov_cS (as := [ov_i v3, ov_i 0, ov_i x6]) (st := [ov_r 48, ov_i x5_]) (d2 := d - 1) d_152_108 lk_Ways_79 rfl (Nat.le_of_ble_eq_true rfl) (by omega) (c_Ways_turnedCell (d - 1) (by omega) U I30 v3 0 x6 (by omega) (by omega) (by omega) (by omega) (by omega) (by omega)) ?_
                rintro _ _ _ ⟨v41, rfl, rfl, rfl, f40⟩
                show ov_R u d ov_m152 111 [(0, ov_r 46), (1, ov_r 70), (2, ov_i s), (3, ov_i o), (4, ov_i v3), (5, ov_i x5_), (6, ov_i x6)] [ov_i v41, ov_r 48, ov_i x5_] z28 h29 (P_Ways_arrivalTurning_46_70 F z h s o)
                have f42 : v41 = (v3 * 2 + (0 : Int)) * 13 + x6 := f40
                clear f40
                refine ov_iald d_152_111 (zb_48 I30) (zs_48 I30) (by omega) ?_
                have g43 := ra_48 I30 v41
                refine ov_cSN (as := [ov_i x5_, ov_i (h29 48 v41)]) (st := []) (d2 := d - 1) d_152_112 lk_Ways_50 rfl (Nat.le_of_ble_eq_true rfl) (by omega) (c_OF_lesser (d - 1) (by omega) U I30 x5_ (h29 48 v41) (by omega) (by omega)) ?_
                rintro _ _ _ ⟨v45, rfl, rfl, rfl, f44⟩
                show ov_R u d ov_m152 115 [(0, ov_r 46), (1, ov_r 70), (2, ov_i s), (3, ov_i o), (4, ov_i v3), (5, ov_i x5_), (6, ov_i x6)] [ov_i v45] z28 h29 (P_Ways_arrivalTurning_46_70 F z h s o)
                have f46 : (v45 = x5_ ∨ v45 = (h29 48 v41)) := f44
                clear f44
                refine ov_blk (ls2 := [(0, ov_r 46), (1, ov_r 70), (2, ov_i s), (3, ov_i o), (4, ov_i v3), (5, ov_i v45), (6, ov_i x6)]) (st2 := [ov_r 46, ov_i v45]) (pc2 := 120) b_152_115_3 rfl rfl ?_
                refine ov_getf (v := ov_r 48) d_152_120 fl_Ways_15 (zb_46 I30) (zs_46 I30) (congrArg ov_r (rg_46_6 I30)) ?_
                refine ov_blk (ls2 := [(0, ov_r 46), (1, ov_r 70), (2, ov_i s), (3, ov_i o), (4, ov_i v3), (5, ov_i v45), (6, ov_i x6)]) (st2 := [ov_i x6, ov_i 1, ov_i v3, ov_r 48, ov_i v45]) (pc2 := 128) b_152_123_3 rfl rfl ?_
                refine ov_cS (as := [ov_i v3, ov_i 1, ov_i x6]) (st := [ov_r 48, ov_i v45]) (d2 := d - 1) d_152_128 lk_Ways_79 rfl (Nat.le_of_ble_eq_true rfl) (by omega) (c_Ways_turnedCell (d - 1) (by omega) U I30 v3 1 x6 (by omega) (by omega) (by omega) (by omega) (by omega) (by omega)) ?_
                rintro _ _ _ ⟨v48, rfl, rfl, rfl, f47⟩
                show ov_R u d ov_m152 131 [(0, ov_r 46), (1, ov_r 70), (2, ov_i s), (3, ov_i o), (4, ov_i v3), (5, ov_i v45), (6, ov_i x6)] [ov_i v48, ov_r 48, ov_i v45] z28 h29 (P_Ways_arrivalTurning_46_70 F z h s o)
                have f49 : v48 = (v3 * 2 + (1 : Int)) * 13 + x6 := f47
                clear f47
                refine ov_iald d_152_131 (zb_48 I30) (zs_48 I30) (by omega) ?_
                have g50 := ra_48 I30 v48
                refine ov_cSN (as := [ov_i v45, ov_i (h29 48 v48)]) (st := []) (d2 := d - 1) d_152_132 lk_Ways_50 rfl (Nat.le_of_ble_eq_true rfl) (by omega) (c_OF_lesser (d - 1) (by omega) U I30 v45 (h29 48 v48) (by omega) (by omega)) ?_
                rintro _ _ _ ⟨v52, rfl, rfl, rfl, f51⟩
                show ov_R u d ov_m152 135 [(0, ov_r 46), (1, ov_r 70), (2, ov_i s), (3, ov_i o), (4, ov_i v3), (5, ov_i v45), (6, ov_i x6)] [ov_i v52] z28 h29 (P_Ways_arrivalTurning_46_70 F z h s o)
                have f53 : (v52 = v45 ∨ v52 = (h29 48 v48)) := f51
                clear f51
                refine ov_blk (ls2 := [(0, ov_r 46), (1, ov_r 70), (2, ov_i s), (3, ov_i o), (4, ov_i v3), (5, ov_i v52), (6, ov_i (x6 + 1))]) (st2 := []) (pc2 := 140) b_152_135_2 rfl rfl ?_
                refine ov_goto (tgt := 91) d_152_140 (by decide) ?_
                exact ih35 v52 (x6 + 1) (by show ov_g v52 ∧ 0 ≤ (x6 + 1) ∧ (x6 + 1) ≤ 13; omega) (by omega)
          exact L37 14 (-1) 0 (by show ov_g (-1) ∧ 0 ≤ 0 ∧ 0 ≤ 13; omega) (by omega)
        · skip
          refine ov_blk (ls2 := [(0, ov_r 46), (1, ov_r 70), (2, ov_i s), (3, ov_i o), (4, ov_i v3), (5, ov_i x5), (6, ov_i 0)]) (st2 := []) (pc2 := 58) b_152_55_2 rfl rfl ?_
          have L57 : ∀ (n54 : Nat) (x6_ : Int) (z58 : ov_Z) (h59 : ov_H) (I60 : ov_I F z58 h59) (q56 : 0 ≤ x6_ ∧ x6_ ≤ 13 ∧ (h59 36 7) = (h 36 7) ∧ (h59 1 1) = (h 1 1) ∧ (h59 90 2) = (h 90 2) ∧ (h59 0 10) = (h 0 10) ∧ (h59 0 11) = (h 0 11) ∧ (h59 0 12) = (h 0 12) ∧ (h59 0 13) = (h 0 13) ∧ (h59 3 1) = (h 3 1) ∧ (h59 36 8) = (h 36 8) ∧ (h59 46 4) = (h 46 4) ∧ (h59 49 4) = (h 49 4) ∧ (h59 49 5) = (h 49 5) ∧ (h59 64 0) = (h 64 0) ∧ (h59 76 0) = (h 76 0) ∧ h59 46 3 = 70), 13 - x6_ < (n54 : Int) → ov_R u d ov_m152 58 [(0, ov_r 46), (1, ov_r 70), (2, ov_i s), (3, ov_i o), (4, ov_i v3), (5, ov_i x5), (6, ov_i x6_)] [] z58 h59 (P_Ways_arrivalTurning_46_70 F z h s o) := by
            intro n54
            induction n54 with
            | zero =>
              intro x6_ z58 h59 I60 q56 hn61
              exact absurd hn61 (by omega)
            | succ n54 ih55 =>
              intro x6_ z58 h59 I60 q56 hn61
              have e62 : h59 46 3 = 70 := by omega
              refine ov_blk (ls2 := [(0, ov_r 46), (1, ov_r 70), (2, ov_i s), (3, ov_i o), (4, ov_i v3), (5, ov_i x5), (6, ov_i x6_)]) (st2 := [ov_i o, ov_i x6_]) (pc2 := 61) b_152_58_2 rfl rfl ?_
              refine ov_icgt (tgt := 79) d_152_61 (by decide) (by omega) (by omega) (fun c63 => ?_) (fun c63 => ?_)
              · skip
                refine ov_blk (ls2 := [(0, ov_r 46), (1, ov_r 70), (2, ov_i s), (3, ov_i o), (4, ov_i v3), (5, ov_i (x5 + 1)), (6, ov_i x6_)]) (st2 := []) (pc2 := 82) b_152_79_1 rfl rfl ?_
                refine ov_goto (tgt := 48) d_152_82 (by decide) ?_
                refine ov_sub (ls2 := [(0, ov_r 46), (1, ov_r 70), (2, ov_i s), (3, ov_i o), (4, ov_i v3), (5, ov_i (x5 + 1))]) (List.Sublist.subset (by repeat (first | exact List.Sublist.refl _ | apply List.Sublist.cons_cons | apply List.Sublist.cons))) ?_
                exact ih25 (x5 + 1) _ _ I60 (by show 1 ≤ (x5 + 1) ∧ (x5 + 1) ≤ 53 ∧ (h59 36 7) = (h 36 7) ∧ (h59 1 1) = (h 1 1) ∧ (h59 90 2) = (h 90 2) ∧ (h59 0 10) = (h 0 10) ∧ (h59 0 11) = (h 0 11) ∧ (h59 0 12) = (h 0 12) ∧ (h59 0 13) = (h 0 13) ∧ (h59 3 1) = (h 3 1) ∧ (h59 36 8) = (h 36 8) ∧ (h59 46 4) = (h 46 4) ∧ (h59 49 4) = (h 49 4) ∧ (h59 49 5) = (h 49 5) ∧ (h59 64 0) = (h 64 0) ∧ (h59 76 0) = (h 76 0) ∧ (h59 46 3) = 70; omega) (by omega)
              · skip
                refine ov_blk (ls2 := [(0, ov_r 46), (1, ov_r 70), (2, ov_i s), (3, ov_i o), (4, ov_i v3), (5, ov_i x5), (6, ov_i x6_)]) (st2 := [ov_i o, ov_i x6_, ov_i x5, ov_r 46]) (pc2 := 70) b_152_64_4 rfl rfl ?_
                refine ov_cV (as := [ov_i x5, ov_i x6_, ov_i o]) (st := []) (d2 := d - 1) d_152_70 lk_Ways_75 rfl (Nat.le_of_ble_eq_true rfl) (c := 12) (zb_46 I60) (zs_46 I60) ⟨by decide, rfl⟩ (by omega) (c_Ways_goOnTurning_46_k46_3_70 (d - 1) (by omega) U I60 x5 x6_ o e62 (by omega) (by omega) (by omega) (by omega) (by omega)) ?_
                rintro _ z65 h66 ⟨rfl, I67, f64⟩
                show ov_R u d ov_m152 73 [(0, ov_r 46), (1, ov_r 70), (2, ov_i s), (3, ov_i o), (4, ov_i v3), (5, ov_i x5), (6, ov_i x6_)] [] z65 h66 (P_Ways_arrivalTurning_46_70 F z h s o)
                have f68 : (h66 36 7) = (h59 36 7) ∧ (h66 1 1) = (h59 1 1) ∧ (h66 90 2) = (h59 90 2) ∧ (h66 0 10) = (h59 0 10) ∧ (h66 0 11) = (h59 0 11) ∧ (h66 0 12) = (h59 0 12) ∧ (h66 0 13) = (h59 0 13) ∧ (h66 3 1) = (h59 3 1) ∧ (h66 36 8) = (h59 36 8) ∧ (h66 46 3) = (h59 46 3) ∧ (h66 46 4) = (h59 46 4) ∧ (h66 49 4) = (h59 49 4) ∧ (h66 49 5) = (h59 49 5) ∧ (h66 64 0) = (h59 64 0) ∧ (h66 76 0) = (h59 76 0) := f64
                clear f64
                have e69 : h66 46 3 = 70 := by omega
                refine ov_blk (ls2 := [(0, ov_r 46), (1, ov_r 70), (2, ov_i s), (3, ov_i o), (4, ov_i v3), (5, ov_i x5), (6, ov_i (x6_ + 1))]) (st2 := []) (pc2 := 76) b_152_73_1 rfl rfl ?_
                refine ov_goto (tgt := 58) d_152_76 (by decide) ?_
                exact ih55 (x6_ + 1) _ _ I67 (by show 0 ≤ (x6_ + 1) ∧ (x6_ + 1) ≤ 13 ∧ (h66 36 7) = (h 36 7) ∧ (h66 1 1) = (h 1 1) ∧ (h66 90 2) = (h 90 2) ∧ (h66 0 10) = (h 0 10) ∧ (h66 0 11) = (h 0 11) ∧ (h66 0 12) = (h 0 12) ∧ (h66 0 13) = (h 0 13) ∧ (h66 3 1) = (h 3 1) ∧ (h66 36 8) = (h 36 8) ∧ (h66 46 4) = (h 46 4) ∧ (h66 49 4) = (h 49 4) ∧ (h66 49 5) = (h 49 5) ∧ (h66 64 0) = (h 64 0) ∧ (h66 76 0) = (h 76 0) ∧ (h66 46 3) = 70; omega) (by omega)
          exact L57 14 0 _ _ I30 (by show 0 ≤ 0 ∧ 0 ≤ 13 ∧ (h29 36 7) = (h 36 7) ∧ (h29 1 1) = (h 1 1) ∧ (h29 90 2) = (h 90 2) ∧ (h29 0 10) = (h 0 10) ∧ (h29 0 11) = (h 0 11) ∧ (h29 0 12) = (h 0 12) ∧ (h29 0 13) = (h 0 13) ∧ (h29 3 1) = (h 3 1) ∧ (h29 36 8) = (h 36 8) ∧ (h29 46 4) = (h 46 4) ∧ (h29 49 4) = (h 49 4) ∧ (h29 49 5) = (h 49 5) ∧ (h29 64 0) = (h 64 0) ∧ (h29 76 0) = (h 76 0) ∧ (h29 46 3) = 70; omega) (by omega)
    exact L27 54 1 _ _ I21 (by show 1 ≤ 1 ∧ 1 ≤ 53 ∧ (h20 36 7) = (h 36 7) ∧ (h20 1 1) = (h 1 1) ∧ (h20 90 2) = (h 90 2) ∧ (h20 0 10) = (h 0 10) ∧ (h20 0 11) = (h 0 11) ∧ (h20 0 12) = (h 0 12) ∧ (h20 0 13) = (h 0 13) ∧ (h20 3 1) = (h 3 1) ∧ (h20 36 8) = (h 36 8) ∧ (h20 46 4) = (h 46 4) ∧ (h20 49 4) = (h 49 4) ∧ (h20 49 5) = (h 49 5) ∧ (h20 64 0) = (h 64 0) ∧ (h20 76 0) = (h 76 0) ∧ (h20 46 3) = 70; omega) (by omega)
  · skip
    refine ov_blk (ls2 := [(0, ov_r 46), (1, ov_r 70), (2, ov_i s), (3, ov_i o), (4, ov_i v3)]) (st2 := [ov_i s]) (pc2 := 20) b_152_19_1 rfl rfl ?_
    exact ov_reti (st := []) d_152_20 rfl ⟨_, rfl, I1, (by show -2147483648 ≤ s ∧ s ≤ 2147483647 ∧ (h 36 7) = (h 36 7) ∧ (h 1 1) = (h 1 1) ∧ (h 90 2) = (h 90 2) ∧ (h 0 10) = (h 0 10) ∧ (h 0 11) = (h 0 11) ∧ (h 0 12) = (h 0 12) ∧ (h 0 13) = (h 0 13) ∧ (h 3 1) = (h 3 1) ∧ (h 36 8) = (h 36 8) ∧ (h 46 4) = (h 46 4) ∧ (h 49 4) = (h 49 4) ∧ (h 49 5) = (h 49 5) ∧ (h 64 0) = (h 64 0) ∧ (h 76 0) = (h 76 0); omega)⟩
abbrev P_Ways_trace_46_k46_3_70_k46_4_4 (F : ov_H) (z : ov_Z) (h : ov_H) (c : Int) (s : Int) (n : Int) (bits : Int) (mask : Int) (met : Int) : Option ov_V → ov_Z → ov_H → Prop := fun r0 z' h' => r0 = none ∧ ov_I F z' h' ∧ (h' 36 7 = h 36 7 ∧ h' 1 1 = h 1 1 ∧ h' 90 2 = h 90 2 ∧ h' 0 10 = h 0 10 ∧ h' 0 11 = h 0 11 ∧ h' 0 12 = h 0 12 ∧ h' 0 13 = h 0 13 ∧ h' 3 1 = h 3 1 ∧ h' 36 8 = h 36 8 ∧ h' 46 3 = h 46 3 ∧ h' 46 4 = h 46 4 ∧ h' 49 4 = h 49 4 ∧ h' 49 5 = h 49 5 ∧ h' 64 0 = h 64 0 ∧ h' 76 0 = h 76 0)
set_option maxHeartbeats 4000000 in
theorem c_Ways_trace_46_k46_3_70_k46_4_4 {u : ov_U} {F : ov_H} (k : Nat) (HC : ∀ k' : Nat, k' < k → ∀ {z : ov_Z} {h : ov_H} (d : Nat) (hd : (10 + 1 * k' ) ≤ d) (U : ov_cap u) (I : ov_I F z h) (c : Int) (s : Int) (n : Int) (bits : Int) (mask : Int) (met : Int) (k0 : h 46 3 = 70) (k1 : h 46 4 = 4) (g_c : ov_g c) (g_s : ov_g s) (g_n : ov_g n) (g_met : ov_g met) (p0 : 0 ≤ c ∧ c ≤ 53) (p1 : 0 ≤ n ∧ n + (k' : Int) = 13) (p2 : F (-5) 70 = 1), ov_T u d ov_m189 [ov_r 46, ov_i c, ov_i s, ov_i n, ov_l bits, ov_l mask, ov_i met] z h (P_Ways_trace_46_k46_3_70_k46_4_4 F z h c s n bits mask met)) {z : ov_Z} {h : ov_H} (d : Nat) (hd : (10 + 1 * k ) ≤ d) (U : ov_cap u) (I : ov_I F z h) (c : Int) (s : Int) (n : Int) (bits : Int) (mask : Int) (met : Int) (k0 : h 46 3 = 70) (k1 : h 46 4 = 4) (g_c : ov_g c) (g_s : ov_g s) (g_n : ov_g n) (g_met : ov_g met) (p0 : 0 ≤ c ∧ c ≤ 53) (p1 : 0 ≤ n ∧ n + (k : Int) = 13) (p2 : F (-5) 70 = 1) : ov_T u d ov_m189 [ov_r 46, ov_i c, ov_i s, ov_i n, ov_l bits, ov_l mask, ov_i met] z h (P_Ways_trace_46_k46_3_70_k46_4_4 F z h c s n bits mask met) := by
  refine ov_en rfl (Nat.le_of_ble_eq_true rfl) ?_
  show ov_R u d ov_m189 0 [(0, ov_r 46), (1, ov_i c), (2, ov_i s), (3, ov_i n), (4, ov_l bits), (6, ov_l mask), (8, ov_i met)] [] z h (P_Ways_trace_46_k46_3_70_k46_4_4 F z h c s n bits mask met)
  refine ov_blk (ls2 := [(0, ov_r 46), (1, ov_i c), (2, ov_i s), (3, ov_i n), (4, ov_l bits), (6, ov_l mask), (8, ov_i met)]) (st2 := [ov_r 46, ov_i c]) (pc2 := 2) b_189_0_2 rfl rfl ?_
  refine ov_getf (v := ov_r 70) d_189_2 fl_Ways_18 (zb_46 I) (zs_46 I) (congrArg ov_r k0) ?_
  refine ov_cV (as := []) (st := [ov_i c]) (d2 := d - 1) d_189_5 lk_Ways_28 rfl (Nat.le_of_ble_eq_true rfl) (c := 9) (zb_70 I) (zs_70 I) ⟨by decide, rfl⟩ (by omega) (c_Town_home_70 (d - 1) (by omega) U I (by omega)) ?_
  rintro _ _ _ ⟨v2, rfl, rfl, rfl, f1⟩
  show ov_R u d ov_m189 8 [(0, ov_r 46), (1, ov_i c), (2, ov_i s), (3, ov_i n), (4, ov_l bits), (6, ov_l mask), (8, ov_i met)] [ov_i v2, ov_i c] z h (P_Ways_trace_46_k46_3_70_k46_4_4 F z h c s n bits mask met)
  have f3 : v2 = ((h 70 1) - 1) * 6 + (h 70 0) - 1 ∧ 0 ≤ v2 ∧ v2 ≤ 53 := f1
  clear f1
  refine ov_icne (tgt := 87) d_189_8 (by decide) (by omega) (by omega) (fun c4 => ?_) (fun c4 => ?_)
  · skip
    refine ov_blk (ls2 := [(0, ov_r 46), (1, ov_i c), (2, ov_i s), (3, ov_i n), (4, ov_l bits), (6, ov_l mask), (8, ov_i met), (9, ov_i 0)]) (st2 := []) (pc2 := 90) b_189_87_2 rfl rfl ?_
    have L8 : ∀ (n5 : Nat) (x9 : Int) (z9 : ov_Z) (h10 : ov_H) (I11 : ov_I F z9 h10) (q7 : 0 ≤ x9 ∧ x9 ≤ 2 ∧ (h10 36 7) = (h 36 7) ∧ (h10 1 1) = (h 1 1) ∧ (h10 90 2) = (h 90 2) ∧ (h10 0 10) = (h 0 10) ∧ (h10 0 11) = (h 0 11) ∧ (h10 0 12) = (h 0 12) ∧ (h10 0 13) = (h 0 13) ∧ (h10 3 1) = (h 3 1) ∧ (h10 36 8) = (h 36 8) ∧ (h10 46 3) = (h 46 3) ∧ (h10 46 4) = (h 46 4) ∧ (h10 49 4) = (h 49 4) ∧ (h10 49 5) = (h 49 5) ∧ (h10 64 0) = (h 64 0) ∧ (h10 76 0) = (h 76 0) ∧ h10 46 3 = 70 ∧ h10 46 4 = 4), 2 - x9 < (n5 : Int) → ov_R u d ov_m189 90 [(0, ov_r 46), (1, ov_i c), (2, ov_i s), (3, ov_i n), (4, ov_l bits), (6, ov_l mask), (8, ov_i met), (9, ov_i x9)] [] z9 h10 (P_Ways_trace_46_k46_3_70_k46_4_4 F z h c s n bits mask met) := by
      intro n5
      induction n5 with
      | zero =>
        intro x9 z9 h10 I11 q7 hn12
        exact absurd hn12 (by omega)
      | succ n5 ih6 =>
        intro x9 z9 h10 I11 q7 hn12
        have e13 : h10 46 3 = 70 := by omega
        have e14 : h10 46 4 = 4 := by omega
        refine ov_blk (ls2 := [(0, ov_r 46), (1, ov_i c), (2, ov_i s), (3, ov_i n), (4, ov_l bits), (6, ov_l mask), (8, ov_i met), (9, ov_i x9)]) (st2 := [ov_i 1, ov_i x9]) (pc2 := 93) b_189_90_2 rfl rfl ?_
        refine ov_icgt (tgt := 208) d_189_93 (by decide) (by omega) (by omega) (fun c15 => ?_) (fun c15 => ?_)
        · skip
          exact ov_retv (st := []) d_189_208 rfl ⟨rfl, I11, (by show (h10 36 7) = (h 36 7) ∧ (h10 1 1) = (h 1 1) ∧ (h10 90 2) = (h 90 2) ∧ (h10 0 10) = (h 0 10) ∧ (h10 0 11) = (h 0 11) ∧ (h10 0 12) = (h 0 12) ∧ (h10 0 13) = (h 0 13) ∧ (h10 3 1) = (h 3 1) ∧ (h10 36 8) = (h 36 8) ∧ (h10 46 3) = (h 46 3) ∧ (h10 46 4) = (h 46 4) ∧ (h10 49 4) = (h 49 4) ∧ (h10 49 5) = (h 49 5) ∧ (h10 64 0) = (h 64 0) ∧ (h10 76 0) = (h 76 0); omega)⟩
        · skip
          refine ov_blk (ls2 := [(0, ov_r 46), (1, ov_i c), (2, ov_i s), (3, ov_i n), (4, ov_l bits), (6, ov_l mask), (8, ov_i met), (9, ov_i x9)]) (st2 := [ov_i 13, ov_i n]) (pc2 := 99) b_189_96_2 rfl rfl ?_
          refine ov_icge (tgt := 208) d_189_99 (by decide) (by omega) (by omega) (fun c16 => ?_) (fun c16 => ?_)
          · skip
            exact ov_retv (st := []) d_189_208 rfl ⟨rfl, I11, (by show (h10 36 7) = (h 36 7) ∧ (h10 1 1) = (h 1 1) ∧ (h10 90 2) = (h 90 2) ∧ (h10 0 10) = (h 0 10) ∧ (h10 0 11) = (h 0 11) ∧ (h10 0 12) = (h 0 12) ∧ (h10 0 13) = (h 0 13) ∧ (h10 3 1) = (h 3 1) ∧ (h10 36 8) = (h 36 8) ∧ (h10 46 3) = (h 46 3) ∧ (h10 46 4) = (h 46 4) ∧ (h10 49 4) = (h 49 4) ∧ (h10 49 5) = (h 49 5) ∧ (h10 64 0) = (h 64 0) ∧ (h10 76 0) = (h 76 0); omega)⟩
          · skip
            refine ov_blk (ls2 := [(0, ov_r 46), (1, ov_i c), (2, ov_i s), (3, ov_i n), (4, ov_l bits), (6, ov_l mask), (8, ov_i met), (9, ov_i x9)]) (st2 := [ov_r 46]) (pc2 := 103) b_189_102_1 rfl rfl ?_
            refine ov_getf (v := ov_r 70) d_189_103 fl_Ways_18 (zb_46 I11) (zs_46 I11) (congrArg ov_r e13) ?_
            refine ov_blk (ls2 := [(0, ov_r 46), (1, ov_i c), (2, ov_i s), (3, ov_i n), (4, ov_l bits), (6, ov_l mask), (8, ov_i met), (9, ov_i x9)]) (st2 := [ov_i x9, ov_i c, ov_r 70]) (pc2 := 109) b_189_106_2 rfl rfl ?_
            refine ov_cV (as := [ov_i c, ov_i x9]) (st := []) (d2 := d - 1) d_189_109 lk_Ways_38 rfl (Nat.le_of_ble_eq_true rfl) (c := 9) (zb_70 I11) (zs_70 I11) ⟨by decide, rfl⟩ (by omega) (c_Town_isOpen_70 (d - 1) (by omega) U I11 c x9 (by omega) (by omega) (by omega)) ?_
            rintro _ _ _ ⟨v18, rfl, rfl, rfl, f17⟩
            show ov_R u d ov_m189 112 [(0, ov_r 46), (1, ov_i c), (2, ov_i s), (3, ov_i n), (4, ov_l bits), (6, ov_l mask), (8, ov_i met), (9, ov_i x9)] [ov_i v18] z9 h10 (P_Ways_trace_46_k46_3_70_k46_4_4 F z h c s n bits mask met)
            have f19 : (v18 = 0 ∨ v18 = 1) ∧ (v18 = 1 → (x9 = 0 ∧ c ≤ 52) ∨ (x9 = 1 ∧ c ≤ 47)) := f17
            clear f17
            refine ov_ifeq (tgt := 202) d_189_112 (by decide) (by omega) (fun c20 => ?_) (fun c20 => ?_)
            · skip
              refine ov_blk (ls2 := [(0, ov_r 46), (1, ov_i c), (2, ov_i s), (3, ov_i n), (4, ov_l bits), (6, ov_l mask), (8, ov_i met), (9, ov_i (x9 + 1))]) (st2 := []) (pc2 := 205) b_189_202_1 rfl rfl ?_
              refine ov_goto (tgt := 90) d_189_205 (by decide) ?_
              exact ih6 (x9 + 1) _ _ I11 (by show 0 ≤ (x9 + 1) ∧ (x9 + 1) ≤ 2 ∧ (h10 36 7) = (h 36 7) ∧ (h10 1 1) = (h 1 1) ∧ (h10 90 2) = (h 90 2) ∧ (h10 0 10) = (h 0 10) ∧ (h10 0 11) = (h 0 11) ∧ (h10 0 12) = (h 0 12) ∧ (h10 0 13) = (h 0 13) ∧ (h10 3 1) = (h 3 1) ∧ (h10 36 8) = (h 36 8) ∧ (h10 46 3) = (h 46 3) ∧ (h10 46 4) = (h 46 4) ∧ (h10 49 4) = (h 49 4) ∧ (h10 49 5) = (h 49 5) ∧ (h10 64 0) = (h 64 0) ∧ (h10 76 0) = (h 76 0) ∧ (h10 46 3) = 70 ∧ (h10 46 4) = 4; omega) (by omega)
            · skip
              refine ov_blk (ls2 := [(0, ov_r 46), (1, ov_i c), (2, ov_i s), (3, ov_i n), (4, ov_l bits), (6, ov_l mask), (8, ov_i met), (9, ov_i x9)]) (st2 := [ov_r 46, ov_i s]) (pc2 := 117) b_189_115_2 rfl rfl ?_
              refine ov_getf (v := ov_r 70) d_189_117 fl_Ways_18 (zb_46 I11) (zs_46 I11) (congrArg ov_r e13) ?_
              refine ov_blk (ls2 := [(0, ov_r 46), (1, ov_i c), (2, ov_i s), (3, ov_i n), (4, ov_l bits), (6, ov_l mask), (8, ov_i met), (9, ov_i x9)]) (st2 := [ov_i s, ov_i x9, ov_i c, ov_r 70, ov_i s]) (pc2 := 124) b_189_120_3 rfl rfl ?_
              refine ov_cV (as := [ov_i c, ov_i x9, ov_i s]) (st := [ov_i s]) (d2 := d - 1) d_189_124 lk_Ways_53 rfl (Nat.le_of_ble_eq_true rfl) (c := 9) (zb_70 I11) (zs_70 I11) ⟨by decide, rfl⟩ (by omega) (c_Town_waitFor_70 (d - 1) (by omega) U I11 c x9 s (by omega) (by omega) (by omega) (by omega)) ?_
              rintro _ _ _ ⟨v22, rfl, rfl, rfl, f21⟩
              show ov_R u d ov_m189 127 [(0, ov_r 46), (1, ov_i c), (2, ov_i s), (3, ov_i n), (4, ov_l bits), (6, ov_l mask), (8, ov_i met), (9, ov_i x9)] [ov_i v22, ov_i s] z9 h10 (P_Ways_trace_46_k46_3_70_k46_4_4 F z h c s n bits mask met)
              have f23 : 0 ≤ v22 ∧ v22 ≤ 60 := f21
              clear f21
              refine ov_blk (ls2 := [(0, ov_r 46), (1, ov_i c), (2, ov_i s), (3, ov_i n), (4, ov_l bits), (6, ov_l mask), (8, ov_i met), (9, ov_i x9)]) (st2 := [ov_i (s + v22)]) (pc2 := 128) b_189_127_1 rfl rfl ?_
              refine ov_havw (fun w24 gw24 qw24 => ?_)
              refine ov_blk (ls2 := [(0, ov_r 46), (1, ov_i c), (2, ov_i s), (3, ov_i n), (4, ov_l bits), (6, ov_l mask), (8, ov_i met), (9, ov_i x9), (10, ov_i w24)]) (st2 := [ov_r 46]) (pc2 := 131) b_189_128_2 rfl rfl ?_
              refine ov_getf (v := ov_r 4) d_189_131 fl_Ways_82 (zb_46 I11) (zs_46 I11) (congrArg ov_r e14) ?_
              refine ov_blk (ls2 := [(0, ov_r 46), (1, ov_i c), (2, ov_i s), (3, ov_i n), (4, ov_l bits), (6, ov_l mask), (8, ov_i met), (9, ov_i x9), (10, ov_i w24)]) (st2 := [ov_i w24, ov_i s, ov_i c, ov_r 4]) (pc2 := 138) b_189_134_3 rfl rfl ?_
              refine ov_cV (as := [ov_i c, ov_i s, ov_i w24]) (st := []) (d2 := d - 1) d_189_138 lk_Ways_102 rfl (Nat.le_of_ble_eq_true rfl) (c := 7) (zb_4 I11) (zs_4 I11) ⟨by decide, rfl⟩ (by omega) (c_State_sightingsWithin_4 (d - 1) (by omega) U I11 c s w24 (by omega) (by omega) (by omega)) ?_
              rintro _ _ _ ⟨v26, rfl, rfl, rfl, f25⟩
              show ov_R u d ov_m189 141 [(0, ov_r 46), (1, ov_i c), (2, ov_i s), (3, ov_i n), (4, ov_l bits), (6, ov_l mask), (8, ov_i met), (9, ov_i x9), (10, ov_i w24)] [ov_i v26] z9 h10 (P_Ways_trace_46_k46_3_70_k46_4_4 F z h c s n bits mask met)
              have f27 : -1 ≤ v26 ∧ v26 ≤ 8 := f25
              clear f25
              refine ov_blk (ls2 := [(0, ov_r 46), (1, ov_i c), (2, ov_i s), (3, ov_i n), (4, ov_l bits), (6, ov_l mask), (8, ov_i met), (9, ov_i x9), (10, ov_i w24), (11, ov_i v26)]) (st2 := [ov_i (-1), ov_i v26]) (pc2 := 146) b_189_141_3 rfl rfl ?_
              refine ov_iceq (tgt := 202) d_189_146 (by decide) (by omega) (by omega) (fun c28 => ?_) (fun c28 => ?_)
              · skip
                refine ov_blk (ls2 := [(0, ov_r 46), (1, ov_i c), (2, ov_i s), (3, ov_i n), (4, ov_l bits), (6, ov_l mask), (8, ov_i met), (9, ov_i (x9 + 1)), (10, ov_i w24), (11, ov_i v26)]) (st2 := []) (pc2 := 205) b_189_202_1 rfl rfl ?_
                refine ov_goto (tgt := 90) d_189_205 (by decide) ?_
                refine ov_sub (ls2 := [(0, ov_r 46), (1, ov_i c), (2, ov_i s), (3, ov_i n), (4, ov_l bits), (6, ov_l mask), (8, ov_i met), (9, ov_i (x9 + 1))]) (List.Sublist.subset (by repeat (first | exact List.Sublist.refl _ | apply List.Sublist.cons_cons | apply List.Sublist.cons))) ?_
                exact ih6 (x9 + 1) _ _ I11 (by show 0 ≤ (x9 + 1) ∧ (x9 + 1) ≤ 2 ∧ (h10 36 7) = (h 36 7) ∧ (h10 1 1) = (h 1 1) ∧ (h10 90 2) = (h 90 2) ∧ (h10 0 10) = (h 0 10) ∧ (h10 0 11) = (h 0 11) ∧ (h10 0 12) = (h 0 12) ∧ (h10 0 13) = (h 0 13) ∧ (h10 3 1) = (h 3 1) ∧ (h10 36 8) = (h 36 8) ∧ (h10 46 3) = (h 46 3) ∧ (h10 46 4) = (h 46 4) ∧ (h10 49 4) = (h 49 4) ∧ (h10 49 5) = (h 49 5) ∧ (h10 64 0) = (h 64 0) ∧ (h10 76 0) = (h 76 0) ∧ (h10 46 3) = 70 ∧ (h10 46 4) = 4; omega) (by omega)
              · skip
                refine ov_blk (ls2 := [(0, ov_r 46), (1, ov_i c), (2, ov_i s), (3, ov_i n), (4, ov_l bits), (6, ov_l mask), (8, ov_i met), (9, ov_i x9), (10, ov_i w24), (11, ov_i v26)]) (st2 := [ov_r 46]) (pc2 := 150) b_189_149_1 rfl rfl ?_
                refine ov_getf (v := ov_r 70) d_189_150 fl_Ways_18 (zb_46 I11) (zs_46 I11) (congrArg ov_r e13) ?_
                refine ov_blk (ls2 := [(0, ov_r 46), (1, ov_i c), (2, ov_i s), (3, ov_i n), (4, ov_l bits), (6, ov_l mask), (8, ov_i met), (9, ov_i x9), (10, ov_i w24), (11, ov_i v26)]) (st2 := [ov_i x9, ov_i c, ov_r 70]) (pc2 := 156) b_189_153_2 rfl rfl ?_
                refine ov_cV (as := [ov_i c, ov_i x9]) (st := []) (d2 := d - 1) d_189_156 lk_Ways_42 rfl (Nat.le_of_ble_eq_true rfl) (c := 9) (zb_70 I11) (zs_70 I11) ⟨by decide, rfl⟩ (by omega) (c_Town_after_70 (d - 1) (by omega) U I11 c x9 (by omega) (by omega) (by omega)) ?_
                rintro _ _ _ ⟨v30, rfl, rfl, rfl, f29⟩
                show ov_R u d ov_m189 159 [(0, ov_r 46), (1, ov_i c), (2, ov_i s), (3, ov_i n), (4, ov_l bits), (6, ov_l mask), (8, ov_i met), (9, ov_i x9), (10, ov_i w24), (11, ov_i v26)] [ov_i v30] z9 h10 (P_Ways_trace_46_k46_3_70_k46_4_4 F z h c s n bits mask met)
                have f31 : (x9 = 0 → v30 = c + 1) ∧ (¬ x9 = 0 → v30 = c + 6) := f29
                clear f29
                refine ov_blk (ls2 := [(0, ov_r 46), (1, ov_i c), (2, ov_i s), (3, ov_i n), (4, ov_l bits), (6, ov_l mask), (8, ov_i met), (9, ov_i x9), (10, ov_i w24), (11, ov_i v26), (12, ov_i v30)]) (st2 := [ov_r 46, ov_i w24, ov_i v30, ov_r 46]) (pc2 := 167) b_189_159_5 rfl rfl ?_
                refine ov_getf (v := ov_r 70) d_189_167 fl_Ways_18 (zb_46 I11) (zs_46 I11) (congrArg ov_r e13) ?_
                refine ov_getf (v := ov_r 76) d_189_170 fl_Ways_56 (zb_70 I11) (zs_70 I11) (congrArg ov_r (rg_70_7 I11)) ?_
                refine ov_blk (ls2 := [(0, ov_r 46), (1, ov_i c), (2, ov_i s), (3, ov_i n), (4, ov_l bits), (6, ov_l mask), (8, ov_i met), (9, ov_i x9), (10, ov_i w24), (11, ov_i v26), (12, ov_i v30)]) (st2 := [ov_i 0, ov_r 76, ov_i w24, ov_i v30, ov_r 46]) (pc2 := 174) b_189_173_1 rfl rfl ?_
                refine ov_iald d_189_174 (zb_76 I11) (zs_76 I11) (by omega) ?_
                have g32 := ra_76 I11 0
                refine ov_blk (ls2 := [(0, ov_r 46), (1, ov_i c), (2, ov_i s), (3, ov_i n), (4, ov_l bits), (6, ov_l mask), (8, ov_i met), (9, ov_i x9), (10, ov_i w24), (11, ov_i v26), (12, ov_i v30)]) (st2 := [ov_i (w24 + (h10 76 0)), ov_i v30, ov_r 46]) (pc2 := 176) b_189_175_1 rfl rfl ?_
                refine ov_havw (fun w33 gw33 qw33 => ?_)
                refine ov_blk (ls2 := [(0, ov_r 46), (1, ov_i c), (2, ov_i s), (3, ov_i n), (4, ov_l bits), (6, ov_l mask), (8, ov_i met), (9, ov_i x9), (10, ov_i w24), (11, ov_i v26), (12, ov_i v30)]) (st2 := [ov_i (n + 1), ov_i w33, ov_i v30, ov_r 46]) (pc2 := 179) b_189_176_3 rfl rfl ?_
                refine ov_havw (fun w34 gw34 qw34 => ?_)
                refine ov_blk (ls2 := [(0, ov_r 46), (1, ov_i c), (2, ov_i s), (3, ov_i n), (4, ov_l bits), (6, ov_l mask), (8, ov_i met), (9, ov_i x9), (10, ov_i w24), (11, ov_i v26), (12, ov_i v30)]) (st2 := [ov_i (met + v26), ov_l (ov_lor mask (ov_lshl 1 v30)), ov_l (ov_lor bits (ov_lshl (ov_w x9) n)), ov_i w34, ov_i w33, ov_i v30, ov_r 46]) (pc2 := 199) b_189_179_14 rfl rfl ?_
                have g35 := ov_wg x9
                have g36 := ov_wq x9
                refine ov_havw (fun w37 gw37 qw37 => ?_)
                refine ov_cV (as := [ov_i v30, ov_i w33, ov_i w34, ov_l (ov_lor bits (ov_lshl (ov_w x9) n)), ov_l (ov_lor mask (ov_lshl 1 v30)), ov_i w37]) (st := []) (d2 := d - 1) d_189_199 lk_Ways_97 rfl (Nat.le_of_ble_eq_true rfl) (c := 12) (zb_46 I11) (zs_46 I11) ⟨by decide, rfl⟩ (by omega) (HC (k - 1) (by omega) (d - 1) (by omega) U I11 v30 w33 w34 (ov_lor bits (ov_lshl (ov_w x9) n)) (ov_lor mask (ov_lshl 1 v30)) w37 e13 e14 (by omega) (by omega) (by omega) (by omega) (by omega) (by omega) (by omega)) ?_
                rintro _ z39 h40 ⟨rfl, I41, f38⟩
                show ov_R u d ov_m189 202 [(0, ov_r 46), (1, ov_i c), (2, ov_i s), (3, ov_i n), (4, ov_l bits), (6, ov_l mask), (8, ov_i met), (9, ov_i x9), (10, ov_i w24), (11, ov_i v26), (12, ov_i v30)] [] z39 h40 (P_Ways_trace_46_k46_3_70_k46_4_4 F z h c s n bits mask met)
                have f42 : (h40 36 7) = (h10 36 7) ∧ (h40 1 1) = (h10 1 1) ∧ (h40 90 2) = (h10 90 2) ∧ (h40 0 10) = (h10 0 10) ∧ (h40 0 11) = (h10 0 11) ∧ (h40 0 12) = (h10 0 12) ∧ (h40 0 13) = (h10 0 13) ∧ (h40 3 1) = (h10 3 1) ∧ (h40 36 8) = (h10 36 8) ∧ (h40 46 3) = (h10 46 3) ∧ (h40 46 4) = (h10 46 4) ∧ (h40 49 4) = (h10 49 4) ∧ (h40 49 5) = (h10 49 5) ∧ (h40 64 0) = (h10 64 0) ∧ (h40 76 0) = (h10 76 0) := f38
                clear f38
                have e43 : h40 46 3 = 70 := by omega
                have e44 : h40 46 4 = 4 := by omega
                refine ov_blk (ls2 := [(0, ov_r 46), (1, ov_i c), (2, ov_i s), (3, ov_i n), (4, ov_l bits), (6, ov_l mask), (8, ov_i met), (9, ov_i (x9 + 1)), (10, ov_i w24), (11, ov_i v26), (12, ov_i v30)]) (st2 := []) (pc2 := 205) b_189_202_1 rfl rfl ?_
                refine ov_goto (tgt := 90) d_189_205 (by decide) ?_
                refine ov_sub (ls2 := [(0, ov_r 46), (1, ov_i c), (2, ov_i s), (3, ov_i n), (4, ov_l bits), (6, ov_l mask), (8, ov_i met), (9, ov_i (x9 + 1))]) (List.Sublist.subset (by repeat (first | exact List.Sublist.refl _ | apply List.Sublist.cons_cons | apply List.Sublist.cons))) ?_
                exact ih6 (x9 + 1) _ _ I41 (by show 0 ≤ (x9 + 1) ∧ (x9 + 1) ≤ 2 ∧ (h40 36 7) = (h 36 7) ∧ (h40 1 1) = (h 1 1) ∧ (h40 90 2) = (h 90 2) ∧ (h40 0 10) = (h 0 10) ∧ (h40 0 11) = (h 0 11) ∧ (h40 0 12) = (h 0 12) ∧ (h40 0 13) = (h 0 13) ∧ (h40 3 1) = (h 3 1) ∧ (h40 36 8) = (h 36 8) ∧ (h40 46 3) = (h 46 3) ∧ (h40 46 4) = (h 46 4) ∧ (h40 49 4) = (h 49 4) ∧ (h40 49 5) = (h 49 5) ∧ (h40 64 0) = (h 64 0) ∧ (h40 76 0) = (h 76 0) ∧ (h40 46 3) = 70 ∧ (h40 46 4) = 4; omega) (by omega)
    exact L8 3 0 _ _ I (by show 0 ≤ 0 ∧ 0 ≤ 2 ∧ (h 36 7) = (h 36 7) ∧ (h 1 1) = (h 1 1) ∧ (h 90 2) = (h 90 2) ∧ (h 0 10) = (h 0 10) ∧ (h 0 11) = (h 0 11) ∧ (h 0 12) = (h 0 12) ∧ (h 0 13) = (h 0 13) ∧ (h 3 1) = (h 3 1) ∧ (h 36 8) = (h 36 8) ∧ (h 46 3) = (h 46 3) ∧ (h 46 4) = (h 46 4) ∧ (h 49 4) = (h 49 4) ∧ (h 49 5) = (h 49 5) ∧ (h 64 0) = (h 64 0) ∧ (h 76 0) = (h 76 0) ∧ (h 46 3) = 70 ∧ (h 46 4) = 4; omega) (by omega)
  · skip
    refine ov_blk (ls2 := [(0, ov_r 46), (1, ov_i c), (2, ov_i s), (3, ov_i n), (4, ov_l bits), (6, ov_l mask), (8, ov_i met)]) (st2 := [ov_r 46]) (pc2 := 12) b_189_11_1 rfl rfl ?_
    refine ov_getf (v := ov_r 4) d_189_12 fl_Ways_82 (zb_46 I) (zs_46 I) (congrArg ov_r k1) ?_
    refine ov_blk (ls2 := [(0, ov_r 46), (1, ov_i c), (2, ov_i s), (3, ov_i n), (4, ov_l bits), (6, ov_l mask), (8, ov_i met)]) (st2 := [ov_i s, ov_i c, ov_r 4]) (pc2 := 17) b_189_15_2 rfl rfl ?_
    refine ov_ldc (n := 2147483647) d_189_17 kc_Ways_101 ?_
    refine ov_cV (as := [ov_i c, ov_i s, ov_i 2147483647]) (st := []) (d2 := d - 1) d_189_19 lk_Ways_102 rfl (Nat.le_of_ble_eq_true rfl) (c := 7) (zb_4 I) (zs_4 I) ⟨by decide, rfl⟩ (by omega) (c_State_sightingsWithin_4 (d - 1) (by omega) U I c s 2147483647 (by omega) (by omega) (by omega)) ?_
    rintro _ _ _ ⟨v46, rfl, rfl, rfl, f45⟩
    show ov_R u d ov_m189 22 [(0, ov_r 46), (1, ov_i c), (2, ov_i s), (3, ov_i n), (4, ov_l bits), (6, ov_l mask), (8, ov_i met)] [ov_i v46] z h (P_Ways_trace_46_k46_3_70_k46_4_4 F z h c s n bits mask met)
    have f47 : -1 ≤ v46 ∧ v46 ≤ 8 := f45
    clear f45
    refine ov_blk (ls2 := [(0, ov_r 46), (1, ov_i c), (2, ov_i s), (3, ov_i n), (4, ov_l bits), (6, ov_l mask), (8, ov_i met), (9, ov_i v46)]) (st2 := [ov_i (-1), ov_i v46]) (pc2 := 27) b_189_22_3 rfl rfl ?_
    refine ov_iceq (tgt := 86) d_189_27 (by decide) (by omega) (by omega) (fun c48 => ?_) (fun c48 => ?_)
    · skip
      exact ov_retv (st := []) d_189_86 rfl ⟨rfl, I, (by show (h 36 7) = (h 36 7) ∧ (h 1 1) = (h 1 1) ∧ (h 90 2) = (h 90 2) ∧ (h 0 10) = (h 0 10) ∧ (h 0 11) = (h 0 11) ∧ (h 0 12) = (h 0 12) ∧ (h 0 13) = (h 0 13) ∧ (h 3 1) = (h 3 1) ∧ (h 36 8) = (h 36 8) ∧ (h 46 3) = (h 46 3) ∧ (h 46 4) = (h 46 4) ∧ (h 49 4) = (h 49 4) ∧ (h 49 5) = (h 49 5) ∧ (h 64 0) = (h 64 0) ∧ (h 76 0) = (h 76 0); omega)⟩
    · skip
      refine ov_blk (ls2 := [(0, ov_r 46), (1, ov_i c), (2, ov_i s), (3, ov_i n), (4, ov_l bits), (6, ov_l mask), (8, ov_i met), (9, ov_i v46)]) (st2 := [ov_i (met + v46)]) (pc2 := 35) b_189_30_3 rfl rfl ?_
      refine ov_havw (fun w49 gw49 qw49 => ?_)
      refine ov_blk (ls2 := [(0, ov_r 46), (1, ov_i c), (2, ov_i s), (3, ov_i n), (4, ov_l bits), (6, ov_l mask), (8, ov_i met), (9, ov_i v46)]) (st2 := [ov_r 46, ov_i w49]) (pc2 := 36) b_189_35_1 rfl rfl ?_
      refine ov_getf (v := ov_r 4) d_189_36 fl_Ways_82 (zb_46 I) (zs_46 I) (congrArg ov_r k1) ?_
      refine ov_getf (v := ov_i (h 4 5)) d_189_39 fl_Ways_107 (zb_4 I) (zs_4 I) rfl ?_
      have g50 := rg_4_5 I
      refine ov_icne (tgt := 86) d_189_42 (by decide) (by omega) (by omega) (fun c51 => ?_) (fun c51 => ?_)
      · skip
        exact ov_retv (st := []) d_189_86 rfl ⟨rfl, I, (by show (h 36 7) = (h 36 7) ∧ (h 1 1) = (h 1 1) ∧ (h 90 2) = (h 90 2) ∧ (h 0 10) = (h 0 10) ∧ (h 0 11) = (h 0 11) ∧ (h 0 12) = (h 0 12) ∧ (h 0 13) = (h 0 13) ∧ (h 3 1) = (h 3 1) ∧ (h 36 8) = (h 36 8) ∧ (h 46 3) = (h 46 3) ∧ (h 46 4) = (h 46 4) ∧ (h 49 4) = (h 49 4) ∧ (h 49 5) = (h 49 5) ∧ (h 64 0) = (h 64 0) ∧ (h 76 0) = (h 76 0); omega)⟩
      · skip
        refine ov_blk (ls2 := [(0, ov_r 46), (1, ov_i c), (2, ov_i s), (3, ov_i n), (4, ov_l bits), (6, ov_l mask), (8, ov_i met), (9, ov_i v46)]) (st2 := [ov_r 46, ov_r 46]) (pc2 := 47) b_189_45_2 rfl rfl ?_
        refine ov_getf (v := ov_i (h 46 0)) d_189_47 fl_Ways_86 (zb_46 I) (zs_46 I) rfl ?_
        have g52 := rg_46_0 I
        refine ov_ifne (tgt := 58) d_189_50 (by decide) (by omega) (fun c53 => ?_) (fun c53 => ?_)
        · skip
          refine ov_blk (ls2 := [(0, ov_r 46), (1, ov_i c), (2, ov_i s), (3, ov_i n), (4, ov_l bits), (6, ov_l mask), (8, ov_i met), (9, ov_i v46)]) (st2 := [ov_r 46, ov_r 46]) (pc2 := 59) b_189_58_1 rfl rfl ?_
          refine ov_getf (v := ov_l (h 46 1)) d_189_59 fl_Ways_89 (zb_46 I) (zs_46 I) rfl ?_
          refine ov_putf (x := (h 46 1)) d_189_62 fl_Ways_89 (zb_46 I) (zs_46 I) rfl nk_1 rfl ?_
          have I54 := up_46_1 (x := (h 46 1)) I
          refine ov_blk (ls2 := [(0, ov_r 46), (1, ov_i c), (2, ov_i s), (3, ov_i n), (4, ov_l bits), (6, ov_l mask), (8, ov_i met), (9, ov_i v46)]) (st2 := [ov_r 46, ov_r 46]) (pc2 := 67) b_189_65_2 rfl rfl ?_
          refine ov_getf (v := ov_i (h 46 0)) d_189_67 fl_Ways_86 (zb_46 I54) (zs_46 I54) rfl ?_
          refine ov_blk (ls2 := [(0, ov_r 46), (1, ov_i c), (2, ov_i s), (3, ov_i n), (4, ov_l bits), (6, ov_l mask), (8, ov_i met), (9, ov_i v46)]) (st2 := [ov_i ((h 46 0) + 1), ov_r 46]) (pc2 := 72) b_189_70_2 rfl rfl ?_
          refine ov_havw (fun w56 gw56 qw56 => ?_)
          refine ov_putf (x := w56) d_189_72 fl_Ways_86 (zb_46 I54) (zs_46 I54) rfl nk_0 rfl ?_
          have I57 := up_46_0 (x := w56) I54 (by omega)
          refine ov_blk (ls2 := [(0, ov_r 46), (1, ov_i c), (2, ov_i s), (3, ov_i n), (4, ov_l bits), (6, ov_l mask), (8, ov_i met), (9, ov_i v46)]) (st2 := [ov_r 46, ov_r 46]) (pc2 := 77) b_189_75_2 rfl rfl ?_
          refine ov_getf (v := ov_l (h 46 2)) d_189_77 fl_Ways_95 (zb_46 I57) (zs_46 I57) rfl ?_
          refine ov_blk (ls2 := [(0, ov_r 46), (1, ov_i c), (2, ov_i s), (3, ov_i n), (4, ov_l bits), (6, ov_l mask), (8, ov_i met), (9, ov_i v46)]) (st2 := [ov_l (ov_land (h 46 2) mask), ov_r 46]) (pc2 := 83) b_189_80_2 rfl rfl ?_
          refine ov_putf (x := (ov_land (h 46 2) mask)) d_189_83 fl_Ways_95 (zb_46 I57) (zs_46 I57) rfl nk_1 rfl ?_
          have I58 := up_46_2 (x := (ov_land (h 46 2) mask)) I57
          exact ov_retv (st := []) d_189_86 rfl ⟨rfl, I58, (by show (h 36 7) = (h 36 7) ∧ (h 1 1) = (h 1 1) ∧ (h 90 2) = (h 90 2) ∧ (h 0 10) = (h 0 10) ∧ (h 0 11) = (h 0 11) ∧ (h 0 12) = (h 0 12) ∧ (h 0 13) = (h 0 13) ∧ (h 3 1) = (h 3 1) ∧ (h 36 8) = (h 36 8) ∧ (h 46 3) = (h 46 3) ∧ (h 46 4) = (h 46 4) ∧ (h 49 4) = (h 49 4) ∧ (h 49 5) = (h 49 5) ∧ (h 64 0) = (h 64 0) ∧ (h 76 0) = (h 76 0); omega)⟩
        · skip
          refine ov_blk (ls2 := [(0, ov_r 46), (1, ov_i c), (2, ov_i s), (3, ov_i n), (4, ov_l bits), (6, ov_l mask), (8, ov_i met), (9, ov_i v46)]) (st2 := [ov_l bits, ov_r 46]) (pc2 := 55) b_189_53_1 rfl rfl ?_
          refine ov_goto (tgt := 62) d_189_55 (by decide) ?_
          refine ov_putf (x := bits) d_189_62 fl_Ways_89 (zb_46 I) (zs_46 I) rfl nk_1 rfl ?_
          have I59 := up_46_1 (x := bits) I
          refine ov_blk (ls2 := [(0, ov_r 46), (1, ov_i c), (2, ov_i s), (3, ov_i n), (4, ov_l bits), (6, ov_l mask), (8, ov_i met), (9, ov_i v46)]) (st2 := [ov_r 46, ov_r 46]) (pc2 := 67) b_189_65_2 rfl rfl ?_
          refine ov_getf (v := ov_i (h 46 0)) d_189_67 fl_Ways_86 (zb_46 I59) (zs_46 I59) rfl ?_
          refine ov_blk (ls2 := [(0, ov_r 46), (1, ov_i c), (2, ov_i s), (3, ov_i n), (4, ov_l bits), (6, ov_l mask), (8, ov_i met), (9, ov_i v46)]) (st2 := [ov_i ((h 46 0) + 1), ov_r 46]) (pc2 := 72) b_189_70_2 rfl rfl ?_
          refine ov_havw (fun w61 gw61 qw61 => ?_)
          refine ov_putf (x := w61) d_189_72 fl_Ways_86 (zb_46 I59) (zs_46 I59) rfl nk_0 rfl ?_
          have I62 := up_46_0 (x := w61) I59 (by omega)
          refine ov_blk (ls2 := [(0, ov_r 46), (1, ov_i c), (2, ov_i s), (3, ov_i n), (4, ov_l bits), (6, ov_l mask), (8, ov_i met), (9, ov_i v46)]) (st2 := [ov_r 46, ov_r 46]) (pc2 := 77) b_189_75_2 rfl rfl ?_
          refine ov_getf (v := ov_l (h 46 2)) d_189_77 fl_Ways_95 (zb_46 I62) (zs_46 I62) rfl ?_
          refine ov_blk (ls2 := [(0, ov_r 46), (1, ov_i c), (2, ov_i s), (3, ov_i n), (4, ov_l bits), (6, ov_l mask), (8, ov_i met), (9, ov_i v46)]) (st2 := [ov_l (ov_land (h 46 2) mask), ov_r 46]) (pc2 := 83) b_189_80_2 rfl rfl ?_
          refine ov_putf (x := (ov_land (h 46 2) mask)) d_189_83 fl_Ways_95 (zb_46 I62) (zs_46 I62) rfl nk_1 rfl ?_
          have I63 := up_46_2 (x := (ov_land (h 46 2) mask)) I62
          exact ov_retv (st := []) d_189_86 rfl ⟨rfl, I63, (by show (h 36 7) = (h 36 7) ∧ (h 1 1) = (h 1 1) ∧ (h 90 2) = (h 90 2) ∧ (h 0 10) = (h 0 10) ∧ (h 0 11) = (h 0 11) ∧ (h 0 12) = (h 0 12) ∧ (h 0 13) = (h 0 13) ∧ (h 3 1) = (h 3 1) ∧ (h 36 8) = (h 36 8) ∧ (h 46 3) = (h 46 3) ∧ (h 46 4) = (h 46 4) ∧ (h 49 4) = (h 49 4) ∧ (h 49 5) = (h 49 5) ∧ (h 64 0) = (h 64 0) ∧ (h 76 0) = (h 76 0); omega)⟩
theorem c_Ways_trace_46_k46_3_70_k46_4_4_all {u : ov_U} {F : ov_H} (k : Nat) : ∀ {z : ov_Z} {h : ov_H} (d : Nat) (hd : (10 + 1 * k ) ≤ d) (U : ov_cap u) (I : ov_I F z h) (c : Int) (s : Int) (n : Int) (bits : Int) (mask : Int) (met : Int) (k0 : h 46 3 = 70) (k1 : h 46 4 = 4) (g_c : ov_g c) (g_s : ov_g s) (g_n : ov_g n) (g_met : ov_g met) (p0 : 0 ≤ c ∧ c ≤ 53) (p1 : 0 ≤ n ∧ n + (k : Int) = 13) (p2 : F (-5) 70 = 1), ov_T u d ov_m189 [ov_r 46, ov_i c, ov_i s, ov_i n, ov_l bits, ov_l mask, ov_i met] z h (P_Ways_trace_46_k46_3_70_k46_4_4 F z h c s n bits mask met) := by
  induction k using Nat.strongRecOn with
  | ind k ih => exact fun {z} {h} => @c_Ways_trace_46_k46_3_70_k46_4_4 u F k (fun k' hk => @ih k' hk) z h
abbrev P_Ways_fitSightings_46_70_4 (F : ov_H) (z : ov_Z) (h : ov_H)  : Option ov_V → ov_Z → ov_H → Prop := fun r0 z' h' => r0 = none ∧ ov_I F z' h' ∧ ((h' 36 7) = (h 36 7) ∧ (h' 1 1) = (h 1 1) ∧ (h' 90 2) = (h 90 2) ∧ (h' 0 10) = (h 0 10) ∧ (h' 0 11) = (h 0 11) ∧ (h' 0 12) = (h 0 12) ∧ (h' 0 13) = (h 0 13) ∧ (h' 3 1) = (h 3 1) ∧ (h' 36 8) = (h 36 8) ∧ (h' 49 4) = (h 49 4) ∧ (h' 49 5) = (h 49 5) ∧ (h' 64 0) = (h 64 0) ∧ (h' 76 0) = (h 76 0))
set_option maxHeartbeats 4000000 in
theorem c_Ways_fitSightings_46_70_4 {u : ov_U} {F : ov_H} {z : ov_Z} {h : ov_H} (d : Nat) (hd : 30 ≤ d) (U : ov_cap u) (I : ov_I F z h) (p0 : F (-5) 70 = 1) : ov_T u d ov_m188 [ov_r 46, ov_r 70, ov_r 4] z h (P_Ways_fitSightings_46_70_4 F z h) := by
  refine ov_en rfl (Nat.le_of_ble_eq_true rfl) ?_
  show ov_R u d ov_m188 0 [(0, ov_r 46), (1, ov_r 70), (2, ov_r 4)] [] z h (P_Ways_fitSightings_46_70_4 F z h)
  refine ov_blk (ls2 := [(0, ov_r 46), (1, ov_r 70), (2, ov_r 4)]) (st2 := [ov_r 70, ov_r 46]) (pc2 := 2) b_188_0_2 rfl rfl ?_
  refine ov_putf (x := 70) d_188_2 fl_Ways_18 (zb_46 I) (zs_46 I) rfl nk_2 rfl ?_
  have I1 := up_46_3 (x := 70) I (by omega)
  refine ov_blk (ls2 := [(0, ov_r 46), (1, ov_r 70), (2, ov_r 4)]) (st2 := [ov_r 4, ov_r 46]) (pc2 := 7) b_188_5_2 rfl rfl ?_
  refine ov_putf (x := 4) d_188_7 fl_Ways_82 (zb_46 I1) (zs_46 I1) rfl nk_2 rfl ?_
  have I2 := up_46_4 (x := 4) I1 (by omega)
  refine ov_blk (ls2 := [(0, ov_r 46), (1, ov_r 70), (2, ov_r 4)]) (st2 := [ov_i 0, ov_r 46]) (pc2 := 12) b_188_10_2 rfl rfl ?_
  refine ov_putf (x := 0) d_188_12 fl_Ways_86 (zb_46 I2) (zs_46 I2) rfl nk_0 rfl ?_
  have I3 := up_46_0 (x := 0) I2 (by omega)
  refine ov_blk (ls2 := [(0, ov_r 46), (1, ov_r 70), (2, ov_r 4)]) (st2 := [ov_l 0, ov_r 46]) (pc2 := 17) b_188_15_2 rfl rfl ?_
  refine ov_putf (x := 0) d_188_17 fl_Ways_89 (zb_46 I3) (zs_46 I3) rfl nk_1 rfl ?_
  have I4 := up_46_1 (x := 0) I3
  refine ov_blk (ls2 := [(0, ov_r 46), (1, ov_r 70), (2, ov_r 4)]) (st2 := [ov_r 46]) (pc2 := 21) b_188_20_1 rfl rfl ?_
  refine ov_ldc2 (n := (-1)) d_188_21 kc_Ways_93 ?_
  refine ov_putf (x := (-1)) d_188_24 fl_Ways_95 (zb_46 I4) (zs_46 I4) rfl nk_1 rfl ?_
  have I5 := up_46_2 (x := (-1)) I4
  refine ov_blk (ls2 := [(0, ov_r 46), (1, ov_r 70), (2, ov_r 4)]) (st2 := [ov_i 0, ov_l 1, ov_l 0, ov_i 0, ov_i 0, ov_i 0, ov_r 46]) (pc2 := 34) b_188_27_7 rfl rfl ?_
  refine ov_cV (as := [ov_i 0, ov_i 0, ov_i 0, ov_l 0, ov_l 1, ov_i 0]) (st := []) (d2 := d - 1) d_188_34 lk_Ways_97 rfl (Nat.le_of_ble_eq_true rfl) (c := 12) (zb_46 I5) (zs_46 I5) ⟨by decide, rfl⟩ (by omega) (c_Ways_trace_46_k46_3_70_k46_4_4_all 13 (d - 1) (by omega) U I5 0 0 0 0 1 0 rfl rfl (by omega) (by omega) (by omega) (by omega) (by omega) (by omega) (by omega)) ?_
  rintro _ z7 h8 ⟨rfl, I9, f6⟩
  show ov_R u d ov_m188 37 [(0, ov_r 46), (1, ov_r 70), (2, ov_r 4)] [] z7 h8 (P_Ways_fitSightings_46_70_4 F z h)
  have f10 : (h8 36 7) = (h 36 7) ∧ (h8 1 1) = (h 1 1) ∧ (h8 90 2) = (h 90 2) ∧ (h8 0 10) = (h 0 10) ∧ (h8 0 11) = (h 0 11) ∧ (h8 0 12) = (h 0 12) ∧ (h8 0 13) = (h 0 13) ∧ (h8 3 1) = (h 3 1) ∧ (h8 36 8) = (h 36 8) ∧ (h8 46 3) = 70 ∧ (h8 46 4) = 4 ∧ (h8 49 4) = (h 49 4) ∧ (h8 49 5) = (h 49 5) ∧ (h8 64 0) = (h 64 0) ∧ (h8 76 0) = (h 76 0) := f6
  clear f6
  have e11 : h8 46 3 = 70 := by omega
  have e12 : h8 46 4 = 4 := by omega
  exact ov_retv (st := []) d_188_37 rfl ⟨rfl, I9, (by show (h8 36 7) = (h 36 7) ∧ (h8 1 1) = (h 1 1) ∧ (h8 90 2) = (h 90 2) ∧ (h8 0 10) = (h 0 10) ∧ (h8 0 11) = (h 0 11) ∧ (h8 0 12) = (h 0 12) ∧ (h8 0 13) = (h 0 13) ∧ (h8 3 1) = (h 3 1) ∧ (h8 36 8) = (h 36 8) ∧ (h8 49 4) = (h 49 4) ∧ (h8 49 5) = (h 49 5) ∧ (h8 64 0) = (h 64 0) ∧ (h8 76 0) = (h 76 0); omega)⟩
abbrev P_Ways_commonRows_46 (F : ov_H) (z : ov_Z) (h : ov_H) (f : Int) (e : Int) : Option ov_V → ov_Z → ov_H → Prop := fun r0 z' h' => ∃ r : Int, r0 = some (ov_l r) ∧ z = z' ∧ h = h' ∧ (True)
set_option maxHeartbeats 4000000 in
theorem c_Ways_commonRows_46 {u : ov_U} {F : ov_H} {z : ov_Z} {h : ov_H} (d : Nat) (hd : 0 ≤ d) (U : ov_cap u) (I : ov_I F z h) (f : Int) (e : Int) (g_f : ov_g f) (g_e : ov_g e) (p0 : 0 ≤ f ∧ f ≤ 9 ∧ e ≤ 9) : ov_T u d ov_m191 [ov_r 46, ov_i f, ov_i e] z h (P_Ways_commonRows_46 F z h f e) := by
  refine ov_en rfl (Nat.le_of_ble_eq_true rfl) ?_
  show ov_R u d ov_m191 0 [(0, ov_r 46), (1, ov_i f), (2, ov_i e)] [] z h (P_Ways_commonRows_46 F z h f e)
  refine ov_blk (ls2 := [(0, ov_r 46), (1, ov_i f), (2, ov_i e), (3, ov_l 0), (5, ov_i f)]) (st2 := []) (pc2 := 5) b_191_0_4 rfl rfl ?_
  have L4 : ∀ (n1 : Nat) (x3 : Int) (x5 : Int) (q3 : 0 ≤ x5 ∧ x5 ≤ 9), 9 - x5 < (n1 : Int) → ov_R u d ov_m191 5 [(0, ov_r 46), (1, ov_i f), (2, ov_i e), (3, ov_l x3), (5, ov_i x5)] [] z h (P_Ways_commonRows_46 F z h f e) := by
    intro n1
    induction n1 with
    | zero =>
      intro x3 x5 q3 hn5
      exact absurd hn5 (by omega)
    | succ n1 ih2 =>
      intro x3 x5 q3 hn5
      refine ov_blk (ls2 := [(0, ov_r 46), (1, ov_i f), (2, ov_i e), (3, ov_l x3), (5, ov_i x5)]) (st2 := [ov_i e, ov_i x5]) (pc2 := 8) b_191_5_2 rfl rfl ?_
      refine ov_icge (tgt := 46) d_191_8 (by decide) (by omega) (by omega) (fun c6 => ?_) (fun c6 => ?_)
      · skip
        refine ov_blk (ls2 := [(0, ov_r 46), (1, ov_i f), (2, ov_i e), (3, ov_l x3), (5, ov_i x5)]) (st2 := [ov_l x3]) (pc2 := 47) b_191_46_1 rfl rfl ?_
        exact ov_retl (st := []) d_191_47 rfl ⟨_, rfl, rfl, rfl, trivial⟩
      · skip
        refine ov_blk (ls2 := [(0, ov_r 46), (1, ov_i f), (2, ov_i e), (3, ov_l x3), (5, ov_i x5)]) (st2 := [ov_r 46]) (pc2 := 12) b_191_11_1 rfl rfl ?_
        refine ov_getf (v := ov_l (h 46 2)) d_191_12 fl_Ways_95 (zb_46 I) (zs_46 I) rfl ?_
        refine ov_blk (ls2 := [(0, ov_r 46), (1, ov_i f), (2, ov_i e), (3, ov_l x3), (5, ov_i x5)]) (st2 := [ov_l (ov_lshr (h 46 2) (x5 * 6))]) (pc2 := 21) b_191_15_4 rfl rfl ?_
        refine ov_ldc2 (n := 63) d_191_21 kc_Ways_110 ?_
        refine ov_blk (ls2 := [(0, ov_r 46), (1, ov_i f), (2, ov_i e), (3, ov_l (ov_lor x3 (ov_lshl (ov_land (ov_lshr (h 46 2) (x5 * 6)) 63) (8 * (x5 - f))))), (5, ov_i (x5 + 1)), (6, ov_l (ov_land (ov_lshr (h 46 2) (x5 * 6)) 63))]) (st2 := []) (pc2 := 43) b_191_24_13 rfl rfl ?_
        refine ov_goto (tgt := 5) d_191_43 (by decide) ?_
        refine ov_sub (ls2 := [(0, ov_r 46), (1, ov_i f), (2, ov_i e), (3, ov_l (ov_lor x3 (ov_lshl (ov_land (ov_lshr (h 46 2) (x5 * 6)) 63) (8 * (x5 - f))))), (5, ov_i (x5 + 1))]) (List.Sublist.subset (by repeat (first | exact List.Sublist.refl _ | apply List.Sublist.cons_cons | apply List.Sublist.cons))) ?_
        exact ih2 (ov_lor x3 (ov_lshl (ov_land (ov_lshr (h 46 2) (x5 * 6)) 63) (8 * (x5 - f)))) (x5 + 1) (by show 0 ≤ (x5 + 1) ∧ (x5 + 1) ≤ 9; omega) (by omega)
  exact L4 10 0 f (by show 0 ≤ f ∧ f ≤ 9; omega) (by omega)

theorem b_241_0_2 : ov_ds ov_m241.2.1 0 [.iload_n 0, .iload_n 1] = true := by decide +kernel
theorem d_241_2 : decode ov_m241.2.1 2 = .ok (.if_icmp .lt 12, 3) := by decide +kernel
theorem b_241_14_1 : ov_ds ov_m241.2.1 14 [.iconst 0] = true := by decide +kernel
theorem d_241_15 : decode ov_m241.2.1 15 = .ok (.ireturn, 1) := by decide +kernel
theorem b_241_5_2 : ov_ds ov_m241.2.1 5 [.iload_n 0, .iload_n 2] = true := by decide +kernel
theorem d_241_7 : decode ov_m241.2.1 7 = .ok (.if_icmp .gt 7, 3) := by decide +kernel
theorem b_241_10_1 : ov_ds ov_m241.2.1 10 [.iconst 1] = true := by decide +kernel
theorem d_241_11 : decode ov_m241.2.1 11 = .ok (.goto 4, 3) := by decide +kernel
theorem b_207_0_2 : ov_ds ov_m207.2.1 0 [.iload_n 0, .bipush 97] = true := by decide +kernel
theorem d_207_3 : decode ov_m207.2.1 3 = .ok (.if_icmp .lt 13, 3) := by decide +kernel
theorem b_207_16_1 : ov_ds ov_m207.2.1 16 [.iconst 0] = true := by decide +kernel
theorem d_207_17 : decode ov_m207.2.1 17 = .ok (.ireturn, 1) := by decide +kernel
theorem b_207_6_2 : ov_ds ov_m207.2.1 6 [.iload_n 0, .bipush 122] = true := by decide +kernel
theorem d_207_9 : decode ov_m207.2.1 9 = .ok (.if_icmp .gt 7, 3) := by decide +kernel
theorem b_207_12_1 : ov_ds ov_m207.2.1 12 [.iconst 1] = true := by decide +kernel
theorem d_207_13 : decode ov_m207.2.1 13 = .ok (.goto 4, 3) := by decide +kernel
theorem b_209_0_2 : ov_ds ov_m209.2.1 0 [.iload_n 0, .bipush 48] = true := by decide +kernel
theorem d_209_3 : decode ov_m209.2.1 3 = .ok (.if_icmp .lt 13, 3) := by decide +kernel
theorem b_209_16_1 : ov_ds ov_m209.2.1 16 [.iconst 0] = true := by decide +kernel
theorem d_209_17 : decode ov_m209.2.1 17 = .ok (.ireturn, 1) := by decide +kernel
theorem b_209_6_2 : ov_ds ov_m209.2.1 6 [.iload_n 0, .bipush 57] = true := by decide +kernel
theorem d_209_9 : decode ov_m209.2.1 9 = .ok (.if_icmp .gt 7, 3) := by decide +kernel
theorem b_209_12_1 : ov_ds ov_m209.2.1 12 [.iconst 1] = true := by decide +kernel
theorem d_209_13 : decode ov_m209.2.1 13 = .ok (.goto 4, 3) := by decide +kernel
theorem b_208_0_1 : ov_ds ov_m208.2.1 0 [.iload_n 0] = true := by decide +kernel
theorem d_208_1 : decode ov_m208.2.1 1 = .ok (.invokestatic 154, 3) := by decide +kernel
theorem d_208_4 : decode ov_m208.2.1 4 = .ok (.ifCond .eq 10, 3) := by decide +kernel
theorem b_208_14_3 : ov_ds ov_m208.2.1 14 [.iload_n 0, .bipush 21, .isub] = true := by decide +kernel
theorem d_208_18 : decode ov_m208.2.1 18 = .ok (.ireturn, 1) := by decide +kernel
theorem b_208_7_3 : ov_ds ov_m208.2.1 7 [.iload_n 0, .bipush 96, .isub] = true := by decide +kernel
theorem d_208_11 : decode ov_m208.2.1 11 = .ok (.goto 7, 3) := by decide +kernel
theorem b_210_0_2 : ov_ds ov_m210.2.1 0 [.iload_n 0, .bipush 40] = true := by decide +kernel
theorem d_210_3 : decode ov_m210.2.1 3 = .ok (.if_icmp .eq 45, 3) := by decide +kernel
theorem b_210_48_1 : ov_ds ov_m210.2.1 48 [.iconst 1] = true := by decide +kernel
theorem d_210_49 : decode ov_m210.2.1 49 = .ok (.goto 4, 3) := by decide +kernel
theorem d_210_53 : decode ov_m210.2.1 53 = .ok (.ireturn, 1) := by decide +kernel
theorem b_210_6_2 : ov_ds ov_m210.2.1 6 [.iload_n 0, .bipush 41] = true := by decide +kernel
theorem d_210_9 : decode ov_m210.2.1 9 = .ok (.if_icmp .eq 39, 3) := by decide +kernel
theorem b_210_12_2 : ov_ds ov_m210.2.1 12 [.iload_n 0, .bipush 59] = true := by decide +kernel
theorem d_210_15 : decode ov_m210.2.1 15 = .ok (.if_icmp .eq 33, 3) := by decide +kernel
theorem b_210_18_2 : ov_ds ov_m210.2.1 18 [.iload_n 0, .bipush 61] = true := by decide +kernel
theorem d_210_21 : decode ov_m210.2.1 21 = .ok (.if_icmp .eq 27, 3) := by decide +kernel
theorem b_210_24_2 : ov_ds ov_m210.2.1 24 [.iload_n 0, .bipush 60] = true := by decide +kernel
theorem d_210_27 : decode ov_m210.2.1 27 = .ok (.if_icmp .eq 21, 3) := by decide +kernel
theorem b_210_30_2 : ov_ds ov_m210.2.1 30 [.iload_n 0, .bipush 43] = true := by decide +kernel
theorem d_210_33 : decode ov_m210.2.1 33 = .ok (.if_icmp .eq 15, 3) := by decide +kernel
theorem b_210_36_2 : ov_ds ov_m210.2.1 36 [.iload_n 0, .bipush 45] = true := by decide +kernel
theorem d_210_39 : decode ov_m210.2.1 39 = .ok (.if_icmp .eq 9, 3) := by decide +kernel
theorem b_210_42_2 : ov_ds ov_m210.2.1 42 [.iload_n 0, .bipush 42] = true := by decide +kernel
theorem d_210_45 : decode ov_m210.2.1 45 = .ok (.if_icmp .ne 7, 3) := by decide +kernel
theorem b_210_52_1 : ov_ds ov_m210.2.1 52 [.iconst 0] = true := by decide +kernel
theorem b_279_0_1 : ov_ds ov_m279.2.1 0 [.iload_n 0] = true := by decide +kernel
theorem d_279_1 : decode ov_m279.2.1 1 = .ok (.tableswitch 87 4 9 #[39, 43, 47, 51, 62, 73], 39) := by decide +kernel
theorem b_279_40_3 : ov_ds ov_m279.2.1 40 [.iload_n 1, .iload_n 2, .iadd] = true := by decide +kernel
theorem d_279_43 : decode ov_m279.2.1 43 = .ok (.ireturn, 1) := by decide +kernel
theorem b_279_44_3 : ov_ds ov_m279.2.1 44 [.iload_n 1, .iload_n 2, .isub] = true := by decide +kernel
theorem d_279_47 : decode ov_m279.2.1 47 = .ok (.ireturn, 1) := by decide +kernel
theorem b_279_48_3 : ov_ds ov_m279.2.1 48 [.iload_n 1, .iload_n 2, .imul] = true := by decide +kernel
theorem d_279_51 : decode ov_m279.2.1 51 = .ok (.ireturn, 1) := by decide +kernel
theorem b_279_52_2 : ov_ds ov_m279.2.1 52 [.iload_n 1, .iload_n 2] = true := by decide +kernel
theorem d_279_54 : decode ov_m279.2.1 54 = .ok (.if_icmp .ge 7, 3) := by decide +kernel
theorem b_279_61_1 : ov_ds ov_m279.2.1 61 [.iconst 0] = true := by decide +kernel
theorem d_279_62 : decode ov_m279.2.1 62 = .ok (.ireturn, 1) := by decide +kernel
theorem b_279_57_1 : ov_ds ov_m279.2.1 57 [.iconst 1] = true := by decide +kernel
theorem d_279_58 : decode ov_m279.2.1 58 = .ok (.goto 4, 3) := by decide +kernel
theorem b_279_63_2 : ov_ds ov_m279.2.1 63 [.iload_n 1, .iload_n 2] = true := by decide +kernel
theorem d_279_65 : decode ov_m279.2.1 65 = .ok (.if_icmp .ne 7, 3) := by decide +kernel
theorem b_279_72_1 : ov_ds ov_m279.2.1 72 [.iconst 0] = true := by decide +kernel
theorem d_279_73 : decode ov_m279.2.1 73 = .ok (.ireturn, 1) := by decide +kernel
theorem b_279_68_1 : ov_ds ov_m279.2.1 68 [.iconst 1] = true := by decide +kernel
theorem d_279_69 : decode ov_m279.2.1 69 = .ok (.goto 4, 3) := by decide +kernel
theorem b_279_74_1 : ov_ds ov_m279.2.1 74 [.iload_n 1] = true := by decide +kernel
theorem d_279_75 : decode ov_m279.2.1 75 = .ok (.ifCond .eq 11, 3) := by decide +kernel
theorem b_279_86_1 : ov_ds ov_m279.2.1 86 [.iconst 0] = true := by decide +kernel
theorem d_279_87 : decode ov_m279.2.1 87 = .ok (.ireturn, 1) := by decide +kernel
theorem b_279_78_1 : ov_ds ov_m279.2.1 78 [.iload_n 2] = true := by decide +kernel
theorem d_279_79 : decode ov_m279.2.1 79 = .ok (.ifCond .eq 7, 3) := by decide +kernel
theorem b_279_82_1 : ov_ds ov_m279.2.1 82 [.iconst 1] = true := by decide +kernel
theorem d_279_83 : decode ov_m279.2.1 83 = .ok (.goto 4, 3) := by decide +kernel
theorem b_279_88_1 : ov_ds ov_m279.2.1 88 [.iload_n 1] = true := by decide +kernel
theorem d_279_89 : decode ov_m279.2.1 89 = .ok (.ifCond .ne 7, 3) := by decide +kernel
theorem b_279_96_1 : ov_ds ov_m279.2.1 96 [.iconst 1] = true := by decide +kernel
theorem d_279_97 : decode ov_m279.2.1 97 = .ok (.goto 4, 3) := by decide +kernel
theorem d_279_101 : decode ov_m279.2.1 101 = .ok (.ireturn, 1) := by decide +kernel
theorem b_279_92_1 : ov_ds ov_m279.2.1 92 [.iload_n 2] = true := by decide +kernel
theorem d_279_93 : decode ov_m279.2.1 93 = .ok (.ifCond .eq 7, 3) := by decide +kernel
theorem b_279_100_1 : ov_ds ov_m279.2.1 100 [.iconst 0] = true := by decide +kernel
theorem b_300_0_4 : ov_ds ov_m300.2.1 0 [.iconst 0, .istore_n 2, .iconst 0, .istore_n 3] = true := by decide +kernel
theorem b_300_4_2 : ov_ds ov_m300.2.1 4 [.iload_n 3, .bipush 60] = true := by decide +kernel
theorem d_300_7 : decode ov_m300.2.1 7 = .ok (.if_icmp .ge 18, 3) := by decide +kernel
theorem b_300_25_1 : ov_ds ov_m300.2.1 25 [.iload_n 2] = true := by decide +kernel
theorem d_300_26 : decode ov_m300.2.1 26 = .ok (.ireturn, 1) := by decide +kernel
theorem b_300_10_7 : ov_ds ov_m300.2.1 10 [.iload_n 2, .lload_n 0, .iload_n 3, .lshr, .lconst 1, .land, .l2i] = true := by decide +kernel
theorem b_300_17_1 : ov_ds ov_m300.2.1 17 [.iadd] = true := by decide +kernel
theorem b_300_18_2 : ov_ds ov_m300.2.1 18 [.istore_n 2, .iinc 3 1] = true := by decide +kernel
theorem d_300_22 : decode ov_m300.2.1 22 = .ok (.goto (-18), 3) := by decide +kernel
theorem b_298_0_4 : ov_ds ov_m298.2.1 0 [.lconst 0, .lstore_n 3, .iconst 0, .istore 5] = true := by decide +kernel
theorem b_298_5_2 : ov_ds ov_m298.2.1 5 [.iload 5, .iload_n 1] = true := by decide +kernel
theorem d_298_8 : decode ov_m298.2.1 8 = .ok (.if_icmp .ge 24, 3) := by decide +kernel
theorem b_298_32_1 : ov_ds ov_m298.2.1 32 [.lload_n 3] = true := by decide +kernel
theorem d_298_33 : decode ov_m298.2.1 33 = .ok (.lreturn, 1) := by decide +kernel
theorem b_298_11_5 : ov_ds ov_m298.2.1 11 [.lload_n 3, .lconst 1, .iload_n 0, .iload 5, .iadd] = true := by decide +kernel
theorem b_298_17_1 : ov_ds ov_m298.2.1 17 [.iload_n 2] = true := by decide +kernel
theorem d_298_18 : decode ov_m298.2.1 18 = .ok (.irem, 1) := by decide +kernel
theorem b_298_19_2 : ov_ds ov_m298.2.1 19 [.iload_n 2, .iadd] = true := by decide +kernel
theorem b_298_21_1 : ov_ds ov_m298.2.1 21 [.iload_n 2] = true := by decide +kernel
theorem d_298_22 : decode ov_m298.2.1 22 = .ok (.irem, 1) := by decide +kernel
theorem b_298_23_4 : ov_ds ov_m298.2.1 23 [.lshl, .lor, .lstore_n 3, .iinc 5 1] = true := by decide +kernel
theorem d_298_29 : decode ov_m298.2.1 29 = .ok (.goto (-24), 3) := by decide +kernel
theorem b_247_0_2 : ov_ds ov_m247.2.1 0 [.iload_n 1, .iconst 0] = true := by decide +kernel
theorem d_247_2 : decode ov_m247.2.1 2 = .ok (.ldc_w 305, 3) := by decide +kernel
theorem d_247_5 : decode ov_m247.2.1 5 = .ok (.invokestatic 299, 3) := by decide +kernel
theorem d_247_8 : decode ov_m247.2.1 8 = .ok (.ireturn, 1) := by decide +kernel
theorem b_222_0_4 : ov_ds ov_m222.2.1 0 [.iload_n 0, .istore_n 2, .iload_n 1, .istore_n 3] = true := by decide +kernel
theorem b_222_4_1 : ov_ds ov_m222.2.1 4 [.iload_n 3] = true := by decide +kernel
theorem d_222_5 : decode ov_m222.2.1 5 = .ok (.ifCond .eq 16, 3) := by decide +kernel
theorem b_222_21_1 : ov_ds ov_m222.2.1 21 [.iload_n 2] = true := by decide +kernel
theorem d_222_22 : decode ov_m222.2.1 22 = .ok (.ireturn, 1) := by decide +kernel
theorem b_222_8_2 : ov_ds ov_m222.2.1 8 [.iload_n 2, .iload_n 3] = true := by decide +kernel
theorem d_222_10 : decode ov_m222.2.1 10 = .ok (.irem, 1) := by decide +kernel
theorem b_222_11_5 : ov_ds ov_m222.2.1 11 [.istore 4, .iload_n 3, .istore_n 2, .iload 4, .istore_n 3] = true := by decide +kernel
theorem d_222_18 : decode ov_m222.2.1 18 = .ok (.goto (-14), 3) := by decide +kernel
theorem b_236_0_1 : ov_ds ov_m236.2.1 0 [.aload_n 0] = true := by decide +kernel
theorem d_236_1 : decode ov_m236.2.1 1 = .ok (.getfield 81, 3) := by decide +kernel
theorem b_236_4_1 : ov_ds ov_m236.2.1 4 [.iconst 0] = true := by decide +kernel
theorem d_236_5 : decode ov_m236.2.1 5 = .ok (.iaload, 1) := by decide +kernel
theorem d_236_6 : decode ov_m236.2.1 6 = .ok (.ireturn, 1) := by decide +kernel
theorem b_237_0_1 : ov_ds ov_m237.2.1 0 [.aload_n 0] = true := by decide +kernel
theorem d_237_1 : decode ov_m237.2.1 1 = .ok (.getfield 81, 3) := by decide +kernel
theorem b_237_4_1 : ov_ds ov_m237.2.1 4 [.iconst 1] = true := by decide +kernel
theorem d_237_5 : decode ov_m237.2.1 5 = .ok (.iaload, 1) := by decide +kernel
theorem d_237_6 : decode ov_m237.2.1 6 = .ok (.ireturn, 1) := by decide +kernel
theorem b_240_0_1 : ov_ds ov_m240.2.1 0 [.iload_n 1] = true := by decide +kernel
theorem d_240_1 : decode ov_m240.2.1 1 = .ok (.ifCond .lt 27, 3) := by decide +kernel
theorem b_240_28_1 : ov_ds ov_m240.2.1 28 [.iconst 0] = true := by decide +kernel
theorem d_240_29 : decode ov_m240.2.1 29 = .ok (.ireturn, 1) := by decide +kernel
theorem b_240_4_2 : ov_ds ov_m240.2.1 4 [.iload_n 1, .aload_n 0] = true := by decide +kernel
theorem d_240_6 : decode ov_m240.2.1 6 = .ok (.invokevirtual 275, 3) := by decide +kernel
theorem d_240_9 : decode ov_m240.2.1 9 = .ok (.if_icmp .ge 19, 3) := by decide +kernel
theorem b_240_12_1 : ov_ds ov_m240.2.1 12 [.iload_n 2] = true := by decide +kernel
theorem d_240_13 : decode ov_m240.2.1 13 = .ok (.ifCond .lt 15, 3) := by decide +kernel
theorem b_240_16_2 : ov_ds ov_m240.2.1 16 [.iload_n 2, .aload_n 0] = true := by decide +kernel
theorem d_240_18 : decode ov_m240.2.1 18 = .ok (.invokevirtual 279, 3) := by decide +kernel
theorem d_240_21 : decode ov_m240.2.1 21 = .ok (.if_icmp .ge 7, 3) := by decide +kernel
theorem b_240_24_1 : ov_ds ov_m240.2.1 24 [.iconst 1] = true := by decide +kernel
theorem d_240_25 : decode ov_m240.2.1 25 = .ok (.goto 4, 3) := by decide +kernel
theorem b_242_0_1 : ov_ds ov_m242.2.1 0 [.aload_n 0] = true := by decide +kernel
theorem d_242_1 : decode ov_m242.2.1 1 = .ok (.getfield 81, 3) := by decide +kernel
theorem b_242_4_9 : ov_ds ov_m242.2.1 4 [.bipush 10, .iconst 4, .bipush 6, .iload_n 2, .imul, .iload_n 1, .iadd, .imul, .iadd] = true := by decide +kernel
theorem d_242_15 : decode ov_m242.2.1 15 = .ok (.iaload, 1) := by decide +kernel
theorem b_242_16_2 : ov_ds ov_m242.2.1 16 [.iconst 1, .isub] = true := by decide +kernel
theorem d_242_18 : decode ov_m242.2.1 18 = .ok (.ireturn, 1) := by decide +kernel
theorem b_243_0_1 : ov_ds ov_m243.2.1 0 [.aload_n 0] = true := by decide +kernel
theorem d_243_1 : decode ov_m243.2.1 1 = .ok (.getfield 81, 3) := by decide +kernel
theorem b_243_4_11 : ov_ds ov_m243.2.1 4 [.bipush 10, .iconst 4, .bipush 6, .iload_n 2, .imul, .iload_n 1, .iadd, .imul, .iadd, .iload_n 3, .iadd] = true := by decide +kernel
theorem d_243_17 : decode ov_m243.2.1 17 = .ok (.iaload, 1) := by decide +kernel
theorem d_243_18 : decode ov_m243.2.1 18 = .ok (.ireturn, 1) := by decide +kernel
theorem b_238_0_1 : ov_ds ov_m238.2.1 0 [.aload_n 0] = true := by decide +kernel
theorem d_238_1 : decode ov_m238.2.1 1 = .ok (.getfield 81, 3) := by decide +kernel
theorem b_238_4_7 : ov_ds ov_m238.2.1 4 [.sipush 226, .bipush 6, .iload_n 2, .imul, .iadd, .iload_n 1, .iadd] = true := by decide +kernel
theorem d_238_14 : decode ov_m238.2.1 14 = .ok (.iaload, 1) := by decide +kernel
theorem b_238_15_5 : ov_ds ov_m238.2.1 15 [.iload_n 3, .ishr, .iconst 1, .iand, .iconst 1] = true := by decide +kernel
theorem d_238_20 : decode ov_m238.2.1 20 = .ok (.if_icmp .ne 7, 3) := by decide +kernel
theorem b_238_27_1 : ov_ds ov_m238.2.1 27 [.iconst 0] = true := by decide +kernel
theorem d_238_28 : decode ov_m238.2.1 28 = .ok (.ireturn, 1) := by decide +kernel
theorem b_238_23_1 : ov_ds ov_m238.2.1 23 [.iconst 1] = true := by decide +kernel
theorem d_238_24 : decode ov_m238.2.1 24 = .ok (.goto 4, 3) := by decide +kernel
theorem b_235_0_1 : ov_ds ov_m235.2.1 0 [.iload_n 3] = true := by decide +kernel
theorem d_235_1 : decode ov_m235.2.1 1 = .ok (.ifCond .ne 21, 3) := by decide +kernel
theorem b_235_22_2 : ov_ds ov_m235.2.1 22 [.iload_n 2, .aload_n 0] = true := by decide +kernel
theorem d_235_24 : decode ov_m235.2.1 24 = .ok (.invokevirtual 279, 3) := by decide +kernel
theorem b_235_27_2 : ov_ds ov_m235.2.1 27 [.iconst 1, .isub] = true := by decide +kernel
theorem d_235_29 : decode ov_m235.2.1 29 = .ok (.if_icmp .ge 7, 3) := by decide +kernel
theorem b_235_36_1 : ov_ds ov_m235.2.1 36 [.iconst 0] = true := by decide +kernel
theorem d_235_37 : decode ov_m235.2.1 37 = .ok (.ireturn, 1) := by decide +kernel
theorem b_235_32_1 : ov_ds ov_m235.2.1 32 [.iconst 1] = true := by decide +kernel
theorem d_235_33 : decode ov_m235.2.1 33 = .ok (.goto 4, 3) := by decide +kernel
theorem b_235_4_2 : ov_ds ov_m235.2.1 4 [.iload_n 1, .aload_n 0] = true := by decide +kernel
theorem d_235_6 : decode ov_m235.2.1 6 = .ok (.invokevirtual 275, 3) := by decide +kernel
theorem b_235_9_2 : ov_ds ov_m235.2.1 9 [.iconst 1, .isub] = true := by decide +kernel
theorem d_235_11 : decode ov_m235.2.1 11 = .ok (.if_icmp .ge 7, 3) := by decide +kernel
theorem b_235_18_1 : ov_ds ov_m235.2.1 18 [.iconst 0] = true := by decide +kernel
theorem d_235_19 : decode ov_m235.2.1 19 = .ok (.goto 18, 3) := by decide +kernel
theorem b_235_14_1 : ov_ds ov_m235.2.1 14 [.iconst 1] = true := by decide +kernel
theorem d_235_15 : decode ov_m235.2.1 15 = .ok (.goto 22, 3) := by decide +kernel
theorem b_249_0_3 : ov_ds ov_m249.2.1 0 [.aload_n 0, .iload_n 1, .iload_n 2] = true := by decide +kernel
theorem d_249_3 : decode ov_m249.2.1 3 = .ok (.invokevirtual 282, 3) := by decide +kernel
theorem d_249_6 : decode ov_m249.2.1 6 = .ok (.ifCond .eq 13, 3) := by decide +kernel
theorem b_249_19_1 : ov_ds ov_m249.2.1 19 [.iconst 1] = true := by decide +kernel
theorem d_249_20 : decode ov_m249.2.1 20 = .ok (.goto 4, 3) := by decide +kernel
theorem d_249_24 : decode ov_m249.2.1 24 = .ok (.ireturn, 1) := by decide +kernel
theorem b_249_9_3 : ov_ds ov_m249.2.1 9 [.aload_n 0, .iload_n 1, .iload_n 2] = true := by decide +kernel
theorem d_249_12 : decode ov_m249.2.1 12 = .ok (.invokevirtual 282, 3) := by decide +kernel
theorem b_249_15_1 : ov_ds ov_m249.2.1 15 [.iconst 1] = true := by decide +kernel
theorem d_249_16 : decode ov_m249.2.1 16 = .ok (.if_icmp .ne 7, 3) := by decide +kernel
theorem b_249_23_1 : ov_ds ov_m249.2.1 23 [.iconst 0] = true := by decide +kernel
theorem b_248_0_3 : ov_ds ov_m248.2.1 0 [.aload_n 0, .iload_n 1, .iload_n 2] = true := by decide +kernel
theorem d_248_3 : decode ov_m248.2.1 3 = .ok (.invokevirtual 285, 3) := by decide +kernel
theorem d_248_6 : decode ov_m248.2.1 6 = .ok (.ifCond .eq 37, 3) := by decide +kernel
theorem b_248_43_1 : ov_ds ov_m248.2.1 43 [.iconst 1] = true := by decide +kernel
theorem d_248_44 : decode ov_m248.2.1 44 = .ok (.goto 4, 3) := by decide +kernel
theorem b_248_48_5 : ov_ds ov_m248.2.1 48 [.istore 4, .aload_n 0, .iload_n 1, .iload_n 2, .iload_n 3] = true := by decide +kernel
theorem d_248_54 : decode ov_m248.2.1 54 = .ok (.invokevirtual 250, 3) := by decide +kernel
theorem d_248_57 : decode ov_m248.2.1 57 = .ok (.ifCond .eq 22, 3) := by decide +kernel
theorem b_248_79_1 : ov_ds ov_m248.2.1 79 [.iconst 0] = true := by decide +kernel
theorem d_248_80 : decode ov_m248.2.1 80 = .ok (.ireturn, 1) := by decide +kernel
theorem b_248_60_4 : ov_ds ov_m248.2.1 60 [.aload_n 0, .iload_n 1, .iload_n 2, .iload_n 3] = true := by decide +kernel
theorem d_248_64 : decode ov_m248.2.1 64 = .ok (.invokevirtual 254, 3) := by decide +kernel
theorem d_248_67 : decode ov_m248.2.1 67 = .ok (.ifCond .ne 12, 3) := by decide +kernel
theorem b_248_70_1 : ov_ds ov_m248.2.1 70 [.iload 4] = true := by decide +kernel
theorem d_248_72 : decode ov_m248.2.1 72 = .ok (.ifCond .eq 7, 3) := by decide +kernel
theorem b_248_75_1 : ov_ds ov_m248.2.1 75 [.iconst 1] = true := by decide +kernel
theorem d_248_76 : decode ov_m248.2.1 76 = .ok (.goto 4, 3) := by decide +kernel
theorem b_248_9_1 : ov_ds ov_m248.2.1 9 [.iload_n 3] = true := by decide +kernel
theorem d_248_10 : decode ov_m248.2.1 10 = .ok (.ifCond .ne 16, 3) := by decide +kernel
theorem b_248_26_4 : ov_ds ov_m248.2.1 26 [.aload_n 0, .iload_n 1, .iload_n 2, .iconst 3] = true := by decide +kernel
theorem d_248_30 : decode ov_m248.2.1 30 = .ok (.invokevirtual 289, 3) := by decide +kernel
theorem b_248_33_4 : ov_ds ov_m248.2.1 33 [.aload_n 0, .iload_n 1, .iload_n 2, .iconst 1] = true := by decide +kernel
theorem d_248_37 : decode ov_m248.2.1 37 = .ok (.invokevirtual 289, 3) := by decide +kernel
theorem d_248_40 : decode ov_m248.2.1 40 = .ok (.if_icmp .ge 7, 3) := by decide +kernel
theorem b_248_47_6 : ov_ds ov_m248.2.1 47 [.iconst 0, .istore 4, .aload_n 0, .iload_n 1, .iload_n 2, .iload_n 3] = true := by decide +kernel
theorem b_248_13_4 : ov_ds ov_m248.2.1 13 [.aload_n 0, .iload_n 1, .iload_n 2, .iconst 3] = true := by decide +kernel
theorem d_248_17 : decode ov_m248.2.1 17 = .ok (.invokevirtual 289, 3) := by decide +kernel
theorem d_248_20 : decode ov_m248.2.1 20 = .ok (.ifCond .le 27, 3) := by decide +kernel
theorem d_248_23 : decode ov_m248.2.1 23 = .ok (.goto 20, 3) := by decide +kernel
theorem b_263_0_2 : ov_ds ov_m263.2.1 0 [.iload_n 1, .aload_n 0] = true := by decide +kernel
theorem d_263_2 : decode ov_m263.2.1 2 = .ok (.invokevirtual 275, 3) := by decide +kernel
theorem b_263_5_2 : ov_ds ov_m263.2.1 5 [.iconst 1, .isub] = true := by decide +kernel
theorem d_263_7 : decode ov_m263.2.1 7 = .ok (.if_icmp .ne 17, 3) := by decide +kernel
theorem b_263_24_1 : ov_ds ov_m263.2.1 24 [.iconst 0] = true := by decide +kernel
theorem d_263_25 : decode ov_m263.2.1 25 = .ok (.ireturn, 1) := by decide +kernel
theorem b_263_10_2 : ov_ds ov_m263.2.1 10 [.iload_n 2, .aload_n 0] = true := by decide +kernel
theorem d_263_12 : decode ov_m263.2.1 12 = .ok (.invokevirtual 279, 3) := by decide +kernel
theorem b_263_15_2 : ov_ds ov_m263.2.1 15 [.iconst 1, .isub] = true := by decide +kernel
theorem d_263_17 : decode ov_m263.2.1 17 = .ok (.if_icmp .ne 7, 3) := by decide +kernel
theorem b_263_20_1 : ov_ds ov_m263.2.1 20 [.iconst 1] = true := by decide +kernel
theorem d_263_21 : decode ov_m263.2.1 21 = .ok (.goto 4, 3) := by decide +kernel
theorem b_250_0_4 : ov_ds ov_m250.2.1 0 [.aload_n 0, .iload_n 1, .iload_n 2, .iconst 1] = true := by decide +kernel
theorem d_250_4 : decode ov_m250.2.1 4 = .ok (.invokevirtual 289, 3) := by decide +kernel
theorem b_250_7_6 : ov_ds ov_m250.2.1 7 [.istore 5, .iload 4, .aload_n 0, .iload_n 1, .iload_n 2, .iconst 2] = true := by decide +kernel
theorem d_250_15 : decode ov_m250.2.1 15 = .ok (.invokevirtual 289, 3) := by decide +kernel
theorem b_250_18_2 : ov_ds ov_m250.2.1 18 [.isub, .iload 5] = true := by decide +kernel
theorem d_250_21 : decode ov_m250.2.1 21 = .ok (.irem, 1) := by decide +kernel
theorem b_250_22_3 : ov_ds ov_m250.2.1 22 [.iload 5, .iadd, .iload 5] = true := by decide +kernel
theorem d_250_27 : decode ov_m250.2.1 27 = .ok (.irem, 1) := by decide +kernel
theorem b_250_28_6 : ov_ds ov_m250.2.1 28 [.istore 6, .iload 6, .aload_n 0, .iload_n 1, .iload_n 2, .iconst 3] = true := by decide +kernel
theorem d_250_36 : decode ov_m250.2.1 36 = .ok (.invokevirtual 289, 3) := by decide +kernel
theorem d_250_39 : decode ov_m250.2.1 39 = .ok (.if_icmp .ge 7, 3) := by decide +kernel
theorem b_250_46_2 : ov_ds ov_m250.2.1 46 [.iconst 0, .iload_n 3] = true := by decide +kernel
theorem d_250_48 : decode ov_m250.2.1 48 = .ok (.ifCond .ne 7, 3) := by decide +kernel
theorem b_250_55_1 : ov_ds ov_m250.2.1 55 [.iconst 0] = true := by decide +kernel
theorem d_250_56 : decode ov_m250.2.1 56 = .ok (.if_icmp .ne 7, 3) := by decide +kernel
theorem b_250_59_1 : ov_ds ov_m250.2.1 59 [.iconst 1] = true := by decide +kernel
theorem d_250_60 : decode ov_m250.2.1 60 = .ok (.goto 4, 3) := by decide +kernel
theorem d_250_64 : decode ov_m250.2.1 64 = .ok (.ireturn, 1) := by decide +kernel
theorem b_250_51_1 : ov_ds ov_m250.2.1 51 [.iconst 1] = true := by decide +kernel
theorem d_250_52 : decode ov_m250.2.1 52 = .ok (.goto 4, 3) := by decide +kernel
theorem b_250_63_1 : ov_ds ov_m250.2.1 63 [.iconst 0] = true := by decide +kernel
theorem b_250_42_1 : ov_ds ov_m250.2.1 42 [.iconst 1] = true := by decide +kernel
theorem d_250_43 : decode ov_m250.2.1 43 = .ok (.goto 4, 3) := by decide +kernel
theorem b_250_47_1 : ov_ds ov_m250.2.1 47 [.iload_n 3] = true := by decide +kernel
theorem b_252_0_3 : ov_ds ov_m252.2.1 0 [.aload_n 0, .iload_n 1, .iload_n 2] = true := by decide +kernel
theorem d_252_3 : decode ov_m252.2.1 3 = .ok (.invokevirtual 282, 3) := by decide +kernel
theorem b_252_6_1 : ov_ds ov_m252.2.1 6 [.iconst 2] = true := by decide +kernel
theorem d_252_7 : decode ov_m252.2.1 7 = .ok (.if_icmp .ne 19, 3) := by decide +kernel
theorem b_252_26_2 : ov_ds ov_m252.2.1 26 [.iconst 0, .istore 5] = true := by decide +kernel
theorem b_252_29_3 : ov_ds ov_m252.2.1 29 [.aload_n 0, .iload_n 1, .iload_n 2] = true := by decide +kernel
theorem d_252_32 : decode ov_m252.2.1 32 = .ok (.invokevirtual 285, 3) := by decide +kernel
theorem d_252_35 : decode ov_m252.2.1 35 = .ok (.ifCond .eq 24, 3) := by decide +kernel
theorem b_252_59_1 : ov_ds ov_m252.2.1 59 [.iload 5] = true := by decide +kernel
theorem d_252_61 : decode ov_m252.2.1 61 = .ok (.ireturn, 1) := by decide +kernel
theorem b_252_38_7 : ov_ds ov_m252.2.1 38 [.aload_n 0, .iload_n 1, .iload_n 2, .iload_n 3, .iload 4, .iload 5, .iadd] = true := by decide +kernel
theorem d_252_47 : decode ov_m252.2.1 47 = .ok (.invokevirtual 292, 3) := by decide +kernel
theorem d_252_50 : decode ov_m252.2.1 50 = .ok (.ifCond .ne 9, 3) := by decide +kernel
theorem b_252_53_1 : ov_ds ov_m252.2.1 53 [.iinc 5 1] = true := by decide +kernel
theorem d_252_56 : decode ov_m252.2.1 56 = .ok (.goto (-27), 3) := by decide +kernel
theorem b_252_10_1 : ov_ds ov_m252.2.1 10 [.iload_n 3] = true := by decide +kernel
theorem d_252_11 : decode ov_m252.2.1 11 = .ok (.ifCond .ne 13, 3) := by decide +kernel
theorem b_252_24_1 : ov_ds ov_m252.2.1 24 [.iconst 0] = true := by decide +kernel
theorem d_252_25 : decode ov_m252.2.1 25 = .ok (.ireturn, 1) := by decide +kernel
theorem b_252_14_4 : ov_ds ov_m252.2.1 14 [.aload_n 0, .iload_n 1, .iload_n 2, .iconst 2] = true := by decide +kernel
theorem d_252_18 : decode ov_m252.2.1 18 = .ok (.invokevirtual 289, 3) := by decide +kernel
theorem d_252_21 : decode ov_m252.2.1 21 = .ok (.goto 4, 3) := by decide +kernel
abbrev P_Mo_within (F : ov_H × ov_Z) (z : ov_Z) (h : ov_H) (v : Int) (lo : Int) (hi : Int) : Option ov_V → ov_Z → ov_H → Prop := fun r0 z' h' => ∃ r : Int, r0 = some (ov_i r) ∧ z = z' ∧ h = h' ∧ ((r = 0 ∨ r = 1) ∧ (r = 1 → lo ≤ v ∧ v ≤ hi) ∧ (r = 0 → v < lo ∨ hi < v))
set_option maxHeartbeats 4000000 in
theorem c_Mo_within {u : ov_U} {F : ov_H × ov_Z} {z : ov_Z} {h : ov_H} (d : Nat) (hd : 0 ≤ d) (U : ov_cap u) (I : ov_N F z h) (v : Int) (lo : Int) (hi : Int) (g_v : ov_g v) (g_lo : ov_g lo) (g_hi : ov_g hi) : ov_T u d ov_m241 [ov_i v, ov_i lo, ov_i hi] z h (P_Mo_within F z h v lo hi) := by
  refine ov_en rfl (Nat.le_of_ble_eq_true rfl) ?_
  show ov_R u d ov_m241 0 [(0, ov_i v), (1, ov_i lo), (2, ov_i hi)] [] z h (P_Mo_within F z h v lo hi)
  refine ov_blk (ls2 := [(0, ov_i v), (1, ov_i lo), (2, ov_i hi)]) (st2 := [ov_i lo, ov_i v]) (pc2 := 2) b_241_0_2 rfl rfl ?_
  refine ov_iclt (tgt := 14) d_241_2 (by decide) (by omega) (by omega) (fun c1 => ?_) (fun c1 => ?_)
  · skip
    refine ov_blk (ls2 := [(0, ov_i v), (1, ov_i lo), (2, ov_i hi)]) (st2 := [ov_i 0]) (pc2 := 15) b_241_14_1 rfl rfl ?_
    exact ov_retz (st := []) d_241_15 rfl (by omega) ⟨_, rfl, rfl, rfl, (by show (0 = 0 ∨ 0 = 1) ∧ (0 = 1 → lo ≤ v ∧ v ≤ hi) ∧ (0 = 0 → v < lo ∨ hi < v); omega)⟩
  · skip
    refine ov_blk (ls2 := [(0, ov_i v), (1, ov_i lo), (2, ov_i hi)]) (st2 := [ov_i hi, ov_i v]) (pc2 := 7) b_241_5_2 rfl rfl ?_
    refine ov_icgt (tgt := 14) d_241_7 (by decide) (by omega) (by omega) (fun c2 => ?_) (fun c2 => ?_)
    · skip
      refine ov_blk (ls2 := [(0, ov_i v), (1, ov_i lo), (2, ov_i hi)]) (st2 := [ov_i 0]) (pc2 := 15) b_241_14_1 rfl rfl ?_
      exact ov_retz (st := []) d_241_15 rfl (by omega) ⟨_, rfl, rfl, rfl, (by show (0 = 0 ∨ 0 = 1) ∧ (0 = 1 → lo ≤ v ∧ v ≤ hi) ∧ (0 = 0 → v < lo ∨ hi < v); omega)⟩
    · skip
      refine ov_blk (ls2 := [(0, ov_i v), (1, ov_i lo), (2, ov_i hi)]) (st2 := [ov_i 1]) (pc2 := 11) b_241_10_1 rfl rfl ?_
      refine ov_goto (tgt := 15) d_241_11 (by decide) ?_
      exact ov_retz (st := []) d_241_15 rfl (by omega) ⟨_, rfl, rfl, rfl, (by show (1 = 0 ∨ 1 = 1) ∧ (1 = 1 → lo ≤ v ∧ v ≤ hi) ∧ (1 = 0 → v < lo ∨ hi < v); omega)⟩
abbrev P_Mo_isLetter (F : ov_H × ov_Z) (z : ov_Z) (h : ov_H) (c : Int) : Option ov_V → ov_Z → ov_H → Prop := fun r0 z' h' => ∃ r : Int, r0 = some (ov_i r) ∧ z = z' ∧ h = h' ∧ ((r = 0 ∨ r = 1) ∧ (r = 1 → 97 ≤ c ∧ c ≤ 122) ∧ (r = 0 → c < 97 ∨ 122 < c))
set_option maxHeartbeats 4000000 in
theorem c_Mo_isLetter {u : ov_U} {F : ov_H × ov_Z} {z : ov_Z} {h : ov_H} (d : Nat) (hd : 0 ≤ d) (U : ov_cap u) (I : ov_N F z h) (c : Int) (g_c : ov_g c) : ov_T u d ov_m207 [ov_i c] z h (P_Mo_isLetter F z h c) := by
  refine ov_en rfl (Nat.le_of_ble_eq_true rfl) ?_
  show ov_R u d ov_m207 0 [(0, ov_i c)] [] z h (P_Mo_isLetter F z h c)
  refine ov_blk (ls2 := [(0, ov_i c)]) (st2 := [ov_i 97, ov_i c]) (pc2 := 3) b_207_0_2 rfl rfl ?_
  refine ov_iclt (tgt := 16) d_207_3 (by decide) (by omega) (by omega) (fun c1 => ?_) (fun c1 => ?_)
  · skip
    refine ov_blk (ls2 := [(0, ov_i c)]) (st2 := [ov_i 0]) (pc2 := 17) b_207_16_1 rfl rfl ?_
    exact ov_retz (st := []) d_207_17 rfl (by omega) ⟨_, rfl, rfl, rfl, (by show (0 = 0 ∨ 0 = 1) ∧ (0 = 1 → 97 ≤ c ∧ c ≤ 122) ∧ (0 = 0 → c < 97 ∨ 122 < c); omega)⟩
  · skip
    refine ov_blk (ls2 := [(0, ov_i c)]) (st2 := [ov_i 122, ov_i c]) (pc2 := 9) b_207_6_2 rfl rfl ?_
    refine ov_icgt (tgt := 16) d_207_9 (by decide) (by omega) (by omega) (fun c2 => ?_) (fun c2 => ?_)
    · skip
      refine ov_blk (ls2 := [(0, ov_i c)]) (st2 := [ov_i 0]) (pc2 := 17) b_207_16_1 rfl rfl ?_
      exact ov_retz (st := []) d_207_17 rfl (by omega) ⟨_, rfl, rfl, rfl, (by show (0 = 0 ∨ 0 = 1) ∧ (0 = 1 → 97 ≤ c ∧ c ≤ 122) ∧ (0 = 0 → c < 97 ∨ 122 < c); omega)⟩
    · skip
      refine ov_blk (ls2 := [(0, ov_i c)]) (st2 := [ov_i 1]) (pc2 := 13) b_207_12_1 rfl rfl ?_
      refine ov_goto (tgt := 17) d_207_13 (by decide) ?_
      exact ov_retz (st := []) d_207_17 rfl (by omega) ⟨_, rfl, rfl, rfl, (by show (1 = 0 ∨ 1 = 1) ∧ (1 = 1 → 97 ≤ c ∧ c ≤ 122) ∧ (1 = 0 → c < 97 ∨ 122 < c); omega)⟩
abbrev P_Mo_isDigit (F : ov_H × ov_Z) (z : ov_Z) (h : ov_H) (c : Int) : Option ov_V → ov_Z → ov_H → Prop := fun r0 z' h' => ∃ r : Int, r0 = some (ov_i r) ∧ z = z' ∧ h = h' ∧ ((r = 0 ∨ r = 1) ∧ (r = 1 → 48 ≤ c ∧ c ≤ 57) ∧ (r = 0 → c < 48 ∨ 57 < c))
set_option maxHeartbeats 4000000 in
theorem c_Mo_isDigit {u : ov_U} {F : ov_H × ov_Z} {z : ov_Z} {h : ov_H} (d : Nat) (hd : 0 ≤ d) (U : ov_cap u) (I : ov_N F z h) (c : Int) (g_c : ov_g c) : ov_T u d ov_m209 [ov_i c] z h (P_Mo_isDigit F z h c) := by
  refine ov_en rfl (Nat.le_of_ble_eq_true rfl) ?_
  show ov_R u d ov_m209 0 [(0, ov_i c)] [] z h (P_Mo_isDigit F z h c)
  refine ov_blk (ls2 := [(0, ov_i c)]) (st2 := [ov_i 48, ov_i c]) (pc2 := 3) b_209_0_2 rfl rfl ?_
  refine ov_iclt (tgt := 16) d_209_3 (by decide) (by omega) (by omega) (fun c1 => ?_) (fun c1 => ?_)
  · skip
    refine ov_blk (ls2 := [(0, ov_i c)]) (st2 := [ov_i 0]) (pc2 := 17) b_209_16_1 rfl rfl ?_
    exact ov_retz (st := []) d_209_17 rfl (by omega) ⟨_, rfl, rfl, rfl, (by show (0 = 0 ∨ 0 = 1) ∧ (0 = 1 → 48 ≤ c ∧ c ≤ 57) ∧ (0 = 0 → c < 48 ∨ 57 < c); omega)⟩
  · skip
    refine ov_blk (ls2 := [(0, ov_i c)]) (st2 := [ov_i 57, ov_i c]) (pc2 := 9) b_209_6_2 rfl rfl ?_
    refine ov_icgt (tgt := 16) d_209_9 (by decide) (by omega) (by omega) (fun c2 => ?_) (fun c2 => ?_)
    · skip
      refine ov_blk (ls2 := [(0, ov_i c)]) (st2 := [ov_i 0]) (pc2 := 17) b_209_16_1 rfl rfl ?_
      exact ov_retz (st := []) d_209_17 rfl (by omega) ⟨_, rfl, rfl, rfl, (by show (0 = 0 ∨ 0 = 1) ∧ (0 = 1 → 48 ≤ c ∧ c ≤ 57) ∧ (0 = 0 → c < 48 ∨ 57 < c); omega)⟩
    · skip
      refine ov_blk (ls2 := [(0, ov_i c)]) (st2 := [ov_i 1]) (pc2 := 13) b_209_12_1 rfl rfl ?_
      refine ov_goto (tgt := 17) d_209_13 (by decide) ?_
      exact ov_retz (st := []) d_209_17 rfl (by omega) ⟨_, rfl, rfl, rfl, (by show (1 = 0 ∨ 1 = 1) ∧ (1 = 1 → 48 ≤ c ∧ c ≤ 57) ∧ (1 = 0 → c < 48 ∨ 57 < c); omega)⟩
abbrev P_Mo_rank (F : ov_H × ov_Z) (z : ov_Z) (h : ov_H) (c : Int) : Option ov_V → ov_Z → ov_H → Prop := fun r0 z' h' => ∃ r : Int, r0 = some (ov_i r) ∧ z = z' ∧ h = h' ∧ (-2147483648 ≤ r ∧ r ≤ 2147483647)
set_option maxHeartbeats 4000000 in
theorem c_Mo_rank {u : ov_U} {F : ov_H × ov_Z} {z : ov_Z} {h : ov_H} (d : Nat) (hd : 1 ≤ d) (U : ov_cap u) (I : ov_N F z h) (c : Int) (g_c : ov_g c) : ov_T u d ov_m208 [ov_i c] z h (P_Mo_rank F z h c) := by
  refine ov_en rfl (Nat.le_of_ble_eq_true rfl) ?_
  show ov_R u d ov_m208 0 [(0, ov_i c)] [] z h (P_Mo_rank F z h c)
  refine ov_blk (ls2 := [(0, ov_i c)]) (st2 := [ov_i c]) (pc2 := 1) b_208_0_1 rfl rfl ?_
  refine ov_cS (as := [ov_i c]) (st := []) (d2 := d - 1) d_208_1 lk_Mo_154 rfl (Nat.le_of_ble_eq_true rfl) (by omega) (c_Mo_isLetter (d - 1) (by omega) U I c (by omega)) ?_
  rintro _ _ _ ⟨v2, rfl, rfl, rfl, f1⟩
  show ov_R u d ov_m208 4 [(0, ov_i c)] [ov_i v2] z h (P_Mo_rank F z h c)
  have f3 : (v2 = 0 ∨ v2 = 1) ∧ (v2 = 1 → 97 ≤ c ∧ c ≤ 122) ∧ (v2 = 0 → c < 97 ∨ 122 < c) := f1
  clear f1
  refine ov_ifeq (tgt := 14) d_208_4 (by decide) (by omega) (fun c4 => ?_) (fun c4 => ?_)
  · skip
    have f3_ : v2 = 0 := by omega
    have f5 : c < 97 ∨ 122 < c := f3.2.2 (by omega)
    clear f3
    refine ov_blk (ls2 := [(0, ov_i c)]) (st2 := [ov_i (c - 21)]) (pc2 := 18) b_208_14_3 rfl rfl ?_
    refine ov_havw (fun w6 gw6 qw6 => ?_)
    exact ov_reti (st := []) d_208_18 rfl ⟨_, rfl, rfl, rfl, (by show -2147483648 ≤ w6 ∧ w6 ≤ 2147483647; omega)⟩
  · skip
    have f3_ : v2 = 1 := by omega
    have f7 : 97 ≤ c ∧ c ≤ 122 := f3.2.1 (by omega)
    clear f3
    refine ov_blk (ls2 := [(0, ov_i c)]) (st2 := [ov_i (c - 96)]) (pc2 := 11) b_208_7_3 rfl rfl ?_
    refine ov_havw (fun w8 gw8 qw8 => ?_)
    refine ov_goto (tgt := 18) d_208_11 (by decide) ?_
    exact ov_reti (st := []) d_208_18 rfl ⟨_, rfl, rfl, rfl, (by show -2147483648 ≤ w8 ∧ w8 ≤ 2147483647; omega)⟩
abbrev P_Mo_isSignOf (F : ov_H × ov_Z) (z : ov_Z) (h : ov_H) (c : Int) : Option ov_V → ov_Z → ov_H → Prop := fun r0 z' h' => ∃ r : Int, r0 = some (ov_i r) ∧ z = z' ∧ h = h' ∧ ((r = 0 ∨ r = 1))
set_option maxHeartbeats 4000000 in
theorem c_Mo_isSignOf {u : ov_U} {F : ov_H × ov_Z} {z : ov_Z} {h : ov_H} (d : Nat) (hd : 0 ≤ d) (U : ov_cap u) (I : ov_N F z h) (c : Int) (g_c : ov_g c) : ov_T u d ov_m210 [ov_i c] z h (P_Mo_isSignOf F z h c) := by
  refine ov_en rfl (Nat.le_of_ble_eq_true rfl) ?_
  show ov_R u d ov_m210 0 [(0, ov_i c)] [] z h (P_Mo_isSignOf F z h c)
  refine ov_blk (ls2 := [(0, ov_i c)]) (st2 := [ov_i 40, ov_i c]) (pc2 := 3) b_210_0_2 rfl rfl ?_
  refine ov_iceq (tgt := 48) d_210_3 (by decide) (by omega) (by omega) (fun c1 => ?_) (fun c1 => ?_)
  · skip
    refine ov_blk (ls2 := [(0, ov_i c)]) (st2 := [ov_i 1]) (pc2 := 49) b_210_48_1 rfl rfl ?_
    refine ov_goto (tgt := 53) d_210_49 (by decide) ?_
    exact ov_retz (st := []) d_210_53 rfl (by omega) ⟨_, rfl, rfl, rfl, (by show (1 = 0 ∨ 1 = 1); omega)⟩
  · skip
    refine ov_blk (ls2 := [(0, ov_i c)]) (st2 := [ov_i 41, ov_i c]) (pc2 := 9) b_210_6_2 rfl rfl ?_
    refine ov_iceq (tgt := 48) d_210_9 (by decide) (by omega) (by omega) (fun c2 => ?_) (fun c2 => ?_)
    · skip
      refine ov_blk (ls2 := [(0, ov_i c)]) (st2 := [ov_i 1]) (pc2 := 49) b_210_48_1 rfl rfl ?_
      refine ov_goto (tgt := 53) d_210_49 (by decide) ?_
      exact ov_retz (st := []) d_210_53 rfl (by omega) ⟨_, rfl, rfl, rfl, (by show (1 = 0 ∨ 1 = 1); omega)⟩
    · skip
      refine ov_blk (ls2 := [(0, ov_i c)]) (st2 := [ov_i 59, ov_i c]) (pc2 := 15) b_210_12_2 rfl rfl ?_
      refine ov_iceq (tgt := 48) d_210_15 (by decide) (by omega) (by omega) (fun c3 => ?_) (fun c3 => ?_)
      · skip
        refine ov_blk (ls2 := [(0, ov_i c)]) (st2 := [ov_i 1]) (pc2 := 49) b_210_48_1 rfl rfl ?_
        refine ov_goto (tgt := 53) d_210_49 (by decide) ?_
        exact ov_retz (st := []) d_210_53 rfl (by omega) ⟨_, rfl, rfl, rfl, (by show (1 = 0 ∨ 1 = 1); omega)⟩
      · skip
        refine ov_blk (ls2 := [(0, ov_i c)]) (st2 := [ov_i 61, ov_i c]) (pc2 := 21) b_210_18_2 rfl rfl ?_
        refine ov_iceq (tgt := 48) d_210_21 (by decide) (by omega) (by omega) (fun c4 => ?_) (fun c4 => ?_)
        · skip
          refine ov_blk (ls2 := [(0, ov_i c)]) (st2 := [ov_i 1]) (pc2 := 49) b_210_48_1 rfl rfl ?_
          refine ov_goto (tgt := 53) d_210_49 (by decide) ?_
          exact ov_retz (st := []) d_210_53 rfl (by omega) ⟨_, rfl, rfl, rfl, (by show (1 = 0 ∨ 1 = 1); omega)⟩
        · skip
          refine ov_blk (ls2 := [(0, ov_i c)]) (st2 := [ov_i 60, ov_i c]) (pc2 := 27) b_210_24_2 rfl rfl ?_
          refine ov_iceq (tgt := 48) d_210_27 (by decide) (by omega) (by omega) (fun c5 => ?_) (fun c5 => ?_)
          · skip
            refine ov_blk (ls2 := [(0, ov_i c)]) (st2 := [ov_i 1]) (pc2 := 49) b_210_48_1 rfl rfl ?_
            refine ov_goto (tgt := 53) d_210_49 (by decide) ?_
            exact ov_retz (st := []) d_210_53 rfl (by omega) ⟨_, rfl, rfl, rfl, (by show (1 = 0 ∨ 1 = 1); omega)⟩
          · skip
            refine ov_blk (ls2 := [(0, ov_i c)]) (st2 := [ov_i 43, ov_i c]) (pc2 := 33) b_210_30_2 rfl rfl ?_
            refine ov_iceq (tgt := 48) d_210_33 (by decide) (by omega) (by omega) (fun c6 => ?_) (fun c6 => ?_)
            · skip
              refine ov_blk (ls2 := [(0, ov_i c)]) (st2 := [ov_i 1]) (pc2 := 49) b_210_48_1 rfl rfl ?_
              refine ov_goto (tgt := 53) d_210_49 (by decide) ?_
              exact ov_retz (st := []) d_210_53 rfl (by omega) ⟨_, rfl, rfl, rfl, (by show (1 = 0 ∨ 1 = 1); omega)⟩
            · skip
              refine ov_blk (ls2 := [(0, ov_i c)]) (st2 := [ov_i 45, ov_i c]) (pc2 := 39) b_210_36_2 rfl rfl ?_
              refine ov_iceq (tgt := 48) d_210_39 (by decide) (by omega) (by omega) (fun c7 => ?_) (fun c7 => ?_)
              · skip
                refine ov_blk (ls2 := [(0, ov_i c)]) (st2 := [ov_i 1]) (pc2 := 49) b_210_48_1 rfl rfl ?_
                refine ov_goto (tgt := 53) d_210_49 (by decide) ?_
                exact ov_retz (st := []) d_210_53 rfl (by omega) ⟨_, rfl, rfl, rfl, (by show (1 = 0 ∨ 1 = 1); omega)⟩
              · skip
                refine ov_blk (ls2 := [(0, ov_i c)]) (st2 := [ov_i 42, ov_i c]) (pc2 := 45) b_210_42_2 rfl rfl ?_
                refine ov_icne (tgt := 52) d_210_45 (by decide) (by omega) (by omega) (fun c8 => ?_) (fun c8 => ?_)
                · skip
                  refine ov_blk (ls2 := [(0, ov_i c)]) (st2 := [ov_i 0]) (pc2 := 53) b_210_52_1 rfl rfl ?_
                  exact ov_retz (st := []) d_210_53 rfl (by omega) ⟨_, rfl, rfl, rfl, (by show (0 = 0 ∨ 0 = 1); omega)⟩
                · skip
                  refine ov_blk (ls2 := [(0, ov_i c)]) (st2 := [ov_i 1]) (pc2 := 49) b_210_48_1 rfl rfl ?_
                  refine ov_goto (tgt := 53) d_210_49 (by decide) ?_
                  exact ov_retz (st := []) d_210_53 rfl (by omega) ⟨_, rfl, rfl, rfl, (by show (1 = 0 ∨ 1 = 1); omega)⟩
abbrev P_Mo_both (F : ov_H × ov_Z) (z : ov_Z) (h : ov_H) (c : Int) (a : Int) (b : Int) : Option ov_V → ov_Z → ov_H → Prop := fun r0 z' h' => ∃ r : Int, r0 = some (ov_i r) ∧ z = z' ∧ h = h' ∧ (-2147483648 ≤ r ∧ r ≤ 2147483647)
set_option maxHeartbeats 4000000 in
theorem c_Mo_both {u : ov_U} {F : ov_H × ov_Z} {z : ov_Z} {h : ov_H} (d : Nat) (hd : 0 ≤ d) (U : ov_cap u) (I : ov_N F z h) (c : Int) (a : Int) (b : Int) (g_c : ov_g c) (g_a : ov_g a) (g_b : ov_g b) : ov_T u d ov_m279 [ov_i c, ov_i a, ov_i b] z h (P_Mo_both F z h c a b) := by
  refine ov_en rfl (Nat.le_of_ble_eq_true rfl) ?_
  show ov_R u d ov_m279 0 [(0, ov_i c), (1, ov_i a), (2, ov_i b)] [] z h (P_Mo_both F z h c a b)
  refine ov_blk (ls2 := [(0, ov_i c), (1, ov_i a), (2, ov_i b)]) (st2 := [ov_i c]) (pc2 := 1) b_279_0_1 rfl rfl ?_
  by_cases q1 : c = 4
  · refine ov_tin (off := 39) (tgt := 40) d_279_1 (by omega) (by omega) (by rw [q1]; rfl) (by decide) ?_
    refine ov_blk (ls2 := [(0, ov_i c), (1, ov_i a), (2, ov_i b)]) (st2 := [ov_i (a + b)]) (pc2 := 43) b_279_40_3 rfl rfl ?_
    refine ov_havw (fun w2 gw2 qw2 => ?_)
    exact ov_reti (st := []) d_279_43 rfl ⟨_, rfl, rfl, rfl, (by show -2147483648 ≤ w2 ∧ w2 ≤ 2147483647; omega)⟩
  by_cases q3 : c = 5
  · refine ov_tin (off := 43) (tgt := 44) d_279_1 (by omega) (by omega) (by rw [q3]; rfl) (by decide) ?_
    refine ov_blk (ls2 := [(0, ov_i c), (1, ov_i a), (2, ov_i b)]) (st2 := [ov_i (a - b)]) (pc2 := 47) b_279_44_3 rfl rfl ?_
    refine ov_havw (fun w4 gw4 qw4 => ?_)
    exact ov_reti (st := []) d_279_47 rfl ⟨_, rfl, rfl, rfl, (by show -2147483648 ≤ w4 ∧ w4 ≤ 2147483647; omega)⟩
  by_cases q5 : c = 6
  · refine ov_tin (off := 47) (tgt := 48) d_279_1 (by omega) (by omega) (by rw [q5]; rfl) (by decide) ?_
    refine ov_blk (ls2 := [(0, ov_i c), (1, ov_i a), (2, ov_i b)]) (st2 := [ov_i (a * b)]) (pc2 := 51) b_279_48_3 rfl rfl ?_
    refine ov_havw (fun w6 gw6 qw6 => ?_)
    exact ov_reti (st := []) d_279_51 rfl ⟨_, rfl, rfl, rfl, (by show -2147483648 ≤ w6 ∧ w6 ≤ 2147483647; omega)⟩
  by_cases q7 : c = 7
  · refine ov_tin (off := 51) (tgt := 52) d_279_1 (by omega) (by omega) (by rw [q7]; rfl) (by decide) ?_
    refine ov_blk (ls2 := [(0, ov_i c), (1, ov_i a), (2, ov_i b)]) (st2 := [ov_i b, ov_i a]) (pc2 := 54) b_279_52_2 rfl rfl ?_
    refine ov_icge (tgt := 61) d_279_54 (by decide) (by omega) (by omega) (fun c8 => ?_) (fun c8 => ?_)
    · skip
      refine ov_blk (ls2 := [(0, ov_i c), (1, ov_i a), (2, ov_i b)]) (st2 := [ov_i 0]) (pc2 := 62) b_279_61_1 rfl rfl ?_
      exact ov_reti (st := []) d_279_62 rfl ⟨_, rfl, rfl, rfl, (by show -2147483648 ≤ 0 ∧ 0 ≤ 2147483647; omega)⟩
    · skip
      refine ov_blk (ls2 := [(0, ov_i c), (1, ov_i a), (2, ov_i b)]) (st2 := [ov_i 1]) (pc2 := 58) b_279_57_1 rfl rfl ?_
      refine ov_goto (tgt := 62) d_279_58 (by decide) ?_
      exact ov_reti (st := []) d_279_62 rfl ⟨_, rfl, rfl, rfl, (by show -2147483648 ≤ 1 ∧ 1 ≤ 2147483647; omega)⟩
  by_cases q9 : c = 8
  · refine ov_tin (off := 62) (tgt := 63) d_279_1 (by omega) (by omega) (by rw [q9]; rfl) (by decide) ?_
    refine ov_blk (ls2 := [(0, ov_i c), (1, ov_i a), (2, ov_i b)]) (st2 := [ov_i b, ov_i a]) (pc2 := 65) b_279_63_2 rfl rfl ?_
    refine ov_icne (tgt := 72) d_279_65 (by decide) (by omega) (by omega) (fun c10 => ?_) (fun c10 => ?_)
    · skip
      refine ov_blk (ls2 := [(0, ov_i c), (1, ov_i a), (2, ov_i b)]) (st2 := [ov_i 0]) (pc2 := 73) b_279_72_1 rfl rfl ?_
      exact ov_reti (st := []) d_279_73 rfl ⟨_, rfl, rfl, rfl, (by show -2147483648 ≤ 0 ∧ 0 ≤ 2147483647; omega)⟩
    · skip
      refine ov_blk (ls2 := [(0, ov_i c), (1, ov_i a), (2, ov_i b)]) (st2 := [ov_i 1]) (pc2 := 69) b_279_68_1 rfl rfl ?_
      refine ov_goto (tgt := 73) d_279_69 (by decide) ?_
      exact ov_reti (st := []) d_279_73 rfl ⟨_, rfl, rfl, rfl, (by show -2147483648 ≤ 1 ∧ 1 ≤ 2147483647; omega)⟩
  by_cases q11 : c = 9
  · refine ov_tin (off := 73) (tgt := 74) d_279_1 (by omega) (by omega) (by rw [q11]; rfl) (by decide) ?_
    refine ov_blk (ls2 := [(0, ov_i c), (1, ov_i a), (2, ov_i b)]) (st2 := [ov_i a]) (pc2 := 75) b_279_74_1 rfl rfl ?_
    refine ov_ifeq (tgt := 86) d_279_75 (by decide) (by omega) (fun c12 => ?_) (fun c12 => ?_)
    · skip
      refine ov_blk (ls2 := [(0, ov_i c), (1, ov_i a), (2, ov_i b)]) (st2 := [ov_i 0]) (pc2 := 87) b_279_86_1 rfl rfl ?_
      exact ov_reti (st := []) d_279_87 rfl ⟨_, rfl, rfl, rfl, (by show -2147483648 ≤ 0 ∧ 0 ≤ 2147483647; omega)⟩
    · skip
      refine ov_blk (ls2 := [(0, ov_i c), (1, ov_i a), (2, ov_i b)]) (st2 := [ov_i b]) (pc2 := 79) b_279_78_1 rfl rfl ?_
      refine ov_ifeq (tgt := 86) d_279_79 (by decide) (by omega) (fun c13 => ?_) (fun c13 => ?_)
      · skip
        refine ov_blk (ls2 := [(0, ov_i c), (1, ov_i a), (2, ov_i b)]) (st2 := [ov_i 0]) (pc2 := 87) b_279_86_1 rfl rfl ?_
        exact ov_reti (st := []) d_279_87 rfl ⟨_, rfl, rfl, rfl, (by show -2147483648 ≤ 0 ∧ 0 ≤ 2147483647; omega)⟩
      · skip
        refine ov_blk (ls2 := [(0, ov_i c), (1, ov_i a), (2, ov_i b)]) (st2 := [ov_i 1]) (pc2 := 83) b_279_82_1 rfl rfl ?_
        refine ov_goto (tgt := 87) d_279_83 (by decide) ?_
        exact ov_reti (st := []) d_279_87 rfl ⟨_, rfl, rfl, rfl, (by show -2147483648 ≤ 1 ∧ 1 ≤ 2147483647; omega)⟩
  refine ov_tout (tgt := 88) d_279_1 (by omega) (by omega) (by decide) ?_
  refine ov_blk (ls2 := [(0, ov_i c), (1, ov_i a), (2, ov_i b)]) (st2 := [ov_i a]) (pc2 := 89) b_279_88_1 rfl rfl ?_
  refine ov_ifne (tgt := 96) d_279_89 (by decide) (by omega) (fun c14 => ?_) (fun c14 => ?_)
  · skip
    refine ov_blk (ls2 := [(0, ov_i c), (1, ov_i a), (2, ov_i b)]) (st2 := [ov_i 1]) (pc2 := 97) b_279_96_1 rfl rfl ?_
    refine ov_goto (tgt := 101) d_279_97 (by decide) ?_
    exact ov_reti (st := []) d_279_101 rfl ⟨_, rfl, rfl, rfl, (by show -2147483648 ≤ 1 ∧ 1 ≤ 2147483647; omega)⟩
  · skip
    refine ov_blk (ls2 := [(0, ov_i c), (1, ov_i a), (2, ov_i b)]) (st2 := [ov_i b]) (pc2 := 93) b_279_92_1 rfl rfl ?_
    refine ov_ifeq (tgt := 100) d_279_93 (by decide) (by omega) (fun c15 => ?_) (fun c15 => ?_)
    · skip
      refine ov_blk (ls2 := [(0, ov_i c), (1, ov_i a), (2, ov_i b)]) (st2 := [ov_i 0]) (pc2 := 101) b_279_100_1 rfl rfl ?_
      exact ov_reti (st := []) d_279_101 rfl ⟨_, rfl, rfl, rfl, (by show -2147483648 ≤ 0 ∧ 0 ≤ 2147483647; omega)⟩
    · skip
      refine ov_blk (ls2 := [(0, ov_i c), (1, ov_i a), (2, ov_i b)]) (st2 := [ov_i 1]) (pc2 := 97) b_279_96_1 rfl rfl ?_
      refine ov_goto (tgt := 101) d_279_97 (by decide) ?_
      exact ov_reti (st := []) d_279_101 rfl ⟨_, rfl, rfl, rfl, (by show -2147483648 ≤ 1 ∧ 1 ≤ 2147483647; omega)⟩
abbrev P_Mo_ones (F : ov_H × ov_Z) (z : ov_Z) (h : ov_H) (w : Int) : Option ov_V → ov_Z → ov_H → Prop := fun r0 z' h' => ∃ r : Int, r0 = some (ov_i r) ∧ z = z' ∧ h = h' ∧ (-2147483648 ≤ r ∧ r ≤ 2147483647)
set_option maxHeartbeats 4000000 in
theorem c_Mo_ones {u : ov_U} {F : ov_H × ov_Z} {z : ov_Z} {h : ov_H} (d : Nat) (hd : 0 ≤ d) (U : ov_cap u) (I : ov_N F z h) (w : Int) : ov_T u d ov_m300 [ov_l w] z h (P_Mo_ones F z h w) := by
  refine ov_en rfl (Nat.le_of_ble_eq_true rfl) ?_
  show ov_R u d ov_m300 0 [(0, ov_l w)] [] z h (P_Mo_ones F z h w)
  refine ov_blk (ls2 := [(0, ov_l w), (2, ov_i 0), (3, ov_i 0)]) (st2 := []) (pc2 := 4) b_300_0_4 rfl rfl ?_
  have L4 : ∀ (n1 : Nat) (x2 : Int) (x3 : Int) (q3 : ov_g x2 ∧ 0 ≤ x3 ∧ x3 ≤ 60), 60 - x3 < (n1 : Int) → ov_R u d ov_m300 4 [(0, ov_l w), (2, ov_i x2), (3, ov_i x3)] [] z h (P_Mo_ones F z h w) := by
    intro n1
    induction n1 with
    | zero =>
      intro x2 x3 q3 hn5
      exact absurd hn5 (by omega)
    | succ n1 ih2 =>
      intro x2 x3 q3 hn5
      refine ov_blk (ls2 := [(0, ov_l w), (2, ov_i x2), (3, ov_i x3)]) (st2 := [ov_i 60, ov_i x3]) (pc2 := 7) b_300_4_2 rfl rfl ?_
      refine ov_icge (tgt := 25) d_300_7 (by decide) (by omega) (by omega) (fun c6 => ?_) (fun c6 => ?_)
      · skip
        refine ov_blk (ls2 := [(0, ov_l w), (2, ov_i x2), (3, ov_i x3)]) (st2 := [ov_i x2]) (pc2 := 26) b_300_25_1 rfl rfl ?_
        exact ov_reti (st := []) d_300_26 rfl ⟨_, rfl, rfl, rfl, (by show -2147483648 ≤ x2 ∧ x2 ≤ 2147483647; omega)⟩
      · skip
        refine ov_blk (ls2 := [(0, ov_l w), (2, ov_i x2), (3, ov_i x3)]) (st2 := [ov_i (ov_land (ov_lshr w x3) 1), ov_i x2]) (pc2 := 17) b_300_10_7 rfl rfl ?_
        refine ov_havw (fun w7 gw7 qw7 => ?_)
        refine ov_blk (ls2 := [(0, ov_l w), (2, ov_i x2), (3, ov_i x3)]) (st2 := [ov_i (x2 + w7)]) (pc2 := 18) b_300_17_1 rfl rfl ?_
        refine ov_havw (fun w8 gw8 qw8 => ?_)
        refine ov_blk (ls2 := [(0, ov_l w), (2, ov_i w8), (3, ov_i (x3 + 1))]) (st2 := []) (pc2 := 22) b_300_18_2 rfl rfl ?_
        refine ov_goto (tgt := 4) d_300_22 (by decide) ?_
        exact ih2 w8 (x3 + 1) (by show ov_g w8 ∧ 0 ≤ (x3 + 1) ∧ (x3 + 1) ≤ 60; omega) (by omega)
  exact L4 61 0 0 (by show ov_g 0 ∧ 0 ≤ 0 ∧ 0 ≤ 60; omega) (by omega)
abbrev P_Mo_turned (F : ov_H × ov_Z) (z : ov_Z) (h : ov_H) (f : Int) (m : Int) (rd : Int) : Option ov_V → ov_Z → ov_H → Prop := fun r0 z' h' => ∃ r : Int, r0 = some (ov_l r) ∧ z = z' ∧ h = h' ∧ (True)
set_option maxHeartbeats 4000000 in
theorem c_Mo_turned {u : ov_U} {F : ov_H × ov_Z} {z : ov_Z} {h : ov_H} (d : Nat) (hd : 0 ≤ d) (U : ov_cap u) (I : ov_N F z h) (f : Int) (m : Int) (rd : Int) (g_f : ov_g f) (g_m : ov_g m) (g_rd : ov_g rd) (p0 : 1 ≤ rd ∧ rd ≤ 60) (p1 : m ≤ 60) : ov_T u d ov_m298 [ov_i f, ov_i m, ov_i rd] z h (P_Mo_turned F z h f m rd) := by
  refine ov_en rfl (Nat.le_of_ble_eq_true rfl) ?_
  show ov_R u d ov_m298 0 [(0, ov_i f), (1, ov_i m), (2, ov_i rd)] [] z h (P_Mo_turned F z h f m rd)
  refine ov_blk (ls2 := [(0, ov_i f), (1, ov_i m), (2, ov_i rd), (3, ov_l 0), (5, ov_i 0)]) (st2 := []) (pc2 := 5) b_298_0_4 rfl rfl ?_
  have L4 : ∀ (n1 : Nat) (x3 : Int) (x5 : Int) (q3 : 0 ≤ x5 ∧ x5 ≤ 60), 60 - x5 < (n1 : Int) → ov_R u d ov_m298 5 [(0, ov_i f), (1, ov_i m), (2, ov_i rd), (3, ov_l x3), (5, ov_i x5)] [] z h (P_Mo_turned F z h f m rd) := by
    intro n1
    induction n1 with
    | zero =>
      intro x3 x5 q3 hn5
      exact absurd hn5 (by omega)
    | succ n1 ih2 =>
      intro x3 x5 q3 hn5
      refine ov_blk (ls2 := [(0, ov_i f), (1, ov_i m), (2, ov_i rd), (3, ov_l x3), (5, ov_i x5)]) (st2 := [ov_i m, ov_i x5]) (pc2 := 8) b_298_5_2 rfl rfl ?_
      refine ov_icge (tgt := 32) d_298_8 (by decide) (by omega) (by omega) (fun c6 => ?_) (fun c6 => ?_)
      · skip
        refine ov_blk (ls2 := [(0, ov_i f), (1, ov_i m), (2, ov_i rd), (3, ov_l x3), (5, ov_i x5)]) (st2 := [ov_l x3]) (pc2 := 33) b_298_32_1 rfl rfl ?_
        exact ov_retl (st := []) d_298_33 rfl ⟨_, rfl, rfl, rfl, trivial⟩
      · skip
        refine ov_blk (ls2 := [(0, ov_i f), (1, ov_i m), (2, ov_i rd), (3, ov_l x3), (5, ov_i x5)]) (st2 := [ov_i (f + x5), ov_l 1, ov_l x3]) (pc2 := 17) b_298_11_5 rfl rfl ?_
        refine ov_havw (fun w7 gw7 qw7 => ?_)
        refine ov_blk (ls2 := [(0, ov_i f), (1, ov_i m), (2, ov_i rd), (3, ov_l x3), (5, ov_i x5)]) (st2 := [ov_i rd, ov_i w7, ov_l 1, ov_l x3]) (pc2 := 18) b_298_17_1 rfl rfl ?_
        refine ov_irem d_298_18 (by omega) (by omega) (by omega) ?_
        have g8 := ov_tmg (a := w7) (b := rd) (by omega) (by omega)
        refine ov_blk (ls2 := [(0, ov_i f), (1, ov_i m), (2, ov_i rd), (3, ov_l x3), (5, ov_i x5)]) (st2 := [ov_i ((Int.tmod w7 rd) + rd), ov_l 1, ov_l x3]) (pc2 := 21) b_298_19_2 rfl rfl ?_
        refine ov_havw (fun w9 gw9 qw9 => ?_)
        refine ov_blk (ls2 := [(0, ov_i f), (1, ov_i m), (2, ov_i rd), (3, ov_l x3), (5, ov_i x5)]) (st2 := [ov_i rd, ov_i w9, ov_l 1, ov_l x3]) (pc2 := 22) b_298_21_1 rfl rfl ?_
        refine ov_irem d_298_22 (by omega) (by omega) (by omega) ?_
        have g10 := ov_tmg (a := w9) (b := rd) (by omega) (by omega)
        refine ov_blk (ls2 := [(0, ov_i f), (1, ov_i m), (2, ov_i rd), (3, ov_l (ov_lor x3 (ov_lshl 1 (Int.tmod w9 rd)))), (5, ov_i (x5 + 1))]) (st2 := []) (pc2 := 29) b_298_23_4 rfl rfl ?_
        refine ov_goto (tgt := 5) d_298_29 (by decide) ?_
        exact ih2 (ov_lor x3 (ov_lshl 1 (Int.tmod w9 rd))) (x5 + 1) (by show 0 ≤ (x5 + 1) ∧ (x5 + 1) ≤ 60; omega) (by omega)
  exact L4 61 0 0 (by show 0 ≤ 0 ∧ 0 ≤ 60; omega) (by omega)
abbrev P_Mo_isSecond_90 (F : ov_H × ov_Z) (z : ov_Z) (h : ov_H) (s : Int) : Option ov_V → ov_Z → ov_H → Prop := fun r0 z' h' => ∃ r : Int, r0 = some (ov_i r) ∧ z = z' ∧ h = h' ∧ ((r = 0 ∨ r = 1) ∧ (r = 1 → 0 ≤ s ∧ s ≤ 1000000))
set_option maxHeartbeats 4000000 in
theorem c_Mo_isSecond_90 {u : ov_U} {F : ov_H × ov_Z} {z : ov_Z} {h : ov_H} (d : Nat) (hd : 1 ≤ d) (U : ov_cap u) (I : ov_N F z h) (s : Int) (g_s : ov_g s) : ov_T u d ov_m247 [ov_r 90, ov_i s] z h (P_Mo_isSecond_90 F z h s) := by
  refine ov_en rfl (Nat.le_of_ble_eq_true rfl) ?_
  show ov_R u d ov_m247 0 [(0, ov_r 90), (1, ov_i s)] [] z h (P_Mo_isSecond_90 F z h s)
  refine ov_blk (ls2 := [(0, ov_r 90), (1, ov_i s)]) (st2 := [ov_i 0, ov_i s]) (pc2 := 2) b_247_0_2 rfl rfl ?_
  refine ov_ldcw (n := 1000000) d_247_2 kc_Mo_305 ?_
  refine ov_cS (as := [ov_i s, ov_i 0, ov_i 1000000]) (st := []) (d2 := d - 1) d_247_5 lk_Mo_299 rfl (Nat.le_of_ble_eq_true rfl) (by omega) (c_Mo_within (d - 1) (by omega) U I s 0 1000000 (by omega) (by omega) (by omega)) ?_
  rintro _ _ _ ⟨v2, rfl, rfl, rfl, f1⟩
  show ov_R u d ov_m247 8 [(0, ov_r 90), (1, ov_i s)] [ov_i v2] z h (P_Mo_isSecond_90 F z h s)
  have f3 : (v2 = 0 ∨ v2 = 1) ∧ (v2 = 1 → (0 : Int) ≤ s ∧ s ≤ (1000000 : Int)) ∧ (v2 = 0 → s < (0 : Int) ∨ (1000000 : Int) < s) := f1
  clear f1
  exact ov_retz (st := []) d_247_8 rfl (by omega) ⟨_, rfl, rfl, rfl, (by show (v2 = 0 ∨ v2 = 1) ∧ (v2 = 1 → 0 ≤ s ∧ s ≤ 1000000); omega)⟩
abbrev P_Mo_common (F : ov_H × ov_Z) (z : ov_Z) (h : ov_H) (a : Int) (b : Int) : Option ov_V → ov_Z → ov_H → Prop := fun r0 z' h' => ∃ r : Int, r0 = some (ov_i r) ∧ z = z' ∧ h = h' ∧ (1 ≤ r ∧ r ≤ 1200 ∧ (1 ≤ a → r ≤ a)) ∧ (a % r = 0 ∧ b % r = 0)
set_option maxHeartbeats 4000000 in
theorem c_Mo_common {u : ov_U} {F : ov_H × ov_Z} {z : ov_Z} {h : ov_H} (d : Nat) (hd : 0 ≤ d) (U : ov_cap u) (I : ov_N F z h) (a : Int) (b : Int) (g_a : ov_g a) (g_b : ov_g b) (p0 : 0 ≤ a ∧ a ≤ 1200) (p1 : 1 ≤ b ∧ b ≤ 60) : ov_T u d ov_m222 [ov_i a, ov_i b] z h (P_Mo_common F z h a b) := by
  refine ov_en rfl (Nat.le_of_ble_eq_true rfl) ?_
  show ov_R u d ov_m222 0 [(0, ov_i a), (1, ov_i b)] [] z h (P_Mo_common F z h a b)
  refine ov_blk (ls2 := [(0, ov_i a), (1, ov_i b), (2, ov_i a), (3, ov_i b)]) (st2 := []) (pc2 := 4) b_222_0_4 rfl rfl ?_
  have L4 : ∀ (n1 : Nat) (x2 : Int) (x3 : Int) (xg : ∀ q : Int, x2 % q = 0 → x3 % q = 0 → a % q = 0 ∧ b % q = 0) (q3 : 0 ≤ x2 ∧ x2 ≤ 1200 ∧ 0 ≤ x3 ∧ x3 ≤ 1200 ∧ (1 ≤ x2 ∨ 1 ≤ x3) ∧ (1 ≤ a → 1 ≤ x2 ∧ (x2 ≤ a ∨ (1 ≤ x3 ∧ x3 ≤ a)))), x3 < (n1 : Int) → ov_R u d ov_m222 4 [(0, ov_i a), (1, ov_i b), (2, ov_i x2), (3, ov_i x3)] [] z h (P_Mo_common F z h a b) := by
    intro n1
    induction n1 with
    | zero =>
      intro x2 x3 xg q3 hn5
      exact absurd hn5 (by omega)
    | succ n1 ih2 =>
      intro x2 x3 xg q3 hn5
      refine ov_blk (ls2 := [(0, ov_i a), (1, ov_i b), (2, ov_i x2), (3, ov_i x3)]) (st2 := [ov_i x3]) (pc2 := 5) b_222_4_1 rfl rfl ?_
      refine ov_ifeq (tgt := 21) d_222_5 (by decide) (by omega) (fun c6 => ?_) (fun c6 => ?_)
      · skip
        refine ov_blk (ls2 := [(0, ov_i a), (1, ov_i b), (2, ov_i x2), (3, ov_i x3)]) (st2 := [ov_i x2]) (pc2 := 22) b_222_21_1 rfl rfl ?_
        exact ov_reti (st := []) d_222_22 rfl ⟨_, rfl, rfl, rfl, (by show 1 ≤ x2 ∧ x2 ≤ 1200 ∧ (1 ≤ a → x2 ≤ a); omega), (by have e : x3 = 0 := (by omega); exact xg _ (Int.emod_self) (by rw [e]; exact Int.zero_emod _))⟩
      · skip
        refine ov_blk (ls2 := [(0, ov_i a), (1, ov_i b), (2, ov_i x2), (3, ov_i x3)]) (st2 := [ov_i x3, ov_i x2]) (pc2 := 10) b_222_8_2 rfl rfl ?_
        have gm := ov_tmv (x := x2) (y := x3) (by omega) (by omega)
        refine ov_irem d_222_10 (by omega) (by omega) (by omega) ?_
        have g7 := ov_tmg (a := x2) (b := x3) (by omega) (by omega)
        refine ov_blk (ls2 := [(0, ov_i a), (1, ov_i b), (2, ov_i x3), (3, ov_i (Int.tmod x2 x3)), (4, ov_i (Int.tmod x2 x3))]) (st2 := []) (pc2 := 18) b_222_11_5 rfl rfl ?_
        refine ov_goto (tgt := 4) d_222_18 (by decide) ?_
        refine ov_sub (ls2 := [(0, ov_i a), (1, ov_i b), (2, ov_i x3), (3, ov_i (Int.tmod x2 x3))]) (List.Sublist.subset (by repeat (first | exact List.Sublist.refl _ | apply List.Sublist.cons_cons | apply List.Sublist.cons))) ?_
        exact ih2 x3 (Int.tmod x2 x3) (fun q u1 u2 => xg q (ov_eucl (by omega) u1 u2) u1) (by show 0 ≤ x3 ∧ x3 ≤ 1200 ∧ 0 ≤ (Int.tmod x2 x3) ∧ (Int.tmod x2 x3) ≤ 1200 ∧ (1 ≤ x3 ∨ 1 ≤ (Int.tmod x2 x3)) ∧ (1 ≤ a → 1 ≤ x3 ∧ (x3 ≤ a ∨ (1 ≤ (Int.tmod x2 x3) ∧ (Int.tmod x2 x3) ≤ a))); omega) (by omega)
  exact L4 2000 a b (fun q u1 u2 => ⟨u1, u2⟩) (by show 0 ≤ a ∧ a ≤ 1200 ∧ 0 ≤ b ∧ b ≤ 1200 ∧ (1 ≤ a ∨ 1 ≤ b) ∧ (1 ≤ a → 1 ≤ a ∧ (a ≤ a ∨ (1 ≤ b ∧ b ≤ a))); omega) (by omega)
abbrev P_Mo_wide_90 (F : ov_H × ov_Z) (z : ov_Z) (h : ov_H) : Option ov_V → ov_Z → ov_H → Prop := fun r0 z' h' => ∃ r : Int, r0 = some (ov_i r) ∧ z = z' ∧ h = h' ∧ (r = (h 96 0) ∧ 1 ≤ r ∧ r ≤ 6)
set_option maxHeartbeats 4000000 in
theorem c_Mo_wide_90 {u : ov_U} {F : ov_H × ov_Z} {z : ov_Z} {h : ov_H} (d : Nat) (hd : 0 ≤ d) (U : ov_cap u) (I : ov_N F z h) : ov_T u d ov_m236 [ov_r 90] z h (P_Mo_wide_90 F z h) := by
  refine ov_en rfl (Nat.le_of_ble_eq_true rfl) ?_
  show ov_R u d ov_m236 0 [(0, ov_r 90)] [] z h (P_Mo_wide_90 F z h)
  refine ov_blk (ls2 := [(0, ov_r 90)]) (st2 := [ov_r 90]) (pc2 := 1) b_236_0_1 rfl rfl ?_
  refine ov_getf (v := ov_r 96) d_236_1 fl_Mo_81 (zb_90 I) (zs_90 I) (congrArg ov_r (rg_90_10 I)) ?_
  refine ov_blk (ls2 := [(0, ov_r 90)]) (st2 := [ov_i 0, ov_r 96]) (pc2 := 5) b_236_4_1 rfl rfl ?_
  refine ov_iald d_236_5 (zb_96 I) (zs_96 I) (by omega) ?_
  have g1 := t96_0 I
  exact ov_reti (st := []) d_236_6 rfl ⟨_, rfl, rfl, rfl, (by show (h 96 0) = (h 96 0) ∧ 1 ≤ (h 96 0) ∧ (h 96 0) ≤ 6; omega)⟩
abbrev P_Mo_deep_90 (F : ov_H × ov_Z) (z : ov_Z) (h : ov_H) : Option ov_V → ov_Z → ov_H → Prop := fun r0 z' h' => ∃ r : Int, r0 = some (ov_i r) ∧ z = z' ∧ h = h' ∧ (r = (h 96 1) ∧ 1 ≤ r ∧ r ≤ 9)
set_option maxHeartbeats 4000000 in
theorem c_Mo_deep_90 {u : ov_U} {F : ov_H × ov_Z} {z : ov_Z} {h : ov_H} (d : Nat) (hd : 0 ≤ d) (U : ov_cap u) (I : ov_N F z h) : ov_T u d ov_m237 [ov_r 90] z h (P_Mo_deep_90 F z h) := by
  refine ov_en rfl (Nat.le_of_ble_eq_true rfl) ?_
  show ov_R u d ov_m237 0 [(0, ov_r 90)] [] z h (P_Mo_deep_90 F z h)
  refine ov_blk (ls2 := [(0, ov_r 90)]) (st2 := [ov_r 90]) (pc2 := 1) b_237_0_1 rfl rfl ?_
  refine ov_getf (v := ov_r 96) d_237_1 fl_Mo_81 (zb_90 I) (zs_90 I) (congrArg ov_r (rg_90_10 I)) ?_
  refine ov_blk (ls2 := [(0, ov_r 90)]) (st2 := [ov_i 1, ov_r 96]) (pc2 := 5) b_237_4_1 rfl rfl ?_
  refine ov_iald d_237_5 (zb_96 I) (zs_96 I) (by omega) ?_
  have g1 := t96_1 I
  exact ov_reti (st := []) d_237_6 rfl ⟨_, rfl, rfl, rfl, (by show (h 96 1) = (h 96 1) ∧ 1 ≤ (h 96 1) ∧ (h 96 1) ≤ 9; omega)⟩
abbrev P_Mo_isCorner_90 (F : ov_H × ov_Z) (z : ov_Z) (h : ov_H) (x : Int) (y : Int) : Option ov_V → ov_Z → ov_H → Prop := fun r0 z' h' => ∃ r : Int, r0 = some (ov_i r) ∧ z = z' ∧ h = h' ∧ ((r = 0 ∨ r = 1) ∧ (r = 1 → 0 ≤ x ∧ x ≤ 5 ∧ 0 ≤ y ∧ y ≤ 8 ∧ x < (h 96 0) ∧ y < (h 96 1)))
set_option maxHeartbeats 4000000 in
theorem c_Mo_isCorner_90 {u : ov_U} {F : ov_H × ov_Z} {z : ov_Z} {h : ov_H} (d : Nat) (hd : 1 ≤ d) (U : ov_cap u) (I : ov_N F z h) (x : Int) (y : Int) (g_x : ov_g x) (g_y : ov_g y) : ov_T u d ov_m240 [ov_r 90, ov_i x, ov_i y] z h (P_Mo_isCorner_90 F z h x y) := by
  refine ov_en rfl (Nat.le_of_ble_eq_true rfl) ?_
  show ov_R u d ov_m240 0 [(0, ov_r 90), (1, ov_i x), (2, ov_i y)] [] z h (P_Mo_isCorner_90 F z h x y)
  refine ov_blk (ls2 := [(0, ov_r 90), (1, ov_i x), (2, ov_i y)]) (st2 := [ov_i x]) (pc2 := 1) b_240_0_1 rfl rfl ?_
  refine ov_iflt (tgt := 28) d_240_1 (by decide) (by omega) (fun c1 => ?_) (fun c1 => ?_)
  · skip
    refine ov_blk (ls2 := [(0, ov_r 90), (1, ov_i x), (2, ov_i y)]) (st2 := [ov_i 0]) (pc2 := 29) b_240_28_1 rfl rfl ?_
    exact ov_retz (st := []) d_240_29 rfl (by omega) ⟨_, rfl, rfl, rfl, (by show (0 = 0 ∨ 0 = 1) ∧ (0 = 1 → 0 ≤ x ∧ x ≤ 5 ∧ 0 ≤ y ∧ y ≤ 8 ∧ x < (h 96 0) ∧ y < (h 96 1)); omega)⟩
  · skip
    refine ov_blk (ls2 := [(0, ov_r 90), (1, ov_i x), (2, ov_i y)]) (st2 := [ov_r 90, ov_i x]) (pc2 := 6) b_240_4_2 rfl rfl ?_
    refine ov_cV (as := []) (st := [ov_i x]) (d2 := d - 1) d_240_6 lk_Mo_275 rfl (Nat.le_of_ble_eq_true rfl) (c := 1) (zb_90 I) (zs_90 I) ⟨by decide, rfl⟩ (by omega) (c_Mo_wide_90 (d - 1) (by omega) U I) ?_
    rintro _ _ _ ⟨v3, rfl, rfl, rfl, f2⟩
    show ov_R u d ov_m240 9 [(0, ov_r 90), (1, ov_i x), (2, ov_i y)] [ov_i v3, ov_i x] z h (P_Mo_isCorner_90 F z h x y)
    have f4 : v3 = (h 96 0) ∧ 1 ≤ v3 ∧ v3 ≤ 6 := f2
    clear f2
    refine ov_icge (tgt := 28) d_240_9 (by decide) (by omega) (by omega) (fun c5 => ?_) (fun c5 => ?_)
    · skip
      refine ov_blk (ls2 := [(0, ov_r 90), (1, ov_i x), (2, ov_i y)]) (st2 := [ov_i 0]) (pc2 := 29) b_240_28_1 rfl rfl ?_
      exact ov_retz (st := []) d_240_29 rfl (by omega) ⟨_, rfl, rfl, rfl, (by show (0 = 0 ∨ 0 = 1) ∧ (0 = 1 → 0 ≤ x ∧ x ≤ 5 ∧ 0 ≤ y ∧ y ≤ 8 ∧ x < (h 96 0) ∧ y < (h 96 1)); omega)⟩
    · skip
      refine ov_blk (ls2 := [(0, ov_r 90), (1, ov_i x), (2, ov_i y)]) (st2 := [ov_i y]) (pc2 := 13) b_240_12_1 rfl rfl ?_
      refine ov_iflt (tgt := 28) d_240_13 (by decide) (by omega) (fun c6 => ?_) (fun c6 => ?_)
      · skip
        refine ov_blk (ls2 := [(0, ov_r 90), (1, ov_i x), (2, ov_i y)]) (st2 := [ov_i 0]) (pc2 := 29) b_240_28_1 rfl rfl ?_
        exact ov_retz (st := []) d_240_29 rfl (by omega) ⟨_, rfl, rfl, rfl, (by show (0 = 0 ∨ 0 = 1) ∧ (0 = 1 → 0 ≤ x ∧ x ≤ 5 ∧ 0 ≤ y ∧ y ≤ 8 ∧ x < (h 96 0) ∧ y < (h 96 1)); omega)⟩
      · skip
        refine ov_blk (ls2 := [(0, ov_r 90), (1, ov_i x), (2, ov_i y)]) (st2 := [ov_r 90, ov_i y]) (pc2 := 18) b_240_16_2 rfl rfl ?_
        refine ov_cV (as := []) (st := [ov_i y]) (d2 := d - 1) d_240_18 lk_Mo_279 rfl (Nat.le_of_ble_eq_true rfl) (c := 1) (zb_90 I) (zs_90 I) ⟨by decide, rfl⟩ (by omega) (c_Mo_deep_90 (d - 1) (by omega) U I) ?_
        rintro _ _ _ ⟨v8, rfl, rfl, rfl, f7⟩
        show ov_R u d ov_m240 21 [(0, ov_r 90), (1, ov_i x), (2, ov_i y)] [ov_i v8, ov_i y] z h (P_Mo_isCorner_90 F z h x y)
        have f9 : v8 = (h 96 1) ∧ 1 ≤ v8 ∧ v8 ≤ 9 := f7
        clear f7
        refine ov_icge (tgt := 28) d_240_21 (by decide) (by omega) (by omega) (fun c10 => ?_) (fun c10 => ?_)
        · skip
          refine ov_blk (ls2 := [(0, ov_r 90), (1, ov_i x), (2, ov_i y)]) (st2 := [ov_i 0]) (pc2 := 29) b_240_28_1 rfl rfl ?_
          exact ov_retz (st := []) d_240_29 rfl (by omega) ⟨_, rfl, rfl, rfl, (by show (0 = 0 ∨ 0 = 1) ∧ (0 = 1 → 0 ≤ x ∧ x ≤ 5 ∧ 0 ≤ y ∧ y ≤ 8 ∧ x < (h 96 0) ∧ y < (h 96 1)); omega)⟩
        · skip
          refine ov_blk (ls2 := [(0, ov_r 90), (1, ov_i x), (2, ov_i y)]) (st2 := [ov_i 1]) (pc2 := 25) b_240_24_1 rfl rfl ?_
          refine ov_goto (tgt := 29) d_240_25 (by decide) ?_
          exact ov_retz (st := []) d_240_29 rfl (by omega) ⟨_, rfl, rfl, rfl, (by show (1 = 0 ∨ 1 = 1) ∧ (1 = 1 → 0 ≤ x ∧ x ≤ 5 ∧ 0 ≤ y ∧ y ≤ 8 ∧ x < (h 96 0) ∧ y < (h 96 1)); omega)⟩
abbrev P_Mo_kindAt_90 (F : ov_H × ov_Z) (z : ov_Z) (h : ov_H) (x : Int) (y : Int) : Option ov_V → ov_Z → ov_H → Prop := fun r0 z' h' => ∃ r : Int, r0 = some (ov_i r) ∧ z = z' ∧ h = h' ∧ (r = (h 96 (10 + 4 * (6 * y + x))) - 1 ∧ -1 ≤ r ∧ r ≤ 3)
set_option maxHeartbeats 4000000 in
theorem c_Mo_kindAt_90 {u : ov_U} {F : ov_H × ov_Z} {z : ov_Z} {h : ov_H} (d : Nat) (hd : 0 ≤ d) (U : ov_cap u) (I : ov_N F z h) (x : Int) (y : Int) (g_x : ov_g x) (g_y : ov_g y) (p0 : 0 ≤ x ∧ x ≤ 5 ∧ 0 ≤ y ∧ y ≤ 8) : ov_T u d ov_m242 [ov_r 90, ov_i x, ov_i y] z h (P_Mo_kindAt_90 F z h x y) := by
  refine ov_en rfl (Nat.le_of_ble_eq_true rfl) ?_
  show ov_R u d ov_m242 0 [(0, ov_r 90), (1, ov_i x), (2, ov_i y)] [] z h (P_Mo_kindAt_90 F z h x y)
  have gk := l96m_0 I (k := 10 + 4 * (6 * y + x)) (c := 6 * y + x) (by omega) (by omega)
  refine ov_blk (ls2 := [(0, ov_r 90), (1, ov_i x), (2, ov_i y)]) (st2 := [ov_r 90]) (pc2 := 1) b_242_0_1 rfl rfl ?_
  refine ov_getf (v := ov_r 96) d_242_1 fl_Mo_81 (zb_90 I) (zs_90 I) (congrArg ov_r (rg_90_10 I)) ?_
  refine ov_blk (ls2 := [(0, ov_r 90), (1, ov_i x), (2, ov_i y)]) (st2 := [ov_i (10 + (4 * ((6 * y) + x))), ov_r 96]) (pc2 := 15) b_242_4_9 rfl rfl ?_
  refine ov_iald d_242_15 (zb_96 I) (zs_96 I) (by omega) ?_
  have g1 := g96 I (10 + (4 * ((6 * y) + x)))
  refine ov_blk (ls2 := [(0, ov_r 90), (1, ov_i x), (2, ov_i y)]) (st2 := [ov_i ((h 96 (10 + (4 * ((6 * y) + x)))) - 1)]) (pc2 := 18) b_242_16_2 rfl rfl ?_
  exact ov_reti (st := []) d_242_18 rfl ⟨_, rfl, rfl, rfl, (by show ((h 96 (10 + (4 * ((6 * y) + x)))) - 1) = (h 96 (10 + 4 * (6 * y + x))) - 1 ∧ -1 ≤ ((h 96 (10 + (4 * ((6 * y) + x)))) - 1) ∧ ((h 96 (10 + (4 * ((6 * y) + x)))) - 1) ≤ 3; omega)⟩
abbrev P_Mo_lightAt_90 (F : ov_H × ov_Z) (z : ov_Z) (h : ov_H) (x : Int) (y : Int) (w : Int) : Option ov_V → ov_Z → ov_H → Prop := fun r0 z' h' => ∃ r : Int, r0 = some (ov_i r) ∧ z = z' ∧ h = h' ∧ (r = (h 96 (10 + 4 * (6 * y + x) + w)) ∧ (w = 1 → 0 ≤ r ∧ r ≤ 60) ∧ (w = 2 → 0 ≤ r ∧ r ≤ 59) ∧ (w = 3 → 0 ≤ r ∧ r ≤ 60))
set_option maxHeartbeats 4000000 in
theorem c_Mo_lightAt_90 {u : ov_U} {F : ov_H × ov_Z} {z : ov_Z} {h : ov_H} (d : Nat) (hd : 0 ≤ d) (U : ov_cap u) (I : ov_N F z h) (x : Int) (y : Int) (w : Int) (g_x : ov_g x) (g_y : ov_g y) (g_w : ov_g w) (p0 : 0 ≤ x ∧ x ≤ 5 ∧ 0 ≤ y ∧ y ≤ 8) (p1 : 0 ≤ w ∧ w ≤ 3) : ov_T u d ov_m243 [ov_r 90, ov_i x, ov_i y, ov_i w] z h (P_Mo_lightAt_90 F z h x y w) := by
  refine ov_en rfl (Nat.le_of_ble_eq_true rfl) ?_
  show ov_R u d ov_m243 0 [(0, ov_r 90), (1, ov_i x), (2, ov_i y), (3, ov_i w)] [] z h (P_Mo_lightAt_90 F z h x y w)
  have gk : ∀ i : Int, w = i → h 96 (10 + 4 * (6 * y + x) + w) = h 96 (10 + 4 * (6 * y + x) + i) := fun i e => by rw [e]
  have gk1 : w = 1 → 0 ≤ h 96 (10 + 4 * (6 * y + x) + w) ∧ h 96 (10 + 4 * (6 * y + x) + w) ≤ 60 := fun e => l96m_1 I (c := 6 * y + x) (by omega) (by omega)
  have gk2 : w = 2 → 0 ≤ h 96 (10 + 4 * (6 * y + x) + w) ∧ h 96 (10 + 4 * (6 * y + x) + w) ≤ 59 := fun e => l96m_2 I (c := 6 * y + x) (by omega) (by omega)
  have gk3 : w = 3 → 0 ≤ h 96 (10 + 4 * (6 * y + x) + w) ∧ h 96 (10 + 4 * (6 * y + x) + w) ≤ 60 := fun e => l96m_3 I (c := 6 * y + x) (by omega) (by omega)
  refine ov_blk (ls2 := [(0, ov_r 90), (1, ov_i x), (2, ov_i y), (3, ov_i w)]) (st2 := [ov_r 90]) (pc2 := 1) b_243_0_1 rfl rfl ?_
  refine ov_getf (v := ov_r 96) d_243_1 fl_Mo_81 (zb_90 I) (zs_90 I) (congrArg ov_r (rg_90_10 I)) ?_
  refine ov_blk (ls2 := [(0, ov_r 90), (1, ov_i x), (2, ov_i y), (3, ov_i w)]) (st2 := [ov_i ((10 + (4 * ((6 * y) + x))) + w), ov_r 96]) (pc2 := 17) b_243_4_11 rfl rfl ?_
  refine ov_iald d_243_17 (zb_96 I) (zs_96 I) (by omega) ?_
  have g1 := g96 I ((10 + (4 * ((6 * y) + x))) + w)
  exact ov_reti (st := []) d_243_18 rfl ⟨_, rfl, rfl, rfl, (by show (h 96 ((10 + (4 * ((6 * y) + x))) + w)) = (h 96 (10 + 4 * (6 * y + x) + w)) ∧ (w = 1 → 0 ≤ (h 96 ((10 + (4 * ((6 * y) + x))) + w)) ∧ (h 96 ((10 + (4 * ((6 * y) + x))) + w)) ≤ 60) ∧ (w = 2 → 0 ≤ (h 96 ((10 + (4 * ((6 * y) + x))) + w)) ∧ (h 96 ((10 + (4 * ((6 * y) + x))) + w)) ≤ 59) ∧ (w = 3 → 0 ≤ (h 96 ((10 + (4 * ((6 * y) + x))) + w)) ∧ (h 96 ((10 + (4 * ((6 * y) + x))) + w)) ≤ 60); omega)⟩
abbrev P_Mo_isBarred_90 (F : ov_H × ov_Z) (z : ov_Z) (h : ov_H) (x : Int) (y : Int) (way : Int) : Option ov_V → ov_Z → ov_H → Prop := fun r0 z' h' => ∃ r : Int, r0 = some (ov_i r) ∧ z = z' ∧ h = h' ∧ ((r = 0 ∨ r = 1) ∧ (r = 1 → ov_and (ov_shr ((h 96 (226 + 6 * y + x))) way) 1 = 1) ∧ (r = 0 → ¬ ov_and (ov_shr ((h 96 (226 + 6 * y + x))) way) 1 = 1))
set_option maxHeartbeats 4000000 in
theorem c_Mo_isBarred_90 {u : ov_U} {F : ov_H × ov_Z} {z : ov_Z} {h : ov_H} (d : Nat) (hd : 0 ≤ d) (U : ov_cap u) (I : ov_N F z h) (x : Int) (y : Int) (way : Int) (g_x : ov_g x) (g_y : ov_g y) (g_way : ov_g way) (p0 : 0 ≤ x ∧ x ≤ 5 ∧ 0 ≤ y ∧ y ≤ 8) (p1 : 0 ≤ way ∧ way ≤ 1) : ov_T u d ov_m238 [ov_r 90, ov_i x, ov_i y, ov_i way] z h (P_Mo_isBarred_90 F z h x y way) := by
  refine ov_en rfl (Nat.le_of_ble_eq_true rfl) ?_
  show ov_R u d ov_m238 0 [(0, ov_r 90), (1, ov_i x), (2, ov_i y), (3, ov_i way)] [] z h (P_Mo_isBarred_90 F z h x y way)
  refine ov_blk (ls2 := [(0, ov_r 90), (1, ov_i x), (2, ov_i y), (3, ov_i way)]) (st2 := [ov_r 90]) (pc2 := 1) b_238_0_1 rfl rfl ?_
  refine ov_getf (v := ov_r 96) d_238_1 fl_Mo_81 (zb_90 I) (zs_90 I) (congrArg ov_r (rg_90_10 I)) ?_
  refine ov_blk (ls2 := [(0, ov_r 90), (1, ov_i x), (2, ov_i y), (3, ov_i way)]) (st2 := [ov_i ((226 + (6 * y)) + x), ov_r 96]) (pc2 := 14) b_238_4_7 rfl rfl ?_
  refine ov_iald d_238_14 (zb_96 I) (zs_96 I) (by omega) ?_
  have g1 := g96 I ((226 + (6 * y)) + x)
  refine ov_blk (ls2 := [(0, ov_r 90), (1, ov_i x), (2, ov_i y), (3, ov_i way)]) (st2 := [ov_i 1, ov_i (ov_and (ov_shr (h 96 ((226 + (6 * y)) + x)) way) 1)]) (pc2 := 20) b_238_15_5 rfl rfl ?_
  have g2 := ov_shrg (h 96 ((226 + (6 * y)) + x)) way
  have g3 := ov_andg (ov_shr (h 96 ((226 + (6 * y)) + x)) way) 1
  have g4 := ov_and1 (ov_shr (h 96 ((226 + (6 * y)) + x)) way)
  refine ov_icne (tgt := 27) d_238_20 (by decide) (by omega) (by omega) (fun c5 => ?_) (fun c5 => ?_)
  · skip
    refine ov_blk (ls2 := [(0, ov_r 90), (1, ov_i x), (2, ov_i y), (3, ov_i way)]) (st2 := [ov_i 0]) (pc2 := 28) b_238_27_1 rfl rfl ?_
    exact ov_retz (st := []) d_238_28 rfl (by omega) ⟨_, rfl, rfl, rfl, (by show (0 = 0 ∨ 0 = 1) ∧ (0 = 1 → ov_and (ov_shr ((h 96 (226 + 6 * y + x))) way) 1 = 1) ∧ (0 = 0 → ¬ ov_and (ov_shr ((h 96 (226 + 6 * y + x))) way) 1 = 1); omega)⟩
  · skip
    refine ov_blk (ls2 := [(0, ov_r 90), (1, ov_i x), (2, ov_i y), (3, ov_i way)]) (st2 := [ov_i 1]) (pc2 := 24) b_238_23_1 rfl rfl ?_
    refine ov_goto (tgt := 28) d_238_24 (by decide) ?_
    exact ov_retz (st := []) d_238_28 rfl (by omega) ⟨_, rfl, rfl, rfl, (by show (1 = 0 ∨ 1 = 1) ∧ (1 = 1 → ov_and (ov_shr ((h 96 (226 + 6 * y + x))) way) 1 = 1) ∧ (1 = 0 → ¬ ov_and (ov_shr ((h 96 (226 + 6 * y + x))) way) 1 = 1); omega)⟩
abbrev P_Mo_isThere_90 (F : ov_H × ov_Z) (z : ov_Z) (h : ov_H) (x : Int) (y : Int) (way : Int) : Option ov_V → ov_Z → ov_H → Prop := fun r0 z' h' => ∃ r : Int, r0 = some (ov_i r) ∧ z = z' ∧ h = h' ∧ ((r = 0 ∨ r = 1) ∧ (r = 1 → ((way = 0 → x < (h 96 0) - 1) ∧ (¬ way = 0 → y < (h 96 1) - 1))) ∧ (r = 0 → ¬ ((way = 0 → x < (h 96 0) - 1) ∧ (¬ way = 0 → y < (h 96 1) - 1))))
set_option maxHeartbeats 4000000 in
theorem c_Mo_isThere_90 {u : ov_U} {F : ov_H × ov_Z} {z : ov_Z} {h : ov_H} (d : Nat) (hd : 1 ≤ d) (U : ov_cap u) (I : ov_N F z h) (x : Int) (y : Int) (way : Int) (g_x : ov_g x) (g_y : ov_g y) (g_way : ov_g way) : ov_T u d ov_m235 [ov_r 90, ov_i x, ov_i y, ov_i way] z h (P_Mo_isThere_90 F z h x y way) := by
  refine ov_en rfl (Nat.le_of_ble_eq_true rfl) ?_
  show ov_R u d ov_m235 0 [(0, ov_r 90), (1, ov_i x), (2, ov_i y), (3, ov_i way)] [] z h (P_Mo_isThere_90 F z h x y way)
  refine ov_blk (ls2 := [(0, ov_r 90), (1, ov_i x), (2, ov_i y), (3, ov_i way)]) (st2 := [ov_i way]) (pc2 := 1) b_235_0_1 rfl rfl ?_
  refine ov_ifne (tgt := 22) d_235_1 (by decide) (by omega) (fun c1 => ?_) (fun c1 => ?_)
  · skip
    refine ov_blk (ls2 := [(0, ov_r 90), (1, ov_i x), (2, ov_i y), (3, ov_i way)]) (st2 := [ov_r 90, ov_i y]) (pc2 := 24) b_235_22_2 rfl rfl ?_
    refine ov_cV (as := []) (st := [ov_i y]) (d2 := d - 1) d_235_24 lk_Mo_279 rfl (Nat.le_of_ble_eq_true rfl) (c := 1) (zb_90 I) (zs_90 I) ⟨by decide, rfl⟩ (by omega) (c_Mo_deep_90 (d - 1) (by omega) U I) ?_
    rintro _ _ _ ⟨v3, rfl, rfl, rfl, f2⟩
    show ov_R u d ov_m235 27 [(0, ov_r 90), (1, ov_i x), (2, ov_i y), (3, ov_i way)] [ov_i v3, ov_i y] z h (P_Mo_isThere_90 F z h x y way)
    have f4 : v3 = (h 96 1) ∧ 1 ≤ v3 ∧ v3 ≤ 9 := f2
    clear f2
    refine ov_blk (ls2 := [(0, ov_r 90), (1, ov_i x), (2, ov_i y), (3, ov_i way)]) (st2 := [ov_i (v3 - 1), ov_i y]) (pc2 := 29) b_235_27_2 rfl rfl ?_
    refine ov_icge (tgt := 36) d_235_29 (by decide) (by omega) (by omega) (fun c5 => ?_) (fun c5 => ?_)
    · skip
      refine ov_blk (ls2 := [(0, ov_r 90), (1, ov_i x), (2, ov_i y), (3, ov_i way)]) (st2 := [ov_i 0]) (pc2 := 37) b_235_36_1 rfl rfl ?_
      exact ov_retz (st := []) d_235_37 rfl (by omega) ⟨_, rfl, rfl, rfl, (by show (0 = 0 ∨ 0 = 1) ∧ (0 = 1 → ((way = 0 → x < (h 96 0) - 1) ∧ (¬ way = 0 → y < (h 96 1) - 1))) ∧ (0 = 0 → ¬ ((way = 0 → x < (h 96 0) - 1) ∧ (¬ way = 0 → y < (h 96 1) - 1))); omega)⟩
    · skip
      refine ov_blk (ls2 := [(0, ov_r 90), (1, ov_i x), (2, ov_i y), (3, ov_i way)]) (st2 := [ov_i 1]) (pc2 := 33) b_235_32_1 rfl rfl ?_
      refine ov_goto (tgt := 37) d_235_33 (by decide) ?_
      exact ov_retz (st := []) d_235_37 rfl (by omega) ⟨_, rfl, rfl, rfl, (by show (1 = 0 ∨ 1 = 1) ∧ (1 = 1 → ((way = 0 → x < (h 96 0) - 1) ∧ (¬ way = 0 → y < (h 96 1) - 1))) ∧ (1 = 0 → ¬ ((way = 0 → x < (h 96 0) - 1) ∧ (¬ way = 0 → y < (h 96 1) - 1))); omega)⟩
  · skip
    refine ov_blk (ls2 := [(0, ov_r 90), (1, ov_i x), (2, ov_i y), (3, ov_i way)]) (st2 := [ov_r 90, ov_i x]) (pc2 := 6) b_235_4_2 rfl rfl ?_
    refine ov_cV (as := []) (st := [ov_i x]) (d2 := d - 1) d_235_6 lk_Mo_275 rfl (Nat.le_of_ble_eq_true rfl) (c := 1) (zb_90 I) (zs_90 I) ⟨by decide, rfl⟩ (by omega) (c_Mo_wide_90 (d - 1) (by omega) U I) ?_
    rintro _ _ _ ⟨v7, rfl, rfl, rfl, f6⟩
    show ov_R u d ov_m235 9 [(0, ov_r 90), (1, ov_i x), (2, ov_i y), (3, ov_i way)] [ov_i v7, ov_i x] z h (P_Mo_isThere_90 F z h x y way)
    have f8 : v7 = (h 96 0) ∧ 1 ≤ v7 ∧ v7 ≤ 6 := f6
    clear f6
    refine ov_blk (ls2 := [(0, ov_r 90), (1, ov_i x), (2, ov_i y), (3, ov_i way)]) (st2 := [ov_i (v7 - 1), ov_i x]) (pc2 := 11) b_235_9_2 rfl rfl ?_
    refine ov_icge (tgt := 18) d_235_11 (by decide) (by omega) (by omega) (fun c9 => ?_) (fun c9 => ?_)
    · skip
      refine ov_blk (ls2 := [(0, ov_r 90), (1, ov_i x), (2, ov_i y), (3, ov_i way)]) (st2 := [ov_i 0]) (pc2 := 19) b_235_18_1 rfl rfl ?_
      refine ov_goto (tgt := 37) d_235_19 (by decide) ?_
      exact ov_retz (st := []) d_235_37 rfl (by omega) ⟨_, rfl, rfl, rfl, (by show (0 = 0 ∨ 0 = 1) ∧ (0 = 1 → ((way = 0 → x < (h 96 0) - 1) ∧ (¬ way = 0 → y < (h 96 1) - 1))) ∧ (0 = 0 → ¬ ((way = 0 → x < (h 96 0) - 1) ∧ (¬ way = 0 → y < (h 96 1) - 1))); omega)⟩
    · skip
      refine ov_blk (ls2 := [(0, ov_r 90), (1, ov_i x), (2, ov_i y), (3, ov_i way)]) (st2 := [ov_i 1]) (pc2 := 15) b_235_14_1 rfl rfl ?_
      refine ov_goto (tgt := 37) d_235_15 (by decide) ?_
      exact ov_retz (st := []) d_235_37 rfl (by omega) ⟨_, rfl, rfl, rfl, (by show (1 = 0 ∨ 1 = 1) ∧ (1 = 1 → ((way = 0 → x < (h 96 0) - 1) ∧ (¬ way = 0 → y < (h 96 1) - 1))) ∧ (1 = 0 → ¬ ((way = 0 → x < (h 96 0) - 1) ∧ (¬ way = 0 → y < (h 96 1) - 1))); omega)⟩
abbrev P_Mo_isTimed_90 (F : ov_H × ov_Z) (z : ov_Z) (h : ov_H) (x : Int) (y : Int) : Option ov_V → ov_Z → ov_H → Prop := fun r0 z' h' => ∃ r : Int, r0 = some (ov_i r) ∧ z = z' ∧ h = h' ∧ ((r = 0 ∨ r = 1) ∧ (r = 1 → ((h 96 (10 + 4 * (6 * y + x))) = 1 ∨ (h 96 (10 + 4 * (6 * y + x))) = 2)) ∧ (r = 0 → ¬ ((h 96 (10 + 4 * (6 * y + x))) = 1 ∨ (h 96 (10 + 4 * (6 * y + x))) = 2)))
set_option maxHeartbeats 4000000 in
theorem c_Mo_isTimed_90 {u : ov_U} {F : ov_H × ov_Z} {z : ov_Z} {h : ov_H} (d : Nat) (hd : 1 ≤ d) (U : ov_cap u) (I : ov_N F z h) (x : Int) (y : Int) (g_x : ov_g x) (g_y : ov_g y) (p0 : 0 ≤ x ∧ x ≤ 5 ∧ 0 ≤ y ∧ y ≤ 8) : ov_T u d ov_m249 [ov_r 90, ov_i x, ov_i y] z h (P_Mo_isTimed_90 F z h x y) := by
  refine ov_en rfl (Nat.le_of_ble_eq_true rfl) ?_
  show ov_R u d ov_m249 0 [(0, ov_r 90), (1, ov_i x), (2, ov_i y)] [] z h (P_Mo_isTimed_90 F z h x y)
  refine ov_blk (ls2 := [(0, ov_r 90), (1, ov_i x), (2, ov_i y)]) (st2 := [ov_i y, ov_i x, ov_r 90]) (pc2 := 3) b_249_0_3 rfl rfl ?_
  refine ov_cV (as := [ov_i x, ov_i y]) (st := []) (d2 := d - 1) d_249_3 lk_Mo_282 rfl (Nat.le_of_ble_eq_true rfl) (c := 1) (zb_90 I) (zs_90 I) ⟨by decide, rfl⟩ (by omega) (c_Mo_kindAt_90 (d - 1) (by omega) U I x y (by omega) (by omega) (by omega)) ?_
  rintro _ _ _ ⟨v2, rfl, rfl, rfl, f1⟩
  show ov_R u d ov_m249 6 [(0, ov_r 90), (1, ov_i x), (2, ov_i y)] [ov_i v2] z h (P_Mo_isTimed_90 F z h x y)
  have f3 : v2 = (h 96 (10 + 4 * (6 * y + x))) - 1 ∧ -1 ≤ v2 ∧ v2 ≤ 3 := f1
  clear f1
  refine ov_ifeq (tgt := 19) d_249_6 (by decide) (by omega) (fun c4 => ?_) (fun c4 => ?_)
  · skip
    refine ov_blk (ls2 := [(0, ov_r 90), (1, ov_i x), (2, ov_i y)]) (st2 := [ov_i 1]) (pc2 := 20) b_249_19_1 rfl rfl ?_
    refine ov_goto (tgt := 24) d_249_20 (by decide) ?_
    exact ov_retz (st := []) d_249_24 rfl (by omega) ⟨_, rfl, rfl, rfl, (by show (1 = 0 ∨ 1 = 1) ∧ (1 = 1 → ((h 96 (10 + 4 * (6 * y + x))) = 1 ∨ (h 96 (10 + 4 * (6 * y + x))) = 2)) ∧ (1 = 0 → ¬ ((h 96 (10 + 4 * (6 * y + x))) = 1 ∨ (h 96 (10 + 4 * (6 * y + x))) = 2)); omega)⟩
  · skip
    refine ov_blk (ls2 := [(0, ov_r 90), (1, ov_i x), (2, ov_i y)]) (st2 := [ov_i y, ov_i x, ov_r 90]) (pc2 := 12) b_249_9_3 rfl rfl ?_
    refine ov_cV (as := [ov_i x, ov_i y]) (st := []) (d2 := d - 1) d_249_12 lk_Mo_282 rfl (Nat.le_of_ble_eq_true rfl) (c := 1) (zb_90 I) (zs_90 I) ⟨by decide, rfl⟩ (by omega) (c_Mo_kindAt_90 (d - 1) (by omega) U I x y (by omega) (by omega) (by omega)) ?_
    rintro _ _ _ ⟨v6, rfl, rfl, rfl, f5⟩
    show ov_R u d ov_m249 15 [(0, ov_r 90), (1, ov_i x), (2, ov_i y)] [ov_i v6] z h (P_Mo_isTimed_90 F z h x y)
    have f7 : v6 = (h 96 (10 + 4 * (6 * y + x))) - 1 ∧ -1 ≤ v6 ∧ v6 ≤ 3 := f5
    clear f5
    refine ov_blk (ls2 := [(0, ov_r 90), (1, ov_i x), (2, ov_i y)]) (st2 := [ov_i 1, ov_i v6]) (pc2 := 16) b_249_15_1 rfl rfl ?_
    refine ov_icne (tgt := 23) d_249_16 (by decide) (by omega) (by omega) (fun c8 => ?_) (fun c8 => ?_)
    · skip
      refine ov_blk (ls2 := [(0, ov_r 90), (1, ov_i x), (2, ov_i y)]) (st2 := [ov_i 0]) (pc2 := 24) b_249_23_1 rfl rfl ?_
      exact ov_retz (st := []) d_249_24 rfl (by omega) ⟨_, rfl, rfl, rfl, (by show (0 = 0 ∨ 0 = 1) ∧ (0 = 1 → ((h 96 (10 + 4 * (6 * y + x))) = 1 ∨ (h 96 (10 + 4 * (6 * y + x))) = 2)) ∧ (0 = 0 → ¬ ((h 96 (10 + 4 * (6 * y + x))) = 1 ∨ (h 96 (10 + 4 * (6 * y + x))) = 2)); omega)⟩
    · skip
      refine ov_blk (ls2 := [(0, ov_r 90), (1, ov_i x), (2, ov_i y)]) (st2 := [ov_i 1]) (pc2 := 20) b_249_19_1 rfl rfl ?_
      refine ov_goto (tgt := 24) d_249_20 (by decide) ?_
      exact ov_retz (st := []) d_249_24 rfl (by omega) ⟨_, rfl, rfl, rfl, (by show (1 = 0 ∨ 1 = 1) ∧ (1 = 1 → ((h 96 (10 + 4 * (6 * y + x))) = 1 ∨ (h 96 (10 + 4 * (6 * y + x))) = 2)) ∧ (1 = 0 → ¬ ((h 96 (10 + 4 * (6 * y + x))) = 1 ∨ (h 96 (10 + 4 * (6 * y + x))) = 2)); omega)⟩
abbrev P_Mo_canGo_90 (F : ov_H × ov_Z) (z : ov_Z) (h : ov_H) (x : Int) (y : Int) (way : Int) : Option ov_V → ov_Z → ov_H → Prop := fun r0 z' h' => ∃ r : Int, r0 = some (ov_i r) ∧ z = z' ∧ h = h' ∧ ((r = 0 ∨ r = 1) ∧ r = ov_cgi (h 96) x y way ∧ (r = 1 → ((way = 0 → x < (h 96 0) - 1) ∧ (¬ way = 0 → y < (h 96 1) - 1)) ∧ (((h 96 (10 + 4 * (6 * y + x))) = 1 ∨ (h 96 (10 + 4 * (6 * y + x))) = 2) → (way = 0 → 0 < (h 96 (10 + 4 * (6 * y + x) + 3))) ∧ (¬ way = 0 → (h 96 (10 + 4 * (6 * y + x) + 3)) < (h 96 (10 + 4 * (6 * y + x) + 1))))))
set_option maxHeartbeats 4000000 in
theorem c_Mo_canGo_90 {u : ov_U} {F : ov_H × ov_Z} {z : ov_Z} {h : ov_H} (d : Nat) (hd : 2 ≤ d) (U : ov_cap u) (I : ov_N F z h) (x : Int) (y : Int) (way : Int) (g_x : ov_g x) (g_y : ov_g y) (g_way : ov_g way) (p0 : 0 ≤ x ∧ x ≤ 5 ∧ 0 ≤ y ∧ y ≤ 8) (p1 : 0 ≤ way ∧ way ≤ 1) : ov_T u d ov_m248 [ov_r 90, ov_i x, ov_i y, ov_i way] z h (P_Mo_canGo_90 F z h x y way) := by
  refine ov_en rfl (Nat.le_of_ble_eq_true rfl) ?_
  show ov_R u d ov_m248 0 [(0, ov_r 90), (1, ov_i x), (2, ov_i y), (3, ov_i way)] [] z h (P_Mo_canGo_90 F z h x y way)
  refine ov_blk (ls2 := [(0, ov_r 90), (1, ov_i x), (2, ov_i y), (3, ov_i way)]) (st2 := [ov_i y, ov_i x, ov_r 90]) (pc2 := 3) b_248_0_3 rfl rfl ?_
  refine ov_cV (as := [ov_i x, ov_i y]) (st := []) (d2 := d - 1) d_248_3 lk_Mo_285 rfl (Nat.le_of_ble_eq_true rfl) (c := 1) (zb_90 I) (zs_90 I) ⟨by decide, rfl⟩ (by omega) (c_Mo_isTimed_90 (d - 1) (by omega) U I x y (by omega) (by omega) (by omega)) ?_
  rintro _ _ _ ⟨v2, rfl, rfl, rfl, f1⟩
  show ov_R u d ov_m248 6 [(0, ov_r 90), (1, ov_i x), (2, ov_i y), (3, ov_i way)] [ov_i v2] z h (P_Mo_canGo_90 F z h x y way)
  have f3 : (v2 = 0 ∨ v2 = 1) ∧ (v2 = 1 → ((h 96 (10 + 4 * (6 * y + x))) = 1 ∨ (h 96 (10 + 4 * (6 * y + x))) = 2)) ∧ (v2 = 0 → ¬ ((h 96 (10 + 4 * (6 * y + x))) = 1 ∨ (h 96 (10 + 4 * (6 * y + x))) = 2)) := f1
  clear f1
  refine ov_ifeq (tgt := 43) d_248_6 (by decide) (by omega) (fun c4 => ?_) (fun c4 => ?_)
  · skip
    have f3_ : v2 = 0 := by omega
    have f5 : ¬ ((h 96 (10 + 4 * (6 * y + x))) = 1 ∨ (h 96 (10 + 4 * (6 * y + x))) = 2) := f3.2.2 (by omega)
    clear f3
    refine ov_blk (ls2 := [(0, ov_r 90), (1, ov_i x), (2, ov_i y), (3, ov_i way)]) (st2 := [ov_i 1]) (pc2 := 44) b_248_43_1 rfl rfl ?_
    refine ov_goto (tgt := 48) d_248_44 (by decide) ?_
    refine ov_blk (ls2 := [(0, ov_r 90), (1, ov_i x), (2, ov_i y), (3, ov_i way), (4, ov_i 1)]) (st2 := [ov_i way, ov_i y, ov_i x, ov_r 90]) (pc2 := 54) b_248_48_5 rfl rfl ?_
    refine ov_cV (as := [ov_i x, ov_i y, ov_i way]) (st := []) (d2 := d - 1) d_248_54 lk_Mo_250 rfl (Nat.le_of_ble_eq_true rfl) (c := 1) (zb_90 I) (zs_90 I) ⟨by decide, rfl⟩ (by omega) (c_Mo_isThere_90 (d - 1) (by omega) U I x y way (by omega) (by omega) (by omega)) ?_
    rintro _ _ _ ⟨v7, rfl, rfl, rfl, f6⟩
    show ov_R u d ov_m248 57 [(0, ov_r 90), (1, ov_i x), (2, ov_i y), (3, ov_i way), (4, ov_i 1)] [ov_i v7] z h (P_Mo_canGo_90 F z h x y way)
    have f8 : (v7 = 0 ∨ v7 = 1) ∧ (v7 = 1 → ((way = 0 → x < (h 96 0) - 1) ∧ (¬ way = 0 → y < (h 96 1) - 1))) ∧ (v7 = 0 → ¬ ((way = 0 → x < (h 96 0) - 1) ∧ (¬ way = 0 → y < (h 96 1) - 1))) := f6
    clear f6
    refine ov_ifeq (tgt := 79) d_248_57 (by decide) (by omega) (fun c9 => ?_) (fun c9 => ?_)
    · skip
      have f8_ : v7 = 0 := by omega
      have f10 : ¬ ((way = 0 → x < (h 96 0) - 1) ∧ (¬ way = 0 → y < (h 96 1) - 1)) := f8.2.2 (by omega)
      clear f8
      refine ov_blk (ls2 := [(0, ov_r 90), (1, ov_i x), (2, ov_i y), (3, ov_i way), (4, ov_i 1)]) (st2 := [ov_i 0]) (pc2 := 80) b_248_79_1 rfl rfl ?_
      have gc : ov_cgi (h 96) x y way = 0 := ov_cgi_0 (by omega)
      exact ov_retz (st := []) d_248_80 rfl (by omega) ⟨_, rfl, rfl, rfl, (by show (0 = 0 ∨ 0 = 1) ∧ 0 = ov_cgi (h 96) x y way ∧ (0 = 1 → ((way = 0 → x < (h 96 0) - 1) ∧ (¬ way = 0 → y < (h 96 1) - 1)) ∧ (((h 96 (10 + 4 * (6 * y + x))) = 1 ∨ (h 96 (10 + 4 * (6 * y + x))) = 2) → (way = 0 → 0 < (h 96 (10 + 4 * (6 * y + x) + 3))) ∧ (¬ way = 0 → (h 96 (10 + 4 * (6 * y + x) + 3)) < (h 96 (10 + 4 * (6 * y + x) + 1))))); omega)⟩
    · skip
      have f8_ : v7 = 1 := by omega
      have f11 : ((way = 0 → x < (h 96 0) - 1) ∧ (¬ way = 0 → y < (h 96 1) - 1)) := f8.2.1 (by omega)
      clear f8
      refine ov_blk (ls2 := [(0, ov_r 90), (1, ov_i x), (2, ov_i y), (3, ov_i way), (4, ov_i 1)]) (st2 := [ov_i way, ov_i y, ov_i x, ov_r 90]) (pc2 := 64) b_248_60_4 rfl rfl ?_
      refine ov_cV (as := [ov_i x, ov_i y, ov_i way]) (st := []) (d2 := d - 1) d_248_64 lk_Mo_254 rfl (Nat.le_of_ble_eq_true rfl) (c := 1) (zb_90 I) (zs_90 I) ⟨by decide, rfl⟩ (by omega) (c_Mo_isBarred_90 (d - 1) (by omega) U I x y way (by omega) (by omega) (by omega) (by omega) (by omega)) ?_
      rintro _ _ _ ⟨v13, rfl, rfl, rfl, f12⟩
      show ov_R u d ov_m248 67 [(0, ov_r 90), (1, ov_i x), (2, ov_i y), (3, ov_i way), (4, ov_i 1)] [ov_i v13] z h (P_Mo_canGo_90 F z h x y way)
      have f14 : (v13 = 0 ∨ v13 = 1) ∧ (v13 = 1 → ov_and (ov_shr ((h 96 (226 + 6 * y + x))) way) 1 = 1) ∧ (v13 = 0 → ¬ ov_and (ov_shr ((h 96 (226 + 6 * y + x))) way) 1 = 1) := f12
      clear f12
      refine ov_ifne (tgt := 79) d_248_67 (by decide) (by omega) (fun c15 => ?_) (fun c15 => ?_)
      · skip
        have f14_ : v13 = 1 := by omega
        have f16 : ov_and (ov_shr ((h 96 (226 + 6 * y + x))) way) 1 = 1 := f14.2.1 (by omega)
        clear f14
        refine ov_blk (ls2 := [(0, ov_r 90), (1, ov_i x), (2, ov_i y), (3, ov_i way), (4, ov_i 1)]) (st2 := [ov_i 0]) (pc2 := 80) b_248_79_1 rfl rfl ?_
        have gc : ov_cgi (h 96) x y way = 0 := ov_cgi_0 (by omega)
        exact ov_retz (st := []) d_248_80 rfl (by omega) ⟨_, rfl, rfl, rfl, (by show (0 = 0 ∨ 0 = 1) ∧ 0 = ov_cgi (h 96) x y way ∧ (0 = 1 → ((way = 0 → x < (h 96 0) - 1) ∧ (¬ way = 0 → y < (h 96 1) - 1)) ∧ (((h 96 (10 + 4 * (6 * y + x))) = 1 ∨ (h 96 (10 + 4 * (6 * y + x))) = 2) → (way = 0 → 0 < (h 96 (10 + 4 * (6 * y + x) + 3))) ∧ (¬ way = 0 → (h 96 (10 + 4 * (6 * y + x) + 3)) < (h 96 (10 + 4 * (6 * y + x) + 1))))); omega)⟩
      · skip
        have f14_ : v13 = 0 := by omega
        have f17 : ¬ ov_and (ov_shr ((h 96 (226 + 6 * y + x))) way) 1 = 1 := f14.2.2 (by omega)
        clear f14
        refine ov_blk (ls2 := [(0, ov_r 90), (1, ov_i x), (2, ov_i y), (3, ov_i way), (4, ov_i 1)]) (st2 := [ov_i 1]) (pc2 := 72) b_248_70_1 rfl rfl ?_
        refine ov_ifeq (tgt := 79) d_248_72 (by decide) (by omega) (fun c18 => ?_) (fun c18 => ?_)
        · omega
        · skip
          refine ov_blk (ls2 := [(0, ov_r 90), (1, ov_i x), (2, ov_i y), (3, ov_i way), (4, ov_i 1)]) (st2 := [ov_i 1]) (pc2 := 76) b_248_75_1 rfl rfl ?_
          refine ov_goto (tgt := 80) d_248_76 (by decide) ?_
          have gc : ov_cgi (h 96) x y way = 1 := ov_cgi_1 (by omega) (by omega) (by omega)
          exact ov_retz (st := []) d_248_80 rfl (by omega) ⟨_, rfl, rfl, rfl, (by show (1 = 0 ∨ 1 = 1) ∧ 1 = ov_cgi (h 96) x y way ∧ (1 = 1 → ((way = 0 → x < (h 96 0) - 1) ∧ (¬ way = 0 → y < (h 96 1) - 1)) ∧ (((h 96 (10 + 4 * (6 * y + x))) = 1 ∨ (h 96 (10 + 4 * (6 * y + x))) = 2) → (way = 0 → 0 < (h 96 (10 + 4 * (6 * y + x) + 3))) ∧ (¬ way = 0 → (h 96 (10 + 4 * (6 * y + x) + 3)) < (h 96 (10 + 4 * (6 * y + x) + 1))))); omega)⟩
  · skip
    have f3_ : v2 = 1 := by omega
    have f19 : ((h 96 (10 + 4 * (6 * y + x))) = 1 ∨ (h 96 (10 + 4 * (6 * y + x))) = 2) := f3.2.1 (by omega)
    clear f3
    refine ov_blk (ls2 := [(0, ov_r 90), (1, ov_i x), (2, ov_i y), (3, ov_i way)]) (st2 := [ov_i way]) (pc2 := 10) b_248_9_1 rfl rfl ?_
    refine ov_ifne (tgt := 26) d_248_10 (by decide) (by omega) (fun c20 => ?_) (fun c20 => ?_)
    · skip
      refine ov_blk (ls2 := [(0, ov_r 90), (1, ov_i x), (2, ov_i y), (3, ov_i way)]) (st2 := [ov_i 3, ov_i y, ov_i x, ov_r 90]) (pc2 := 30) b_248_26_4 rfl rfl ?_
      refine ov_cV (as := [ov_i x, ov_i y, ov_i 3]) (st := []) (d2 := d - 1) d_248_30 lk_Mo_289 rfl (Nat.le_of_ble_eq_true rfl) (c := 1) (zb_90 I) (zs_90 I) ⟨by decide, rfl⟩ (by omega) (c_Mo_lightAt_90 (d - 1) (by omega) U I x y 3 (by omega) (by omega) (by omega) (by omega) (by omega)) ?_
      rintro _ _ _ ⟨v22, rfl, rfl, rfl, f21⟩
      show ov_R u d ov_m248 33 [(0, ov_r 90), (1, ov_i x), (2, ov_i y), (3, ov_i way)] [ov_i v22] z h (P_Mo_canGo_90 F z h x y way)
      have f23 : v22 = (h 96 (10 + 4 * (6 * y + x) + (3 : Int))) ∧ ((3 : Int) = 1 → 0 ≤ v22 ∧ v22 ≤ 60) ∧ ((3 : Int) = 2 → 0 ≤ v22 ∧ v22 ≤ 59) ∧ ((3 : Int) = 3 → 0 ≤ v22 ∧ v22 ≤ 60) := f21
      clear f21
      refine ov_blk (ls2 := [(0, ov_r 90), (1, ov_i x), (2, ov_i y), (3, ov_i way)]) (st2 := [ov_i 1, ov_i y, ov_i x, ov_r 90, ov_i v22]) (pc2 := 37) b_248_33_4 rfl rfl ?_
      refine ov_cV (as := [ov_i x, ov_i y, ov_i 1]) (st := [ov_i v22]) (d2 := d - 1) d_248_37 lk_Mo_289 rfl (Nat.le_of_ble_eq_true rfl) (c := 1) (zb_90 I) (zs_90 I) ⟨by decide, rfl⟩ (by omega) (c_Mo_lightAt_90 (d - 1) (by omega) U I x y 1 (by omega) (by omega) (by omega) (by omega) (by omega)) ?_
      rintro _ _ _ ⟨v25, rfl, rfl, rfl, f24⟩
      show ov_R u d ov_m248 40 [(0, ov_r 90), (1, ov_i x), (2, ov_i y), (3, ov_i way)] [ov_i v25, ov_i v22] z h (P_Mo_canGo_90 F z h x y way)
      have f26 : v25 = (h 96 (10 + 4 * (6 * y + x) + (1 : Int))) ∧ ((1 : Int) = 1 → 0 ≤ v25 ∧ v25 ≤ 60) ∧ ((1 : Int) = 2 → 0 ≤ v25 ∧ v25 ≤ 59) ∧ ((1 : Int) = 3 → 0 ≤ v25 ∧ v25 ≤ 60) := f24
      clear f24
      refine ov_icge (tgt := 47) d_248_40 (by decide) (by omega) (by omega) (fun c27 => ?_) (fun c27 => ?_)
      · skip
        refine ov_blk (ls2 := [(0, ov_r 90), (1, ov_i x), (2, ov_i y), (3, ov_i way), (4, ov_i 0)]) (st2 := [ov_i way, ov_i y, ov_i x, ov_r 90]) (pc2 := 54) b_248_47_6 rfl rfl ?_
        refine ov_cV (as := [ov_i x, ov_i y, ov_i way]) (st := []) (d2 := d - 1) d_248_54 lk_Mo_250 rfl (Nat.le_of_ble_eq_true rfl) (c := 1) (zb_90 I) (zs_90 I) ⟨by decide, rfl⟩ (by omega) (c_Mo_isThere_90 (d - 1) (by omega) U I x y way (by omega) (by omega) (by omega)) ?_
        rintro _ _ _ ⟨v29, rfl, rfl, rfl, f28⟩
        show ov_R u d ov_m248 57 [(0, ov_r 90), (1, ov_i x), (2, ov_i y), (3, ov_i way), (4, ov_i 0)] [ov_i v29] z h (P_Mo_canGo_90 F z h x y way)
        have f30 : (v29 = 0 ∨ v29 = 1) ∧ (v29 = 1 → ((way = 0 → x < (h 96 0) - 1) ∧ (¬ way = 0 → y < (h 96 1) - 1))) ∧ (v29 = 0 → ¬ ((way = 0 → x < (h 96 0) - 1) ∧ (¬ way = 0 → y < (h 96 1) - 1))) := f28
        clear f28
        refine ov_ifeq (tgt := 79) d_248_57 (by decide) (by omega) (fun c31 => ?_) (fun c31 => ?_)
        · skip
          have f30_ : v29 = 0 := by omega
          have f32 : ¬ ((way = 0 → x < (h 96 0) - 1) ∧ (¬ way = 0 → y < (h 96 1) - 1)) := f30.2.2 (by omega)
          clear f30
          refine ov_blk (ls2 := [(0, ov_r 90), (1, ov_i x), (2, ov_i y), (3, ov_i way), (4, ov_i 0)]) (st2 := [ov_i 0]) (pc2 := 80) b_248_79_1 rfl rfl ?_
          have gc : ov_cgi (h 96) x y way = 0 := ov_cgi_0 (by omega)
          exact ov_retz (st := []) d_248_80 rfl (by omega) ⟨_, rfl, rfl, rfl, (by show (0 = 0 ∨ 0 = 1) ∧ 0 = ov_cgi (h 96) x y way ∧ (0 = 1 → ((way = 0 → x < (h 96 0) - 1) ∧ (¬ way = 0 → y < (h 96 1) - 1)) ∧ (((h 96 (10 + 4 * (6 * y + x))) = 1 ∨ (h 96 (10 + 4 * (6 * y + x))) = 2) → (way = 0 → 0 < (h 96 (10 + 4 * (6 * y + x) + 3))) ∧ (¬ way = 0 → (h 96 (10 + 4 * (6 * y + x) + 3)) < (h 96 (10 + 4 * (6 * y + x) + 1))))); omega)⟩
        · skip
          have f30_ : v29 = 1 := by omega
          have f33 : ((way = 0 → x < (h 96 0) - 1) ∧ (¬ way = 0 → y < (h 96 1) - 1)) := f30.2.1 (by omega)
          clear f30
          refine ov_blk (ls2 := [(0, ov_r 90), (1, ov_i x), (2, ov_i y), (3, ov_i way), (4, ov_i 0)]) (st2 := [ov_i way, ov_i y, ov_i x, ov_r 90]) (pc2 := 64) b_248_60_4 rfl rfl ?_
          refine ov_cV (as := [ov_i x, ov_i y, ov_i way]) (st := []) (d2 := d - 1) d_248_64 lk_Mo_254 rfl (Nat.le_of_ble_eq_true rfl) (c := 1) (zb_90 I) (zs_90 I) ⟨by decide, rfl⟩ (by omega) (c_Mo_isBarred_90 (d - 1) (by omega) U I x y way (by omega) (by omega) (by omega) (by omega) (by omega)) ?_
          rintro _ _ _ ⟨v35, rfl, rfl, rfl, f34⟩
          show ov_R u d ov_m248 67 [(0, ov_r 90), (1, ov_i x), (2, ov_i y), (3, ov_i way), (4, ov_i 0)] [ov_i v35] z h (P_Mo_canGo_90 F z h x y way)
          have f36 : (v35 = 0 ∨ v35 = 1) ∧ (v35 = 1 → ov_and (ov_shr ((h 96 (226 + 6 * y + x))) way) 1 = 1) ∧ (v35 = 0 → ¬ ov_and (ov_shr ((h 96 (226 + 6 * y + x))) way) 1 = 1) := f34
          clear f34
          refine ov_ifne (tgt := 79) d_248_67 (by decide) (by omega) (fun c37 => ?_) (fun c37 => ?_)
          · skip
            have f36_ : v35 = 1 := by omega
            have f38 : ov_and (ov_shr ((h 96 (226 + 6 * y + x))) way) 1 = 1 := f36.2.1 (by omega)
            clear f36
            refine ov_blk (ls2 := [(0, ov_r 90), (1, ov_i x), (2, ov_i y), (3, ov_i way), (4, ov_i 0)]) (st2 := [ov_i 0]) (pc2 := 80) b_248_79_1 rfl rfl ?_
            have gc : ov_cgi (h 96) x y way = 0 := ov_cgi_0 (by omega)
            exact ov_retz (st := []) d_248_80 rfl (by omega) ⟨_, rfl, rfl, rfl, (by show (0 = 0 ∨ 0 = 1) ∧ 0 = ov_cgi (h 96) x y way ∧ (0 = 1 → ((way = 0 → x < (h 96 0) - 1) ∧ (¬ way = 0 → y < (h 96 1) - 1)) ∧ (((h 96 (10 + 4 * (6 * y + x))) = 1 ∨ (h 96 (10 + 4 * (6 * y + x))) = 2) → (way = 0 → 0 < (h 96 (10 + 4 * (6 * y + x) + 3))) ∧ (¬ way = 0 → (h 96 (10 + 4 * (6 * y + x) + 3)) < (h 96 (10 + 4 * (6 * y + x) + 1))))); omega)⟩
          · skip
            have f36_ : v35 = 0 := by omega
            have f39 : ¬ ov_and (ov_shr ((h 96 (226 + 6 * y + x))) way) 1 = 1 := f36.2.2 (by omega)
            clear f36
            refine ov_blk (ls2 := [(0, ov_r 90), (1, ov_i x), (2, ov_i y), (3, ov_i way), (4, ov_i 0)]) (st2 := [ov_i 0]) (pc2 := 72) b_248_70_1 rfl rfl ?_
            refine ov_ifeq (tgt := 79) d_248_72 (by decide) (by omega) (fun c40 => ?_) (fun c40 => ?_)
            · skip
              refine ov_blk (ls2 := [(0, ov_r 90), (1, ov_i x), (2, ov_i y), (3, ov_i way), (4, ov_i 0)]) (st2 := [ov_i 0]) (pc2 := 80) b_248_79_1 rfl rfl ?_
              have gc : ov_cgi (h 96) x y way = 0 := ov_cgi_0 (by omega)
              exact ov_retz (st := []) d_248_80 rfl (by omega) ⟨_, rfl, rfl, rfl, (by show (0 = 0 ∨ 0 = 1) ∧ 0 = ov_cgi (h 96) x y way ∧ (0 = 1 → ((way = 0 → x < (h 96 0) - 1) ∧ (¬ way = 0 → y < (h 96 1) - 1)) ∧ (((h 96 (10 + 4 * (6 * y + x))) = 1 ∨ (h 96 (10 + 4 * (6 * y + x))) = 2) → (way = 0 → 0 < (h 96 (10 + 4 * (6 * y + x) + 3))) ∧ (¬ way = 0 → (h 96 (10 + 4 * (6 * y + x) + 3)) < (h 96 (10 + 4 * (6 * y + x) + 1))))); omega)⟩
            · omega
      · skip
        refine ov_blk (ls2 := [(0, ov_r 90), (1, ov_i x), (2, ov_i y), (3, ov_i way)]) (st2 := [ov_i 1]) (pc2 := 44) b_248_43_1 rfl rfl ?_
        refine ov_goto (tgt := 48) d_248_44 (by decide) ?_
        refine ov_blk (ls2 := [(0, ov_r 90), (1, ov_i x), (2, ov_i y), (3, ov_i way), (4, ov_i 1)]) (st2 := [ov_i way, ov_i y, ov_i x, ov_r 90]) (pc2 := 54) b_248_48_5 rfl rfl ?_
        refine ov_cV (as := [ov_i x, ov_i y, ov_i way]) (st := []) (d2 := d - 1) d_248_54 lk_Mo_250 rfl (Nat.le_of_ble_eq_true rfl) (c := 1) (zb_90 I) (zs_90 I) ⟨by decide, rfl⟩ (by omega) (c_Mo_isThere_90 (d - 1) (by omega) U I x y way (by omega) (by omega) (by omega)) ?_
        rintro _ _ _ ⟨v42, rfl, rfl, rfl, f41⟩
        show ov_R u d ov_m248 57 [(0, ov_r 90), (1, ov_i x), (2, ov_i y), (3, ov_i way), (4, ov_i 1)] [ov_i v42] z h (P_Mo_canGo_90 F z h x y way)
        have f43 : (v42 = 0 ∨ v42 = 1) ∧ (v42 = 1 → ((way = 0 → x < (h 96 0) - 1) ∧ (¬ way = 0 → y < (h 96 1) - 1))) ∧ (v42 = 0 → ¬ ((way = 0 → x < (h 96 0) - 1) ∧ (¬ way = 0 → y < (h 96 1) - 1))) := f41
        clear f41
        refine ov_ifeq (tgt := 79) d_248_57 (by decide) (by omega) (fun c44 => ?_) (fun c44 => ?_)
        · skip
          have f43_ : v42 = 0 := by omega
          have f45 : ¬ ((way = 0 → x < (h 96 0) - 1) ∧ (¬ way = 0 → y < (h 96 1) - 1)) := f43.2.2 (by omega)
          clear f43
          refine ov_blk (ls2 := [(0, ov_r 90), (1, ov_i x), (2, ov_i y), (3, ov_i way), (4, ov_i 1)]) (st2 := [ov_i 0]) (pc2 := 80) b_248_79_1 rfl rfl ?_
          have gc : ov_cgi (h 96) x y way = 0 := ov_cgi_0 (by omega)
          exact ov_retz (st := []) d_248_80 rfl (by omega) ⟨_, rfl, rfl, rfl, (by show (0 = 0 ∨ 0 = 1) ∧ 0 = ov_cgi (h 96) x y way ∧ (0 = 1 → ((way = 0 → x < (h 96 0) - 1) ∧ (¬ way = 0 → y < (h 96 1) - 1)) ∧ (((h 96 (10 + 4 * (6 * y + x))) = 1 ∨ (h 96 (10 + 4 * (6 * y + x))) = 2) → (way = 0 → 0 < (h 96 (10 + 4 * (6 * y + x) + 3))) ∧ (¬ way = 0 → (h 96 (10 + 4 * (6 * y + x) + 3)) < (h 96 (10 + 4 * (6 * y + x) + 1))))); omega)⟩
        · skip
          have f43_ : v42 = 1 := by omega
          have f46 : ((way = 0 → x < (h 96 0) - 1) ∧ (¬ way = 0 → y < (h 96 1) - 1)) := f43.2.1 (by omega)
          clear f43
          refine ov_blk (ls2 := [(0, ov_r 90), (1, ov_i x), (2, ov_i y), (3, ov_i way), (4, ov_i 1)]) (st2 := [ov_i way, ov_i y, ov_i x, ov_r 90]) (pc2 := 64) b_248_60_4 rfl rfl ?_
          refine ov_cV (as := [ov_i x, ov_i y, ov_i way]) (st := []) (d2 := d - 1) d_248_64 lk_Mo_254 rfl (Nat.le_of_ble_eq_true rfl) (c := 1) (zb_90 I) (zs_90 I) ⟨by decide, rfl⟩ (by omega) (c_Mo_isBarred_90 (d - 1) (by omega) U I x y way (by omega) (by omega) (by omega) (by omega) (by omega)) ?_
          rintro _ _ _ ⟨v48, rfl, rfl, rfl, f47⟩
          show ov_R u d ov_m248 67 [(0, ov_r 90), (1, ov_i x), (2, ov_i y), (3, ov_i way), (4, ov_i 1)] [ov_i v48] z h (P_Mo_canGo_90 F z h x y way)
          have f49 : (v48 = 0 ∨ v48 = 1) ∧ (v48 = 1 → ov_and (ov_shr ((h 96 (226 + 6 * y + x))) way) 1 = 1) ∧ (v48 = 0 → ¬ ov_and (ov_shr ((h 96 (226 + 6 * y + x))) way) 1 = 1) := f47
          clear f47
          refine ov_ifne (tgt := 79) d_248_67 (by decide) (by omega) (fun c50 => ?_) (fun c50 => ?_)
          · skip
            have f49_ : v48 = 1 := by omega
            have f51 : ov_and (ov_shr ((h 96 (226 + 6 * y + x))) way) 1 = 1 := f49.2.1 (by omega)
            clear f49
            refine ov_blk (ls2 := [(0, ov_r 90), (1, ov_i x), (2, ov_i y), (3, ov_i way), (4, ov_i 1)]) (st2 := [ov_i 0]) (pc2 := 80) b_248_79_1 rfl rfl ?_
            have gc : ov_cgi (h 96) x y way = 0 := ov_cgi_0 (by omega)
            exact ov_retz (st := []) d_248_80 rfl (by omega) ⟨_, rfl, rfl, rfl, (by show (0 = 0 ∨ 0 = 1) ∧ 0 = ov_cgi (h 96) x y way ∧ (0 = 1 → ((way = 0 → x < (h 96 0) - 1) ∧ (¬ way = 0 → y < (h 96 1) - 1)) ∧ (((h 96 (10 + 4 * (6 * y + x))) = 1 ∨ (h 96 (10 + 4 * (6 * y + x))) = 2) → (way = 0 → 0 < (h 96 (10 + 4 * (6 * y + x) + 3))) ∧ (¬ way = 0 → (h 96 (10 + 4 * (6 * y + x) + 3)) < (h 96 (10 + 4 * (6 * y + x) + 1))))); omega)⟩
          · skip
            have f49_ : v48 = 0 := by omega
            have f52 : ¬ ov_and (ov_shr ((h 96 (226 + 6 * y + x))) way) 1 = 1 := f49.2.2 (by omega)
            clear f49
            refine ov_blk (ls2 := [(0, ov_r 90), (1, ov_i x), (2, ov_i y), (3, ov_i way), (4, ov_i 1)]) (st2 := [ov_i 1]) (pc2 := 72) b_248_70_1 rfl rfl ?_
            refine ov_ifeq (tgt := 79) d_248_72 (by decide) (by omega) (fun c53 => ?_) (fun c53 => ?_)
            · omega
            · skip
              refine ov_blk (ls2 := [(0, ov_r 90), (1, ov_i x), (2, ov_i y), (3, ov_i way), (4, ov_i 1)]) (st2 := [ov_i 1]) (pc2 := 76) b_248_75_1 rfl rfl ?_
              refine ov_goto (tgt := 80) d_248_76 (by decide) ?_
              have gc : ov_cgi (h 96) x y way = 1 := ov_cgi_1 (by omega) (by omega) (by omega)
              exact ov_retz (st := []) d_248_80 rfl (by omega) ⟨_, rfl, rfl, rfl, (by show (1 = 0 ∨ 1 = 1) ∧ 1 = ov_cgi (h 96) x y way ∧ (1 = 1 → ((way = 0 → x < (h 96 0) - 1) ∧ (¬ way = 0 → y < (h 96 1) - 1)) ∧ (((h 96 (10 + 4 * (6 * y + x))) = 1 ∨ (h 96 (10 + 4 * (6 * y + x))) = 2) → (way = 0 → 0 < (h 96 (10 + 4 * (6 * y + x) + 3))) ∧ (¬ way = 0 → (h 96 (10 + 4 * (6 * y + x) + 3)) < (h 96 (10 + 4 * (6 * y + x) + 1))))); omega)⟩
    · skip
      refine ov_blk (ls2 := [(0, ov_r 90), (1, ov_i x), (2, ov_i y), (3, ov_i way)]) (st2 := [ov_i 3, ov_i y, ov_i x, ov_r 90]) (pc2 := 17) b_248_13_4 rfl rfl ?_
      refine ov_cV (as := [ov_i x, ov_i y, ov_i 3]) (st := []) (d2 := d - 1) d_248_17 lk_Mo_289 rfl (Nat.le_of_ble_eq_true rfl) (c := 1) (zb_90 I) (zs_90 I) ⟨by decide, rfl⟩ (by omega) (c_Mo_lightAt_90 (d - 1) (by omega) U I x y 3 (by omega) (by omega) (by omega) (by omega) (by omega)) ?_
      rintro _ _ _ ⟨v55, rfl, rfl, rfl, f54⟩
      show ov_R u d ov_m248 20 [(0, ov_r 90), (1, ov_i x), (2, ov_i y), (3, ov_i way)] [ov_i v55] z h (P_Mo_canGo_90 F z h x y way)
      have f56 : v55 = (h 96 (10 + 4 * (6 * y + x) + (3 : Int))) ∧ ((3 : Int) = 1 → 0 ≤ v55 ∧ v55 ≤ 60) ∧ ((3 : Int) = 2 → 0 ≤ v55 ∧ v55 ≤ 59) ∧ ((3 : Int) = 3 → 0 ≤ v55 ∧ v55 ≤ 60) := f54
      clear f54
      refine ov_ifle (tgt := 47) d_248_20 (by decide) (by omega) (fun c57 => ?_) (fun c57 => ?_)
      · skip
        refine ov_blk (ls2 := [(0, ov_r 90), (1, ov_i x), (2, ov_i y), (3, ov_i way), (4, ov_i 0)]) (st2 := [ov_i way, ov_i y, ov_i x, ov_r 90]) (pc2 := 54) b_248_47_6 rfl rfl ?_
        refine ov_cV (as := [ov_i x, ov_i y, ov_i way]) (st := []) (d2 := d - 1) d_248_54 lk_Mo_250 rfl (Nat.le_of_ble_eq_true rfl) (c := 1) (zb_90 I) (zs_90 I) ⟨by decide, rfl⟩ (by omega) (c_Mo_isThere_90 (d - 1) (by omega) U I x y way (by omega) (by omega) (by omega)) ?_
        rintro _ _ _ ⟨v59, rfl, rfl, rfl, f58⟩
        show ov_R u d ov_m248 57 [(0, ov_r 90), (1, ov_i x), (2, ov_i y), (3, ov_i way), (4, ov_i 0)] [ov_i v59] z h (P_Mo_canGo_90 F z h x y way)
        have f60 : (v59 = 0 ∨ v59 = 1) ∧ (v59 = 1 → ((way = 0 → x < (h 96 0) - 1) ∧ (¬ way = 0 → y < (h 96 1) - 1))) ∧ (v59 = 0 → ¬ ((way = 0 → x < (h 96 0) - 1) ∧ (¬ way = 0 → y < (h 96 1) - 1))) := f58
        clear f58
        refine ov_ifeq (tgt := 79) d_248_57 (by decide) (by omega) (fun c61 => ?_) (fun c61 => ?_)
        · skip
          have f60_ : v59 = 0 := by omega
          have f62 : ¬ ((way = 0 → x < (h 96 0) - 1) ∧ (¬ way = 0 → y < (h 96 1) - 1)) := f60.2.2 (by omega)
          clear f60
          refine ov_blk (ls2 := [(0, ov_r 90), (1, ov_i x), (2, ov_i y), (3, ov_i way), (4, ov_i 0)]) (st2 := [ov_i 0]) (pc2 := 80) b_248_79_1 rfl rfl ?_
          have gc : ov_cgi (h 96) x y way = 0 := ov_cgi_0 (by omega)
          exact ov_retz (st := []) d_248_80 rfl (by omega) ⟨_, rfl, rfl, rfl, (by show (0 = 0 ∨ 0 = 1) ∧ 0 = ov_cgi (h 96) x y way ∧ (0 = 1 → ((way = 0 → x < (h 96 0) - 1) ∧ (¬ way = 0 → y < (h 96 1) - 1)) ∧ (((h 96 (10 + 4 * (6 * y + x))) = 1 ∨ (h 96 (10 + 4 * (6 * y + x))) = 2) → (way = 0 → 0 < (h 96 (10 + 4 * (6 * y + x) + 3))) ∧ (¬ way = 0 → (h 96 (10 + 4 * (6 * y + x) + 3)) < (h 96 (10 + 4 * (6 * y + x) + 1))))); omega)⟩
        · skip
          have f60_ : v59 = 1 := by omega
          have f63 : ((way = 0 → x < (h 96 0) - 1) ∧ (¬ way = 0 → y < (h 96 1) - 1)) := f60.2.1 (by omega)
          clear f60
          refine ov_blk (ls2 := [(0, ov_r 90), (1, ov_i x), (2, ov_i y), (3, ov_i way), (4, ov_i 0)]) (st2 := [ov_i way, ov_i y, ov_i x, ov_r 90]) (pc2 := 64) b_248_60_4 rfl rfl ?_
          refine ov_cV (as := [ov_i x, ov_i y, ov_i way]) (st := []) (d2 := d - 1) d_248_64 lk_Mo_254 rfl (Nat.le_of_ble_eq_true rfl) (c := 1) (zb_90 I) (zs_90 I) ⟨by decide, rfl⟩ (by omega) (c_Mo_isBarred_90 (d - 1) (by omega) U I x y way (by omega) (by omega) (by omega) (by omega) (by omega)) ?_
          rintro _ _ _ ⟨v65, rfl, rfl, rfl, f64⟩
          show ov_R u d ov_m248 67 [(0, ov_r 90), (1, ov_i x), (2, ov_i y), (3, ov_i way), (4, ov_i 0)] [ov_i v65] z h (P_Mo_canGo_90 F z h x y way)
          have f66 : (v65 = 0 ∨ v65 = 1) ∧ (v65 = 1 → ov_and (ov_shr ((h 96 (226 + 6 * y + x))) way) 1 = 1) ∧ (v65 = 0 → ¬ ov_and (ov_shr ((h 96 (226 + 6 * y + x))) way) 1 = 1) := f64
          clear f64
          refine ov_ifne (tgt := 79) d_248_67 (by decide) (by omega) (fun c67 => ?_) (fun c67 => ?_)
          · skip
            have f66_ : v65 = 1 := by omega
            have f68 : ov_and (ov_shr ((h 96 (226 + 6 * y + x))) way) 1 = 1 := f66.2.1 (by omega)
            clear f66
            refine ov_blk (ls2 := [(0, ov_r 90), (1, ov_i x), (2, ov_i y), (3, ov_i way), (4, ov_i 0)]) (st2 := [ov_i 0]) (pc2 := 80) b_248_79_1 rfl rfl ?_
            have gc : ov_cgi (h 96) x y way = 0 := ov_cgi_0 (by omega)
            exact ov_retz (st := []) d_248_80 rfl (by omega) ⟨_, rfl, rfl, rfl, (by show (0 = 0 ∨ 0 = 1) ∧ 0 = ov_cgi (h 96) x y way ∧ (0 = 1 → ((way = 0 → x < (h 96 0) - 1) ∧ (¬ way = 0 → y < (h 96 1) - 1)) ∧ (((h 96 (10 + 4 * (6 * y + x))) = 1 ∨ (h 96 (10 + 4 * (6 * y + x))) = 2) → (way = 0 → 0 < (h 96 (10 + 4 * (6 * y + x) + 3))) ∧ (¬ way = 0 → (h 96 (10 + 4 * (6 * y + x) + 3)) < (h 96 (10 + 4 * (6 * y + x) + 1))))); omega)⟩
          · skip
            have f66_ : v65 = 0 := by omega
            have f69 : ¬ ov_and (ov_shr ((h 96 (226 + 6 * y + x))) way) 1 = 1 := f66.2.2 (by omega)
            clear f66
            refine ov_blk (ls2 := [(0, ov_r 90), (1, ov_i x), (2, ov_i y), (3, ov_i way), (4, ov_i 0)]) (st2 := [ov_i 0]) (pc2 := 72) b_248_70_1 rfl rfl ?_
            refine ov_ifeq (tgt := 79) d_248_72 (by decide) (by omega) (fun c70 => ?_) (fun c70 => ?_)
            · skip
              refine ov_blk (ls2 := [(0, ov_r 90), (1, ov_i x), (2, ov_i y), (3, ov_i way), (4, ov_i 0)]) (st2 := [ov_i 0]) (pc2 := 80) b_248_79_1 rfl rfl ?_
              have gc : ov_cgi (h 96) x y way = 0 := ov_cgi_0 (by omega)
              exact ov_retz (st := []) d_248_80 rfl (by omega) ⟨_, rfl, rfl, rfl, (by show (0 = 0 ∨ 0 = 1) ∧ 0 = ov_cgi (h 96) x y way ∧ (0 = 1 → ((way = 0 → x < (h 96 0) - 1) ∧ (¬ way = 0 → y < (h 96 1) - 1)) ∧ (((h 96 (10 + 4 * (6 * y + x))) = 1 ∨ (h 96 (10 + 4 * (6 * y + x))) = 2) → (way = 0 → 0 < (h 96 (10 + 4 * (6 * y + x) + 3))) ∧ (¬ way = 0 → (h 96 (10 + 4 * (6 * y + x) + 3)) < (h 96 (10 + 4 * (6 * y + x) + 1))))); omega)⟩
            · omega
      · skip
        refine ov_goto (tgt := 43) d_248_23 (by decide) ?_
        refine ov_blk (ls2 := [(0, ov_r 90), (1, ov_i x), (2, ov_i y), (3, ov_i way)]) (st2 := [ov_i 1]) (pc2 := 44) b_248_43_1 rfl rfl ?_
        refine ov_goto (tgt := 48) d_248_44 (by decide) ?_
        refine ov_blk (ls2 := [(0, ov_r 90), (1, ov_i x), (2, ov_i y), (3, ov_i way), (4, ov_i 1)]) (st2 := [ov_i way, ov_i y, ov_i x, ov_r 90]) (pc2 := 54) b_248_48_5 rfl rfl ?_
        refine ov_cV (as := [ov_i x, ov_i y, ov_i way]) (st := []) (d2 := d - 1) d_248_54 lk_Mo_250 rfl (Nat.le_of_ble_eq_true rfl) (c := 1) (zb_90 I) (zs_90 I) ⟨by decide, rfl⟩ (by omega) (c_Mo_isThere_90 (d - 1) (by omega) U I x y way (by omega) (by omega) (by omega)) ?_
        rintro _ _ _ ⟨v72, rfl, rfl, rfl, f71⟩
        show ov_R u d ov_m248 57 [(0, ov_r 90), (1, ov_i x), (2, ov_i y), (3, ov_i way), (4, ov_i 1)] [ov_i v72] z h (P_Mo_canGo_90 F z h x y way)
        have f73 : (v72 = 0 ∨ v72 = 1) ∧ (v72 = 1 → ((way = 0 → x < (h 96 0) - 1) ∧ (¬ way = 0 → y < (h 96 1) - 1))) ∧ (v72 = 0 → ¬ ((way = 0 → x < (h 96 0) - 1) ∧ (¬ way = 0 → y < (h 96 1) - 1))) := f71
        clear f71
        refine ov_ifeq (tgt := 79) d_248_57 (by decide) (by omega) (fun c74 => ?_) (fun c74 => ?_)
        · skip
          have f73_ : v72 = 0 := by omega
          have f75 : ¬ ((way = 0 → x < (h 96 0) - 1) ∧ (¬ way = 0 → y < (h 96 1) - 1)) := f73.2.2 (by omega)
          clear f73
          refine ov_blk (ls2 := [(0, ov_r 90), (1, ov_i x), (2, ov_i y), (3, ov_i way), (4, ov_i 1)]) (st2 := [ov_i 0]) (pc2 := 80) b_248_79_1 rfl rfl ?_
          have gc : ov_cgi (h 96) x y way = 0 := ov_cgi_0 (by omega)
          exact ov_retz (st := []) d_248_80 rfl (by omega) ⟨_, rfl, rfl, rfl, (by show (0 = 0 ∨ 0 = 1) ∧ 0 = ov_cgi (h 96) x y way ∧ (0 = 1 → ((way = 0 → x < (h 96 0) - 1) ∧ (¬ way = 0 → y < (h 96 1) - 1)) ∧ (((h 96 (10 + 4 * (6 * y + x))) = 1 ∨ (h 96 (10 + 4 * (6 * y + x))) = 2) → (way = 0 → 0 < (h 96 (10 + 4 * (6 * y + x) + 3))) ∧ (¬ way = 0 → (h 96 (10 + 4 * (6 * y + x) + 3)) < (h 96 (10 + 4 * (6 * y + x) + 1))))); omega)⟩
        · skip
          have f73_ : v72 = 1 := by omega
          have f76 : ((way = 0 → x < (h 96 0) - 1) ∧ (¬ way = 0 → y < (h 96 1) - 1)) := f73.2.1 (by omega)
          clear f73
          refine ov_blk (ls2 := [(0, ov_r 90), (1, ov_i x), (2, ov_i y), (3, ov_i way), (4, ov_i 1)]) (st2 := [ov_i way, ov_i y, ov_i x, ov_r 90]) (pc2 := 64) b_248_60_4 rfl rfl ?_
          refine ov_cV (as := [ov_i x, ov_i y, ov_i way]) (st := []) (d2 := d - 1) d_248_64 lk_Mo_254 rfl (Nat.le_of_ble_eq_true rfl) (c := 1) (zb_90 I) (zs_90 I) ⟨by decide, rfl⟩ (by omega) (c_Mo_isBarred_90 (d - 1) (by omega) U I x y way (by omega) (by omega) (by omega) (by omega) (by omega)) ?_
          rintro _ _ _ ⟨v78, rfl, rfl, rfl, f77⟩
          show ov_R u d ov_m248 67 [(0, ov_r 90), (1, ov_i x), (2, ov_i y), (3, ov_i way), (4, ov_i 1)] [ov_i v78] z h (P_Mo_canGo_90 F z h x y way)
          have f79 : (v78 = 0 ∨ v78 = 1) ∧ (v78 = 1 → ov_and (ov_shr ((h 96 (226 + 6 * y + x))) way) 1 = 1) ∧ (v78 = 0 → ¬ ov_and (ov_shr ((h 96 (226 + 6 * y + x))) way) 1 = 1) := f77
          clear f77
          refine ov_ifne (tgt := 79) d_248_67 (by decide) (by omega) (fun c80 => ?_) (fun c80 => ?_)
          · skip
            have f79_ : v78 = 1 := by omega
            have f81 : ov_and (ov_shr ((h 96 (226 + 6 * y + x))) way) 1 = 1 := f79.2.1 (by omega)
            clear f79
            refine ov_blk (ls2 := [(0, ov_r 90), (1, ov_i x), (2, ov_i y), (3, ov_i way), (4, ov_i 1)]) (st2 := [ov_i 0]) (pc2 := 80) b_248_79_1 rfl rfl ?_
            have gc : ov_cgi (h 96) x y way = 0 := ov_cgi_0 (by omega)
            exact ov_retz (st := []) d_248_80 rfl (by omega) ⟨_, rfl, rfl, rfl, (by show (0 = 0 ∨ 0 = 1) ∧ 0 = ov_cgi (h 96) x y way ∧ (0 = 1 → ((way = 0 → x < (h 96 0) - 1) ∧ (¬ way = 0 → y < (h 96 1) - 1)) ∧ (((h 96 (10 + 4 * (6 * y + x))) = 1 ∨ (h 96 (10 + 4 * (6 * y + x))) = 2) → (way = 0 → 0 < (h 96 (10 + 4 * (6 * y + x) + 3))) ∧ (¬ way = 0 → (h 96 (10 + 4 * (6 * y + x) + 3)) < (h 96 (10 + 4 * (6 * y + x) + 1))))); omega)⟩
          · skip
            have f79_ : v78 = 0 := by omega
            have f82 : ¬ ov_and (ov_shr ((h 96 (226 + 6 * y + x))) way) 1 = 1 := f79.2.2 (by omega)
            clear f79
            refine ov_blk (ls2 := [(0, ov_r 90), (1, ov_i x), (2, ov_i y), (3, ov_i way), (4, ov_i 1)]) (st2 := [ov_i 1]) (pc2 := 72) b_248_70_1 rfl rfl ?_
            refine ov_ifeq (tgt := 79) d_248_72 (by decide) (by omega) (fun c83 => ?_) (fun c83 => ?_)
            · omega
            · skip
              refine ov_blk (ls2 := [(0, ov_r 90), (1, ov_i x), (2, ov_i y), (3, ov_i way), (4, ov_i 1)]) (st2 := [ov_i 1]) (pc2 := 76) b_248_75_1 rfl rfl ?_
              refine ov_goto (tgt := 80) d_248_76 (by decide) ?_
              have gc : ov_cgi (h 96) x y way = 1 := ov_cgi_1 (by omega) (by omega) (by omega)
              exact ov_retz (st := []) d_248_80 rfl (by omega) ⟨_, rfl, rfl, rfl, (by show (1 = 0 ∨ 1 = 1) ∧ 1 = ov_cgi (h 96) x y way ∧ (1 = 1 → ((way = 0 → x < (h 96 0) - 1) ∧ (¬ way = 0 → y < (h 96 1) - 1)) ∧ (((h 96 (10 + 4 * (6 * y + x))) = 1 ∨ (h 96 (10 + 4 * (6 * y + x))) = 2) → (way = 0 → 0 < (h 96 (10 + 4 * (6 * y + x) + 3))) ∧ (¬ way = 0 → (h 96 (10 + 4 * (6 * y + x) + 3)) < (h 96 (10 + 4 * (6 * y + x) + 1))))); omega)⟩
abbrev P_Mo_isHome_90 (F : ov_H × ov_Z) (z : ov_Z) (h : ov_H) (x : Int) (y : Int) : Option ov_V → ov_Z → ov_H → Prop := fun r0 z' h' => ∃ r : Int, r0 = some (ov_i r) ∧ z = z' ∧ h = h' ∧ ((r = 0 ∨ r = 1) ∧ (r = 1 → x = (h 96 0) - 1 ∧ y = (h 96 1) - 1) ∧ (r = 0 → ¬ (x = (h 96 0) - 1 ∧ y = (h 96 1) - 1)))
set_option maxHeartbeats 4000000 in
theorem c_Mo_isHome_90 {u : ov_U} {F : ov_H × ov_Z} {z : ov_Z} {h : ov_H} (d : Nat) (hd : 1 ≤ d) (U : ov_cap u) (I : ov_N F z h) (x : Int) (y : Int) (g_x : ov_g x) (g_y : ov_g y) (p0 : 0 ≤ x ∧ x ≤ 5 ∧ 0 ≤ y ∧ y ≤ 8) : ov_T u d ov_m263 [ov_r 90, ov_i x, ov_i y] z h (P_Mo_isHome_90 F z h x y) := by
  refine ov_en rfl (Nat.le_of_ble_eq_true rfl) ?_
  show ov_R u d ov_m263 0 [(0, ov_r 90), (1, ov_i x), (2, ov_i y)] [] z h (P_Mo_isHome_90 F z h x y)
  refine ov_blk (ls2 := [(0, ov_r 90), (1, ov_i x), (2, ov_i y)]) (st2 := [ov_r 90, ov_i x]) (pc2 := 2) b_263_0_2 rfl rfl ?_
  refine ov_cV (as := []) (st := [ov_i x]) (d2 := d - 1) d_263_2 lk_Mo_275 rfl (Nat.le_of_ble_eq_true rfl) (c := 1) (zb_90 I) (zs_90 I) ⟨by decide, rfl⟩ (by omega) (c_Mo_wide_90 (d - 1) (by omega) U I) ?_
  rintro _ _ _ ⟨v2, rfl, rfl, rfl, f1⟩
  show ov_R u d ov_m263 5 [(0, ov_r 90), (1, ov_i x), (2, ov_i y)] [ov_i v2, ov_i x] z h (P_Mo_isHome_90 F z h x y)
  have f3 : v2 = (h 96 0) ∧ 1 ≤ v2 ∧ v2 ≤ 6 := f1
  clear f1
  refine ov_blk (ls2 := [(0, ov_r 90), (1, ov_i x), (2, ov_i y)]) (st2 := [ov_i (v2 - 1), ov_i x]) (pc2 := 7) b_263_5_2 rfl rfl ?_
  refine ov_icne (tgt := 24) d_263_7 (by decide) (by omega) (by omega) (fun c4 => ?_) (fun c4 => ?_)
  · skip
    refine ov_blk (ls2 := [(0, ov_r 90), (1, ov_i x), (2, ov_i y)]) (st2 := [ov_i 0]) (pc2 := 25) b_263_24_1 rfl rfl ?_
    exact ov_retz (st := []) d_263_25 rfl (by omega) ⟨_, rfl, rfl, rfl, (by show (0 = 0 ∨ 0 = 1) ∧ (0 = 1 → x = (h 96 0) - 1 ∧ y = (h 96 1) - 1) ∧ (0 = 0 → ¬ (x = (h 96 0) - 1 ∧ y = (h 96 1) - 1)); omega)⟩
  · skip
    refine ov_blk (ls2 := [(0, ov_r 90), (1, ov_i x), (2, ov_i y)]) (st2 := [ov_r 90, ov_i y]) (pc2 := 12) b_263_10_2 rfl rfl ?_
    refine ov_cV (as := []) (st := [ov_i y]) (d2 := d - 1) d_263_12 lk_Mo_279 rfl (Nat.le_of_ble_eq_true rfl) (c := 1) (zb_90 I) (zs_90 I) ⟨by decide, rfl⟩ (by omega) (c_Mo_deep_90 (d - 1) (by omega) U I) ?_
    rintro _ _ _ ⟨v6, rfl, rfl, rfl, f5⟩
    show ov_R u d ov_m263 15 [(0, ov_r 90), (1, ov_i x), (2, ov_i y)] [ov_i v6, ov_i y] z h (P_Mo_isHome_90 F z h x y)
    have f7 : v6 = (h 96 1) ∧ 1 ≤ v6 ∧ v6 ≤ 9 := f5
    clear f5
    refine ov_blk (ls2 := [(0, ov_r 90), (1, ov_i x), (2, ov_i y)]) (st2 := [ov_i (v6 - 1), ov_i y]) (pc2 := 17) b_263_15_2 rfl rfl ?_
    refine ov_icne (tgt := 24) d_263_17 (by decide) (by omega) (by omega) (fun c8 => ?_) (fun c8 => ?_)
    · skip
      refine ov_blk (ls2 := [(0, ov_r 90), (1, ov_i x), (2, ov_i y)]) (st2 := [ov_i 0]) (pc2 := 25) b_263_24_1 rfl rfl ?_
      exact ov_retz (st := []) d_263_25 rfl (by omega) ⟨_, rfl, rfl, rfl, (by show (0 = 0 ∨ 0 = 1) ∧ (0 = 1 → x = (h 96 0) - 1 ∧ y = (h 96 1) - 1) ∧ (0 = 0 → ¬ (x = (h 96 0) - 1 ∧ y = (h 96 1) - 1)); omega)⟩
    · skip
      refine ov_blk (ls2 := [(0, ov_r 90), (1, ov_i x), (2, ov_i y)]) (st2 := [ov_i 1]) (pc2 := 21) b_263_20_1 rfl rfl ?_
      refine ov_goto (tgt := 25) d_263_21 (by decide) ?_
      exact ov_retz (st := []) d_263_25 rfl (by omega) ⟨_, rfl, rfl, rfl, (by show (1 = 0 ∨ 1 = 1) ∧ (1 = 1 → x = (h 96 0) - 1 ∧ y = (h 96 1) - 1) ∧ (1 = 0 → ¬ (x = (h 96 0) - 1 ∧ y = (h 96 1) - 1)); omega)⟩
abbrev P_Mo_isGreen_90 (F : ov_H × ov_Z) (z : ov_Z) (h : ov_H) (x : Int) (y : Int) (way : Int) (s : Int) : Option ov_V → ov_Z → ov_H → Prop := fun r0 z' h' => ∃ r : Int, r0 = some (ov_i r) ∧ z = z' ∧ h = h' ∧ ((r = 0 ∨ r = 1) ∧ (r = 1 → (ov_ph s ((h 96 (10 + 4 * (6 * y + x) + 2))) ((h 96 (10 + 4 * (6 * y + x) + 1))) < (h 96 (10 + 4 * (6 * y + x) + 3)) ∧ way = 0) ∨ (¬ ov_ph s ((h 96 (10 + 4 * (6 * y + x) + 2))) ((h 96 (10 + 4 * (6 * y + x) + 1))) < (h 96 (10 + 4 * (6 * y + x) + 3)) ∧ ¬ way = 0)) ∧ (r = 0 → (ov_ph s ((h 96 (10 + 4 * (6 * y + x) + 2))) ((h 96 (10 + 4 * (6 * y + x) + 1))) < (h 96 (10 + 4 * (6 * y + x) + 3)) ∧ ¬ way = 0) ∨ (¬ ov_ph s ((h 96 (10 + 4 * (6 * y + x) + 2))) ((h 96 (10 + 4 * (6 * y + x) + 1))) < (h 96 (10 + 4 * (6 * y + x) + 3)) ∧ way = 0)))
set_option maxHeartbeats 4000000 in
theorem c_Mo_isGreen_90 {u : ov_U} {F : ov_H × ov_Z} {z : ov_Z} {h : ov_H} (d : Nat) (hd : 1 ≤ d) (U : ov_cap u) (I : ov_N F z h) (x : Int) (y : Int) (way : Int) (s : Int) (g_x : ov_g x) (g_y : ov_g y) (g_way : ov_g way) (g_s : ov_g s) (p0 : 0 ≤ x ∧ x ≤ 5 ∧ 0 ≤ y ∧ y ≤ 8) (p1 : 1 ≤ (h 96 (10 + 4 * (6 * y + x) + 1))) (p2 : -1000000000 ≤ s ∧ s ≤ 1000000000) : ov_T u d ov_m250 [ov_r 90, ov_i x, ov_i y, ov_i way, ov_i s] z h (P_Mo_isGreen_90 F z h x y way s) := by
  refine ov_en rfl (Nat.le_of_ble_eq_true rfl) ?_
  show ov_R u d ov_m250 0 [(0, ov_r 90), (1, ov_i x), (2, ov_i y), (3, ov_i way), (4, ov_i s)] [] z h (P_Mo_isGreen_90 F z h x y way s)
  refine ov_blk (ls2 := [(0, ov_r 90), (1, ov_i x), (2, ov_i y), (3, ov_i way), (4, ov_i s)]) (st2 := [ov_i 1, ov_i y, ov_i x, ov_r 90]) (pc2 := 4) b_250_0_4 rfl rfl ?_
  refine ov_cV (as := [ov_i x, ov_i y, ov_i 1]) (st := []) (d2 := d - 1) d_250_4 lk_Mo_289 rfl (Nat.le_of_ble_eq_true rfl) (c := 1) (zb_90 I) (zs_90 I) ⟨by decide, rfl⟩ (by omega) (c_Mo_lightAt_90 (d - 1) (by omega) U I x y 1 (by omega) (by omega) (by omega) (by omega) (by omega)) ?_
  rintro _ _ _ ⟨v2, rfl, rfl, rfl, f1⟩
  show ov_R u d ov_m250 7 [(0, ov_r 90), (1, ov_i x), (2, ov_i y), (3, ov_i way), (4, ov_i s)] [ov_i v2] z h (P_Mo_isGreen_90 F z h x y way s)
  have f3 : v2 = (h 96 (10 + 4 * (6 * y + x) + (1 : Int))) ∧ ((1 : Int) = 1 → 0 ≤ v2 ∧ v2 ≤ 60) ∧ ((1 : Int) = 2 → 0 ≤ v2 ∧ v2 ≤ 59) ∧ ((1 : Int) = 3 → 0 ≤ v2 ∧ v2 ≤ 60) := f1
  clear f1
  refine ov_blk (ls2 := [(0, ov_r 90), (1, ov_i x), (2, ov_i y), (3, ov_i way), (4, ov_i s), (5, ov_i v2)]) (st2 := [ov_i 2, ov_i y, ov_i x, ov_r 90, ov_i s]) (pc2 := 15) b_250_7_6 rfl rfl ?_
  refine ov_cV (as := [ov_i x, ov_i y, ov_i 2]) (st := [ov_i s]) (d2 := d - 1) d_250_15 lk_Mo_289 rfl (Nat.le_of_ble_eq_true rfl) (c := 1) (zb_90 I) (zs_90 I) ⟨by decide, rfl⟩ (by omega) (c_Mo_lightAt_90 (d - 1) (by omega) U I x y 2 (by omega) (by omega) (by omega) (by omega) (by omega)) ?_
  rintro _ _ _ ⟨v5, rfl, rfl, rfl, f4⟩
  show ov_R u d ov_m250 18 [(0, ov_r 90), (1, ov_i x), (2, ov_i y), (3, ov_i way), (4, ov_i s), (5, ov_i v2)] [ov_i v5, ov_i s] z h (P_Mo_isGreen_90 F z h x y way s)
  have f6 : v5 = (h 96 (10 + 4 * (6 * y + x) + (2 : Int))) ∧ ((2 : Int) = 1 → 0 ≤ v5 ∧ v5 ≤ 60) ∧ ((2 : Int) = 2 → 0 ≤ v5 ∧ v5 ≤ 59) ∧ ((2 : Int) = 3 → 0 ≤ v5 ∧ v5 ≤ 60) := f4
  clear f4
  refine ov_blk (ls2 := [(0, ov_r 90), (1, ov_i x), (2, ov_i y), (3, ov_i way), (4, ov_i s), (5, ov_i v2)]) (st2 := [ov_i v2, ov_i (s - v5)]) (pc2 := 21) b_250_18_2 rfl rfl ?_
  have gr1 := ov_tms (a := (s - v5)) (b := v2) (by omega)
  refine ov_irem d_250_21 (by omega) (by omega) (by omega) ?_
  have g7 := ov_tmg (a := (s - v5)) (b := v2) (by omega) (by omega)
  refine ov_blk (ls2 := [(0, ov_r 90), (1, ov_i x), (2, ov_i y), (3, ov_i way), (4, ov_i s), (5, ov_i v2)]) (st2 := [ov_i v2, ov_i ((Int.tmod (s - v5) v2) + v2)]) (pc2 := 27) b_250_22_3 rfl rfl ?_
  have gr2 : Int.tmod ((Int.tmod (s - v5) v2) + v2) v2 = ov_ph s (h 96 (10 + 4 * (6 * y + x) + 2)) (h 96 (10 + 4 * (6 * y + x) + 1)) := by rw [ov_ph_tm (by omega)]; unfold ov_ph; congr 1 <;> omega
  have gr3 := ov_ph_rng (s := s) (o := h 96 (10 + 4 * (6 * y + x) + 2)) (rd := h 96 (10 + 4 * (6 * y + x) + 1)) (by omega)
  refine ov_irem d_250_27 (by omega) (by omega) (by omega) ?_
  have g8 := ov_tmg (a := ((Int.tmod (s - v5) v2) + v2)) (b := v2) (by omega) (by omega)
  refine ov_blk (ls2 := [(0, ov_r 90), (1, ov_i x), (2, ov_i y), (3, ov_i way), (4, ov_i s), (5, ov_i v2), (6, ov_i (Int.tmod ((Int.tmod (s - v5) v2) + v2) v2))]) (st2 := [ov_i 3, ov_i y, ov_i x, ov_r 90, ov_i (Int.tmod ((Int.tmod (s - v5) v2) + v2) v2)]) (pc2 := 36) b_250_28_6 rfl rfl ?_
  refine ov_cV (as := [ov_i x, ov_i y, ov_i 3]) (st := [ov_i (Int.tmod ((Int.tmod (s - v5) v2) + v2) v2)]) (d2 := d - 1) d_250_36 lk_Mo_289 rfl (Nat.le_of_ble_eq_true rfl) (c := 1) (zb_90 I) (zs_90 I) ⟨by decide, rfl⟩ (by omega) (c_Mo_lightAt_90 (d - 1) (by omega) U I x y 3 (by omega) (by omega) (by omega) (by omega) (by omega)) ?_
  rintro _ _ _ ⟨v10, rfl, rfl, rfl, f9⟩
  show ov_R u d ov_m250 39 [(0, ov_r 90), (1, ov_i x), (2, ov_i y), (3, ov_i way), (4, ov_i s), (5, ov_i v2), (6, ov_i (Int.tmod ((Int.tmod (s - v5) v2) + v2) v2))] [ov_i v10, ov_i (Int.tmod ((Int.tmod (s - v5) v2) + v2) v2)] z h (P_Mo_isGreen_90 F z h x y way s)
  have f11 : v10 = (h 96 (10 + 4 * (6 * y + x) + (3 : Int))) ∧ ((3 : Int) = 1 → 0 ≤ v10 ∧ v10 ≤ 60) ∧ ((3 : Int) = 2 → 0 ≤ v10 ∧ v10 ≤ 59) ∧ ((3 : Int) = 3 → 0 ≤ v10 ∧ v10 ≤ 60) := f9
  clear f9
  refine ov_icge (tgt := 46) d_250_39 (by decide) (by omega) (by omega) (fun c12 => ?_) (fun c12 => ?_)
  · skip
    refine ov_blk (ls2 := [(0, ov_r 90), (1, ov_i x), (2, ov_i y), (3, ov_i way), (4, ov_i s), (5, ov_i v2), (6, ov_i (Int.tmod ((Int.tmod (s - v5) v2) + v2) v2))]) (st2 := [ov_i way, ov_i 0]) (pc2 := 48) b_250_46_2 rfl rfl ?_
    refine ov_ifne (tgt := 55) d_250_48 (by decide) (by omega) (fun c13 => ?_) (fun c13 => ?_)
    · skip
      refine ov_blk (ls2 := [(0, ov_r 90), (1, ov_i x), (2, ov_i y), (3, ov_i way), (4, ov_i s), (5, ov_i v2), (6, ov_i (Int.tmod ((Int.tmod (s - v5) v2) + v2) v2))]) (st2 := [ov_i 0, ov_i 0]) (pc2 := 56) b_250_55_1 rfl rfl ?_
      refine ov_icne (tgt := 63) d_250_56 (by decide) (by omega) (by omega) (fun c14 => ?_) (fun c14 => ?_)
      · omega
      · skip
        refine ov_blk (ls2 := [(0, ov_r 90), (1, ov_i x), (2, ov_i y), (3, ov_i way), (4, ov_i s), (5, ov_i v2), (6, ov_i (Int.tmod ((Int.tmod (s - v5) v2) + v2) v2))]) (st2 := [ov_i 1]) (pc2 := 60) b_250_59_1 rfl rfl ?_
        refine ov_goto (tgt := 64) d_250_60 (by decide) ?_
        exact ov_retz (st := []) d_250_64 rfl (by omega) ⟨_, rfl, rfl, rfl, (by show (1 = 0 ∨ 1 = 1) ∧ (1 = 1 → (ov_ph s ((h 96 (10 + 4 * (6 * y + x) + 2))) ((h 96 (10 + 4 * (6 * y + x) + 1))) < (h 96 (10 + 4 * (6 * y + x) + 3)) ∧ way = 0) ∨ (¬ ov_ph s ((h 96 (10 + 4 * (6 * y + x) + 2))) ((h 96 (10 + 4 * (6 * y + x) + 1))) < (h 96 (10 + 4 * (6 * y + x) + 3)) ∧ ¬ way = 0)) ∧ (1 = 0 → (ov_ph s ((h 96 (10 + 4 * (6 * y + x) + 2))) ((h 96 (10 + 4 * (6 * y + x) + 1))) < (h 96 (10 + 4 * (6 * y + x) + 3)) ∧ ¬ way = 0) ∨ (¬ ov_ph s ((h 96 (10 + 4 * (6 * y + x) + 2))) ((h 96 (10 + 4 * (6 * y + x) + 1))) < (h 96 (10 + 4 * (6 * y + x) + 3)) ∧ way = 0)); omega)⟩
    · skip
      refine ov_blk (ls2 := [(0, ov_r 90), (1, ov_i x), (2, ov_i y), (3, ov_i way), (4, ov_i s), (5, ov_i v2), (6, ov_i (Int.tmod ((Int.tmod (s - v5) v2) + v2) v2))]) (st2 := [ov_i 1, ov_i 0]) (pc2 := 52) b_250_51_1 rfl rfl ?_
      refine ov_goto (tgt := 56) d_250_52 (by decide) ?_
      refine ov_icne (tgt := 63) d_250_56 (by decide) (by omega) (by omega) (fun c15 => ?_) (fun c15 => ?_)
      · skip
        refine ov_blk (ls2 := [(0, ov_r 90), (1, ov_i x), (2, ov_i y), (3, ov_i way), (4, ov_i s), (5, ov_i v2), (6, ov_i (Int.tmod ((Int.tmod (s - v5) v2) + v2) v2))]) (st2 := [ov_i 0]) (pc2 := 64) b_250_63_1 rfl rfl ?_
        exact ov_retz (st := []) d_250_64 rfl (by omega) ⟨_, rfl, rfl, rfl, (by show (0 = 0 ∨ 0 = 1) ∧ (0 = 1 → (ov_ph s ((h 96 (10 + 4 * (6 * y + x) + 2))) ((h 96 (10 + 4 * (6 * y + x) + 1))) < (h 96 (10 + 4 * (6 * y + x) + 3)) ∧ way = 0) ∨ (¬ ov_ph s ((h 96 (10 + 4 * (6 * y + x) + 2))) ((h 96 (10 + 4 * (6 * y + x) + 1))) < (h 96 (10 + 4 * (6 * y + x) + 3)) ∧ ¬ way = 0)) ∧ (0 = 0 → (ov_ph s ((h 96 (10 + 4 * (6 * y + x) + 2))) ((h 96 (10 + 4 * (6 * y + x) + 1))) < (h 96 (10 + 4 * (6 * y + x) + 3)) ∧ ¬ way = 0) ∨ (¬ ov_ph s ((h 96 (10 + 4 * (6 * y + x) + 2))) ((h 96 (10 + 4 * (6 * y + x) + 1))) < (h 96 (10 + 4 * (6 * y + x) + 3)) ∧ way = 0)); omega)⟩
      · omega
  · skip
    refine ov_blk (ls2 := [(0, ov_r 90), (1, ov_i x), (2, ov_i y), (3, ov_i way), (4, ov_i s), (5, ov_i v2), (6, ov_i (Int.tmod ((Int.tmod (s - v5) v2) + v2) v2))]) (st2 := [ov_i 1]) (pc2 := 43) b_250_42_1 rfl rfl ?_
    refine ov_goto (tgt := 47) d_250_43 (by decide) ?_
    refine ov_blk (ls2 := [(0, ov_r 90), (1, ov_i x), (2, ov_i y), (3, ov_i way), (4, ov_i s), (5, ov_i v2), (6, ov_i (Int.tmod ((Int.tmod (s - v5) v2) + v2) v2))]) (st2 := [ov_i way, ov_i 1]) (pc2 := 48) b_250_47_1 rfl rfl ?_
    refine ov_ifne (tgt := 55) d_250_48 (by decide) (by omega) (fun c16 => ?_) (fun c16 => ?_)
    · skip
      refine ov_blk (ls2 := [(0, ov_r 90), (1, ov_i x), (2, ov_i y), (3, ov_i way), (4, ov_i s), (5, ov_i v2), (6, ov_i (Int.tmod ((Int.tmod (s - v5) v2) + v2) v2))]) (st2 := [ov_i 0, ov_i 1]) (pc2 := 56) b_250_55_1 rfl rfl ?_
      refine ov_icne (tgt := 63) d_250_56 (by decide) (by omega) (by omega) (fun c17 => ?_) (fun c17 => ?_)
      · skip
        refine ov_blk (ls2 := [(0, ov_r 90), (1, ov_i x), (2, ov_i y), (3, ov_i way), (4, ov_i s), (5, ov_i v2), (6, ov_i (Int.tmod ((Int.tmod (s - v5) v2) + v2) v2))]) (st2 := [ov_i 0]) (pc2 := 64) b_250_63_1 rfl rfl ?_
        exact ov_retz (st := []) d_250_64 rfl (by omega) ⟨_, rfl, rfl, rfl, (by show (0 = 0 ∨ 0 = 1) ∧ (0 = 1 → (ov_ph s ((h 96 (10 + 4 * (6 * y + x) + 2))) ((h 96 (10 + 4 * (6 * y + x) + 1))) < (h 96 (10 + 4 * (6 * y + x) + 3)) ∧ way = 0) ∨ (¬ ov_ph s ((h 96 (10 + 4 * (6 * y + x) + 2))) ((h 96 (10 + 4 * (6 * y + x) + 1))) < (h 96 (10 + 4 * (6 * y + x) + 3)) ∧ ¬ way = 0)) ∧ (0 = 0 → (ov_ph s ((h 96 (10 + 4 * (6 * y + x) + 2))) ((h 96 (10 + 4 * (6 * y + x) + 1))) < (h 96 (10 + 4 * (6 * y + x) + 3)) ∧ ¬ way = 0) ∨ (¬ ov_ph s ((h 96 (10 + 4 * (6 * y + x) + 2))) ((h 96 (10 + 4 * (6 * y + x) + 1))) < (h 96 (10 + 4 * (6 * y + x) + 3)) ∧ way = 0)); omega)⟩
      · omega
    · skip
      refine ov_blk (ls2 := [(0, ov_r 90), (1, ov_i x), (2, ov_i y), (3, ov_i way), (4, ov_i s), (5, ov_i v2), (6, ov_i (Int.tmod ((Int.tmod (s - v5) v2) + v2) v2))]) (st2 := [ov_i 1, ov_i 1]) (pc2 := 52) b_250_51_1 rfl rfl ?_
      refine ov_goto (tgt := 56) d_250_52 (by decide) ?_
      refine ov_icne (tgt := 63) d_250_56 (by decide) (by omega) (by omega) (fun c18 => ?_) (fun c18 => ?_)
      · omega
      · skip
        refine ov_blk (ls2 := [(0, ov_r 90), (1, ov_i x), (2, ov_i y), (3, ov_i way), (4, ov_i s), (5, ov_i v2), (6, ov_i (Int.tmod ((Int.tmod (s - v5) v2) + v2) v2))]) (st2 := [ov_i 1]) (pc2 := 60) b_250_59_1 rfl rfl ?_
        refine ov_goto (tgt := 64) d_250_60 (by decide) ?_
        exact ov_retz (st := []) d_250_64 rfl (by omega) ⟨_, rfl, rfl, rfl, (by show (1 = 0 ∨ 1 = 1) ∧ (1 = 1 → (ov_ph s ((h 96 (10 + 4 * (6 * y + x) + 2))) ((h 96 (10 + 4 * (6 * y + x) + 1))) < (h 96 (10 + 4 * (6 * y + x) + 3)) ∧ way = 0) ∨ (¬ ov_ph s ((h 96 (10 + 4 * (6 * y + x) + 2))) ((h 96 (10 + 4 * (6 * y + x) + 1))) < (h 96 (10 + 4 * (6 * y + x) + 3)) ∧ ¬ way = 0)) ∧ (1 = 0 → (ov_ph s ((h 96 (10 + 4 * (6 * y + x) + 2))) ((h 96 (10 + 4 * (6 * y + x) + 1))) < (h 96 (10 + 4 * (6 * y + x) + 3)) ∧ ¬ way = 0) ∨ (¬ ov_ph s ((h 96 (10 + 4 * (6 * y + x) + 2))) ((h 96 (10 + 4 * (6 * y + x) + 1))) < (h 96 (10 + 4 * (6 * y + x) + 3)) ∧ way = 0)); omega)⟩
abbrev P_Mo_waitFor_90 (F : ov_H × ov_Z) (z : ov_Z) (h : ov_H) (x : Int) (y : Int) (way : Int) (s : Int) : Option ov_V → ov_Z → ov_H → Prop := fun r0 z' h' => ∃ r : Int, r0 = some (ov_i r) ∧ z = z' ∧ h = h' ∧ (0 ≤ r ∧ r ≤ 59 ∧ r = ov_wm (h 96) (6 * y + x) way s)
set_option maxHeartbeats 4000000 in
theorem c_Mo_waitFor_90 {u : ov_U} {F : ov_H × ov_Z} {z : ov_Z} {h : ov_H} (d : Nat) (hd : 2 ≤ d) (U : ov_cap u) (I : ov_N F z h) (x : Int) (y : Int) (way : Int) (s : Int) (g_x : ov_g x) (g_y : ov_g y) (g_way : ov_g way) (g_s : ov_g s) (p0 : 0 ≤ x ∧ x ≤ 5 ∧ 0 ≤ y ∧ y ≤ 8) (p1 : 0 ≤ way ∧ way ≤ 1) (p2 : -900000000 ≤ s ∧ s ≤ 900000000) (p3 : (((h 96 (10 + 4 * (6 * y + x))) = 1 ∨ (h 96 (10 + 4 * (6 * y + x))) = 2) → (way = 0 → 0 < (h 96 (10 + 4 * (6 * y + x) + 3))) ∧ (¬ way = 0 → (h 96 (10 + 4 * (6 * y + x) + 3)) < (h 96 (10 + 4 * (6 * y + x) + 1))))) (W : ov_WT (h 96)) : ov_T u d ov_m252 [ov_r 90, ov_i x, ov_i y, ov_i way, ov_i s] z h (P_Mo_waitFor_90 F z h x y way s) := by
  refine ov_en rfl (Nat.le_of_ble_eq_true rfl) ?_
  show ov_R u d ov_m252 0 [(0, ov_r 90), (1, ov_i x), (2, ov_i y), (3, ov_i way), (4, ov_i s)] [] z h (P_Mo_waitFor_90 F z h x y way s)
  have w1 := ov_WT_at W (c := 6 * y + x) (by omega)
  have w2 := ov_wm_sp (h 96) (6 * y + x) way s
  have w3 := l96m_1 I (k := 10 + 4 * (6 * y + x) + 1) (c := 6 * y + x) (by omega) (by omega)
  have w4 : 0 < h 96 (10 + 4 * (6 * y + x) + 1) → 0 ≤ ov_ph s (h 96 (10 + 4 * (6 * y + x) + 2)) (h 96 (10 + 4 * (6 * y + x) + 1)) ∧ ov_ph s (h 96 (10 + 4 * (6 * y + x) + 2)) (h 96 (10 + 4 * (6 * y + x) + 1)) < h 96 (10 + 4 * (6 * y + x) + 1) := fun q => ov_ph_rng q
  refine ov_blk (ls2 := [(0, ov_r 90), (1, ov_i x), (2, ov_i y), (3, ov_i way), (4, ov_i s)]) (st2 := [ov_i y, ov_i x, ov_r 90]) (pc2 := 3) b_252_0_3 rfl rfl ?_
  refine ov_cV (as := [ov_i x, ov_i y]) (st := []) (d2 := d - 1) d_252_3 lk_Mo_282 rfl (Nat.le_of_ble_eq_true rfl) (c := 1) (zb_90 I) (zs_90 I) ⟨by decide, rfl⟩ (by omega) (c_Mo_kindAt_90 (d - 1) (by omega) U I x y (by omega) (by omega) (by omega)) ?_
  rintro _ _ _ ⟨v2, rfl, rfl, rfl, f1⟩
  show ov_R u d ov_m252 6 [(0, ov_r 90), (1, ov_i x), (2, ov_i y), (3, ov_i way), (4, ov_i s)] [ov_i v2] z h (P_Mo_waitFor_90 F z h x y way s)
  have f3 : v2 = (h 96 (10 + 4 * (6 * y + x))) - 1 ∧ -1 ≤ v2 ∧ v2 ≤ 3 := f1
  clear f1
  refine ov_blk (ls2 := [(0, ov_r 90), (1, ov_i x), (2, ov_i y), (3, ov_i way), (4, ov_i s)]) (st2 := [ov_i 2, ov_i v2]) (pc2 := 7) b_252_6_1 rfl rfl ?_
  refine ov_icne (tgt := 26) d_252_7 (by decide) (by omega) (by omega) (fun c4 => ?_) (fun c4 => ?_)
  · skip
    refine ov_blk (ls2 := [(0, ov_r 90), (1, ov_i x), (2, ov_i y), (3, ov_i way), (4, ov_i s), (5, ov_i 0)]) (st2 := []) (pc2 := 29) b_252_26_2 rfl rfl ?_
    have L8 : ∀ (n5 : Nat) (x5 : Int) (q7 : 0 ≤ x5 ∧ x5 ≤ 59 ∧ (0 < x5 → ((h 96 (10 + 4 * (6 * y + x))) = 1 ∨ (h 96 (10 + 4 * (6 * y + x))) = 2) ∧ ov_ph s ((h 96 (10 + 4 * (6 * y + x) + 2))) ((h 96 (10 + 4 * (6 * y + x) + 1))) + x5 ≤ (h 96 (10 + 4 * (6 * y + x) + 1)) ∧ (way = 0 → (h 96 (10 + 4 * (6 * y + x) + 3)) ≤ ov_ph s ((h 96 (10 + 4 * (6 * y + x) + 2))) ((h 96 (10 + 4 * (6 * y + x) + 1)))) ∧ (¬ way = 0 → ov_ph s ((h 96 (10 + 4 * (6 * y + x) + 2))) ((h 96 (10 + 4 * (6 * y + x) + 1))) < (h 96 (10 + 4 * (6 * y + x) + 3)) ∧ ov_ph s ((h 96 (10 + 4 * (6 * y + x) + 2))) ((h 96 (10 + 4 * (6 * y + x) + 1))) + x5 ≤ (h 96 (10 + 4 * (6 * y + x) + 3))))), 60 - x5 < (n5 : Int) → ov_R u d ov_m252 29 [(0, ov_r 90), (1, ov_i x), (2, ov_i y), (3, ov_i way), (4, ov_i s), (5, ov_i x5)] [] z h (P_Mo_waitFor_90 F z h x y way s) := by
      intro n5
      induction n5 with
      | zero =>
        intro x5 q7 hn9
        exact absurd hn9 (by omega)
      | succ n5 ih6 =>
        intro x5 q7 hn9
        refine ov_blk (ls2 := [(0, ov_r 90), (1, ov_i x), (2, ov_i y), (3, ov_i way), (4, ov_i s), (5, ov_i x5)]) (st2 := [ov_i y, ov_i x, ov_r 90]) (pc2 := 32) b_252_29_3 rfl rfl ?_
        refine ov_cV (as := [ov_i x, ov_i y]) (st := []) (d2 := d - 1) d_252_32 lk_Mo_285 rfl (Nat.le_of_ble_eq_true rfl) (c := 1) (zb_90 I) (zs_90 I) ⟨by decide, rfl⟩ (by omega) (c_Mo_isTimed_90 (d - 1) (by omega) U I x y (by omega) (by omega) (by omega)) ?_
        rintro _ _ _ ⟨v11, rfl, rfl, rfl, f10⟩
        show ov_R u d ov_m252 35 [(0, ov_r 90), (1, ov_i x), (2, ov_i y), (3, ov_i way), (4, ov_i s), (5, ov_i x5)] [ov_i v11] z h (P_Mo_waitFor_90 F z h x y way s)
        have f12 : (v11 = 0 ∨ v11 = 1) ∧ (v11 = 1 → ((h 96 (10 + 4 * (6 * y + x))) = 1 ∨ (h 96 (10 + 4 * (6 * y + x))) = 2)) ∧ (v11 = 0 → ¬ ((h 96 (10 + 4 * (6 * y + x))) = 1 ∨ (h 96 (10 + 4 * (6 * y + x))) = 2)) := f10
        clear f10
        refine ov_ifeq (tgt := 59) d_252_35 (by decide) (by omega) (fun c13 => ?_) (fun c13 => ?_)
        · skip
          have f12_ : v11 = 0 := by omega
          have f14 : ¬ ((h 96 (10 + 4 * (6 * y + x))) = 1 ∨ (h 96 (10 + 4 * (6 * y + x))) = 2) := f12.2.2 (by omega)
          clear f12
          refine ov_blk (ls2 := [(0, ov_r 90), (1, ov_i x), (2, ov_i y), (3, ov_i way), (4, ov_i s), (5, ov_i x5)]) (st2 := [ov_i x5]) (pc2 := 61) b_252_59_1 rfl rfl ?_
          exact ov_reti (st := []) d_252_61 rfl ⟨_, rfl, rfl, rfl, (by show 0 ≤ x5 ∧ x5 ≤ 59 ∧ x5 = ov_wm (h 96) (6 * y + x) way s; omega)⟩
        · skip
          have f12_ : v11 = 1 := by omega
          have f15 : ((h 96 (10 + 4 * (6 * y + x))) = 1 ∨ (h 96 (10 + 4 * (6 * y + x))) = 2) := f12.2.1 (by omega)
          clear f12
          have w5 := ov_ph_add (s := s) (o := h 96 (10 + 4 * (6 * y + x) + 2)) (rd := h 96 (10 + 4 * (6 * y + x) + 1)) (by omega) x5 (by omega)
          refine ov_blk (ls2 := [(0, ov_r 90), (1, ov_i x), (2, ov_i y), (3, ov_i way), (4, ov_i s), (5, ov_i x5)]) (st2 := [ov_i (s + x5), ov_i way, ov_i y, ov_i x, ov_r 90]) (pc2 := 47) b_252_38_7 rfl rfl ?_
          refine ov_cV (as := [ov_i x, ov_i y, ov_i way, ov_i (s + x5)]) (st := []) (d2 := d - 1) d_252_47 lk_Mo_292 rfl (Nat.le_of_ble_eq_true rfl) (c := 1) (zb_90 I) (zs_90 I) ⟨by decide, rfl⟩ (by omega) (c_Mo_isGreen_90 (d - 1) (by omega) U I x y way (s + x5) (by omega) (by omega) (by omega) (by omega) (by omega) (by show 1 ≤ (h 96 (10 + 4 * (6 * y + x) + 1)); omega) (by omega)) ?_
          rintro _ _ _ ⟨v17, rfl, rfl, rfl, f16⟩
          show ov_R u d ov_m252 50 [(0, ov_r 90), (1, ov_i x), (2, ov_i y), (3, ov_i way), (4, ov_i s), (5, ov_i x5)] [ov_i v17] z h (P_Mo_waitFor_90 F z h x y way s)
          have f18 : (v17 = 0 ∨ v17 = 1) ∧ (v17 = 1 → (ov_ph (s + x5) ((h 96 (10 + 4 * (6 * y + x) + 2))) ((h 96 (10 + 4 * (6 * y + x) + 1))) < (h 96 (10 + 4 * (6 * y + x) + 3)) ∧ way = 0) ∨ (¬ ov_ph (s + x5) ((h 96 (10 + 4 * (6 * y + x) + 2))) ((h 96 (10 + 4 * (6 * y + x) + 1))) < (h 96 (10 + 4 * (6 * y + x) + 3)) ∧ ¬ way = 0)) ∧ (v17 = 0 → (ov_ph (s + x5) ((h 96 (10 + 4 * (6 * y + x) + 2))) ((h 96 (10 + 4 * (6 * y + x) + 1))) < (h 96 (10 + 4 * (6 * y + x) + 3)) ∧ ¬ way = 0) ∨ (¬ ov_ph (s + x5) ((h 96 (10 + 4 * (6 * y + x) + 2))) ((h 96 (10 + 4 * (6 * y + x) + 1))) < (h 96 (10 + 4 * (6 * y + x) + 3)) ∧ way = 0)) := f16
          clear f16
          refine ov_ifne (tgt := 59) d_252_50 (by decide) (by omega) (fun c19 => ?_) (fun c19 => ?_)
          · skip
            have f18_ : v17 = 1 := by omega
            have f20 : (ov_ph (s + x5) ((h 96 (10 + 4 * (6 * y + x) + 2))) ((h 96 (10 + 4 * (6 * y + x) + 1))) < (h 96 (10 + 4 * (6 * y + x) + 3)) ∧ way = 0) ∨ (¬ ov_ph (s + x5) ((h 96 (10 + 4 * (6 * y + x) + 2))) ((h 96 (10 + 4 * (6 * y + x) + 1))) < (h 96 (10 + 4 * (6 * y + x) + 3)) ∧ ¬ way = 0) := f18.2.1 (by omega)
            clear f18
            refine ov_blk (ls2 := [(0, ov_r 90), (1, ov_i x), (2, ov_i y), (3, ov_i way), (4, ov_i s), (5, ov_i x5)]) (st2 := [ov_i x5]) (pc2 := 61) b_252_59_1 rfl rfl ?_
            exact ov_reti (st := []) d_252_61 rfl ⟨_, rfl, rfl, rfl, (by show 0 ≤ x5 ∧ x5 ≤ 59 ∧ x5 = ov_wm (h 96) (6 * y + x) way s; omega)⟩
          · skip
            have f18_ : v17 = 0 := by omega
            have f21 : (ov_ph (s + x5) ((h 96 (10 + 4 * (6 * y + x) + 2))) ((h 96 (10 + 4 * (6 * y + x) + 1))) < (h 96 (10 + 4 * (6 * y + x) + 3)) ∧ ¬ way = 0) ∨ (¬ ov_ph (s + x5) ((h 96 (10 + 4 * (6 * y + x) + 2))) ((h 96 (10 + 4 * (6 * y + x) + 1))) < (h 96 (10 + 4 * (6 * y + x) + 3)) ∧ way = 0) := f18.2.2 (by omega)
            clear f18
            refine ov_blk (ls2 := [(0, ov_r 90), (1, ov_i x), (2, ov_i y), (3, ov_i way), (4, ov_i s), (5, ov_i (x5 + 1))]) (st2 := []) (pc2 := 56) b_252_53_1 rfl rfl ?_
            refine ov_goto (tgt := 29) d_252_56 (by decide) ?_
            exact ih6 (x5 + 1) (by show 0 ≤ (x5 + 1) ∧ (x5 + 1) ≤ 59 ∧ (0 < (x5 + 1) → ((h 96 (10 + 4 * (6 * y + x))) = 1 ∨ (h 96 (10 + 4 * (6 * y + x))) = 2) ∧ ov_ph s ((h 96 (10 + 4 * (6 * y + x) + 2))) ((h 96 (10 + 4 * (6 * y + x) + 1))) + (x5 + 1) ≤ (h 96 (10 + 4 * (6 * y + x) + 1)) ∧ (way = 0 → (h 96 (10 + 4 * (6 * y + x) + 3)) ≤ ov_ph s ((h 96 (10 + 4 * (6 * y + x) + 2))) ((h 96 (10 + 4 * (6 * y + x) + 1)))) ∧ (¬ way = 0 → ov_ph s ((h 96 (10 + 4 * (6 * y + x) + 2))) ((h 96 (10 + 4 * (6 * y + x) + 1))) < (h 96 (10 + 4 * (6 * y + x) + 3)) ∧ ov_ph s ((h 96 (10 + 4 * (6 * y + x) + 2))) ((h 96 (10 + 4 * (6 * y + x) + 1))) + (x5 + 1) ≤ (h 96 (10 + 4 * (6 * y + x) + 3)))); omega) (by omega)
    exact L8 61 0 (by show 0 ≤ 0 ∧ 0 ≤ 59 ∧ (0 < 0 → ((h 96 (10 + 4 * (6 * y + x))) = 1 ∨ (h 96 (10 + 4 * (6 * y + x))) = 2) ∧ ov_ph s ((h 96 (10 + 4 * (6 * y + x) + 2))) ((h 96 (10 + 4 * (6 * y + x) + 1))) + 0 ≤ (h 96 (10 + 4 * (6 * y + x) + 1)) ∧ (way = 0 → (h 96 (10 + 4 * (6 * y + x) + 3)) ≤ ov_ph s ((h 96 (10 + 4 * (6 * y + x) + 2))) ((h 96 (10 + 4 * (6 * y + x) + 1)))) ∧ (¬ way = 0 → ov_ph s ((h 96 (10 + 4 * (6 * y + x) + 2))) ((h 96 (10 + 4 * (6 * y + x) + 1))) < (h 96 (10 + 4 * (6 * y + x) + 3)) ∧ ov_ph s ((h 96 (10 + 4 * (6 * y + x) + 2))) ((h 96 (10 + 4 * (6 * y + x) + 1))) + 0 ≤ (h 96 (10 + 4 * (6 * y + x) + 3)))); omega) (by omega)
  · skip
    refine ov_blk (ls2 := [(0, ov_r 90), (1, ov_i x), (2, ov_i y), (3, ov_i way), (4, ov_i s)]) (st2 := [ov_i way]) (pc2 := 11) b_252_10_1 rfl rfl ?_
    refine ov_ifne (tgt := 24) d_252_11 (by decide) (by omega) (fun c22 => ?_) (fun c22 => ?_)
    · skip
      refine ov_blk (ls2 := [(0, ov_r 90), (1, ov_i x), (2, ov_i y), (3, ov_i way), (4, ov_i s)]) (st2 := [ov_i 0]) (pc2 := 25) b_252_24_1 rfl rfl ?_
      exact ov_reti (st := []) d_252_25 rfl ⟨_, rfl, rfl, rfl, (by show 0 ≤ 0 ∧ 0 ≤ 59 ∧ 0 = ov_wm (h 96) (6 * y + x) way s; omega)⟩
    · skip
      refine ov_blk (ls2 := [(0, ov_r 90), (1, ov_i x), (2, ov_i y), (3, ov_i way), (4, ov_i s)]) (st2 := [ov_i 2, ov_i y, ov_i x, ov_r 90]) (pc2 := 18) b_252_14_4 rfl rfl ?_
      refine ov_cV (as := [ov_i x, ov_i y, ov_i 2]) (st := []) (d2 := d - 1) d_252_18 lk_Mo_289 rfl (Nat.le_of_ble_eq_true rfl) (c := 1) (zb_90 I) (zs_90 I) ⟨by decide, rfl⟩ (by omega) (c_Mo_lightAt_90 (d - 1) (by omega) U I x y 2 (by omega) (by omega) (by omega) (by omega) (by omega)) ?_
      rintro _ _ _ ⟨v24, rfl, rfl, rfl, f23⟩
      show ov_R u d ov_m252 21 [(0, ov_r 90), (1, ov_i x), (2, ov_i y), (3, ov_i way), (4, ov_i s)] [ov_i v24] z h (P_Mo_waitFor_90 F z h x y way s)
      have f25 : v24 = (h 96 (10 + 4 * (6 * y + x) + (2 : Int))) ∧ ((2 : Int) = 1 → 0 ≤ v24 ∧ v24 ≤ 60) ∧ ((2 : Int) = 2 → 0 ≤ v24 ∧ v24 ≤ 59) ∧ ((2 : Int) = 3 → 0 ≤ v24 ∧ v24 ≤ 60) := f23
      clear f23
      refine ov_goto (tgt := 25) d_252_21 (by decide) ?_
      exact ov_reti (st := []) d_252_25 rfl ⟨_, rfl, rfl, rfl, (by show 0 ≤ v24 ∧ v24 ≤ 59 ∧ v24 = ov_wm (h 96) (6 * y + x) way s; omega)⟩

theorem b_271_0_1 : ov_ds ov_m271.2.1 0 [.aload_n 0] = true := by decide +kernel
theorem d_271_1 : decode ov_m271.2.1 1 = .ok (.getfield 116, 3) := by decide +kernel
theorem b_271_4_1 : ov_ds ov_m271.2.1 4 [.iload_n 1] = true := by decide +kernel
theorem d_271_5 : decode ov_m271.2.1 5 = .ok (.if_icmp .ne 39, 3) := by decide +kernel
theorem b_271_44_2 : ov_ds ov_m271.2.1 44 [.aload_n 0, .iload_n 1] = true := by decide +kernel
theorem d_271_46 : decode ov_m271.2.1 46 = .ok (.putfield 116, 3) := by decide +kernel
theorem b_271_49_2 : ov_ds ov_m271.2.1 49 [.aload_n 0, .iload_n 2] = true := by decide +kernel
theorem d_271_51 : decode ov_m271.2.1 51 = .ok (.putfield 349, 3) := by decide +kernel
theorem b_271_54_2 : ov_ds ov_m271.2.1 54 [.aload_n 0, .aload_n 0] = true := by decide +kernel
theorem d_271_56 : decode ov_m271.2.1 56 = .ok (.getfield 322, 3) := by decide +kernel
theorem d_271_59 : decode ov_m271.2.1 59 = .ok (.putfield 353, 3) := by decide +kernel
theorem b_271_62_2 : ov_ds ov_m271.2.1 62 [.aload_n 0, .iload_n 3] = true := by decide +kernel
theorem d_271_64 : decode ov_m271.2.1 64 = .ok (.putfield 119, 3) := by decide +kernel
theorem b_271_67_2 : ov_ds ov_m271.2.1 67 [.aload_n 0, .iload 4] = true := by decide +kernel
theorem d_271_70 : decode ov_m271.2.1 70 = .ok (.putfield 356, 3) := by decide +kernel
theorem b_271_73_2 : ov_ds ov_m271.2.1 73 [.aload_n 0, .dup] = true := by decide +kernel
theorem d_271_75 : decode ov_m271.2.1 75 = .ok (.getfield 359, 3) := by decide +kernel
theorem b_271_78_2 : ov_ds ov_m271.2.1 78 [.iconst 1, .iadd] = true := by decide +kernel
theorem d_271_80 : decode ov_m271.2.1 80 = .ok (.putfield 359, 3) := by decide +kernel
theorem d_271_83 : decode ov_m271.2.1 83 = .ok (.return_, 1) := by decide +kernel
theorem b_271_8_1 : ov_ds ov_m271.2.1 8 [.aload_n 0] = true := by decide +kernel
theorem d_271_9 : decode ov_m271.2.1 9 = .ok (.getfield 349, 3) := by decide +kernel
theorem b_271_12_1 : ov_ds ov_m271.2.1 12 [.iload_n 2] = true := by decide +kernel
theorem d_271_13 : decode ov_m271.2.1 13 = .ok (.if_icmp .ne 31, 3) := by decide +kernel
theorem b_271_16_1 : ov_ds ov_m271.2.1 16 [.aload_n 0] = true := by decide +kernel
theorem d_271_17 : decode ov_m271.2.1 17 = .ok (.getfield 353, 3) := by decide +kernel
theorem b_271_20_1 : ov_ds ov_m271.2.1 20 [.aload_n 0] = true := by decide +kernel
theorem d_271_21 : decode ov_m271.2.1 21 = .ok (.getfield 322, 3) := by decide +kernel
theorem d_271_24 : decode ov_m271.2.1 24 = .ok (.if_icmp .ne 20, 3) := by decide +kernel
theorem b_271_27_1 : ov_ds ov_m271.2.1 27 [.aload_n 0] = true := by decide +kernel
theorem d_271_28 : decode ov_m271.2.1 28 = .ok (.getfield 119, 3) := by decide +kernel
theorem b_271_31_1 : ov_ds ov_m271.2.1 31 [.iload_n 3] = true := by decide +kernel
theorem d_271_32 : decode ov_m271.2.1 32 = .ok (.if_icmp .ne 12, 3) := by decide +kernel
theorem b_271_35_1 : ov_ds ov_m271.2.1 35 [.aload_n 0] = true := by decide +kernel
theorem d_271_36 : decode ov_m271.2.1 36 = .ok (.getfield 356, 3) := by decide +kernel
theorem b_271_39_1 : ov_ds ov_m271.2.1 39 [.iload 4] = true := by decide +kernel
theorem d_271_41 : decode ov_m271.2.1 41 = .ok (.if_icmp .eq 42, 3) := by decide +kernel
theorem b_273_0_3 : ov_ds ov_m273.2.1 0 [.aload_n 0, .iload_n 1, .iload_n 2] = true := by decide +kernel
theorem d_273_3 : decode ov_m273.2.1 3 = .ok (.invokevirtual 282, 3) := by decide +kernel
theorem b_273_6_1 : ov_ds ov_m273.2.1 6 [.iconst 1] = true := by decide +kernel
theorem d_273_7 : decode ov_m273.2.1 7 = .ok (.if_icmp .ne 29, 3) := by decide +kernel
theorem b_273_36_1 : ov_ds ov_m273.2.1 36 [.iconst 0] = true := by decide +kernel
theorem d_273_37 : decode ov_m273.2.1 37 = .ok (.ireturn, 1) := by decide +kernel
theorem b_273_10_3 : ov_ds ov_m273.2.1 10 [.aload_n 0, .iload_n 1, .iload_n 2] = true := by decide +kernel
theorem d_273_13 : decode ov_m273.2.1 13 = .ok (.invokevirtual 302, 3) := by decide +kernel
theorem d_273_16 : decode ov_m273.2.1 16 = .ok (.ifCond .ne 20, 3) := by decide +kernel
theorem b_273_19_6 : ov_ds ov_m273.2.1 19 [.bipush 6, .iload_n 2, .imul, .iload_n 1, .iadd, .aload_n 0] = true := by decide +kernel
theorem d_273_26 : decode ov_m273.2.1 26 = .ok (.getfield 119, 3) := by decide +kernel
theorem d_273_29 : decode ov_m273.2.1 29 = .ok (.if_icmp .eq 7, 3) := by decide +kernel
theorem b_273_32_1 : ov_ds ov_m273.2.1 32 [.iconst 1] = true := by decide +kernel
theorem d_273_33 : decode ov_m273.2.1 33 = .ok (.goto 4, 3) := by decide +kernel
theorem b_269_0_4 : ov_ds ov_m269.2.1 0 [.iload_n 1, .iconst 0, .iconst 3, .aload_n 0] = true := by decide +kernel
theorem d_269_4 : decode ov_m269.2.1 4 = .ok (.getfield 81, 3) := by decide +kernel
theorem b_269_7_1 : ov_ds ov_m269.2.1 7 [.bipush 8] = true := by decide +kernel
theorem d_269_9 : decode ov_m269.2.1 9 = .ok (.iaload, 1) := by decide +kernel
theorem b_269_10_1 : ov_ds ov_m269.2.1 10 [.iadd] = true := by decide +kernel
theorem d_269_11 : decode ov_m269.2.1 11 = .ok (.invokestatic 299, 3) := by decide +kernel
theorem d_269_14 : decode ov_m269.2.1 14 = .ok (.ireturn, 1) := by decide +kernel
theorem b_270_0_3 : ov_ds ov_m270.2.1 0 [.aload_n 0, .iload_n 1, .iload_n 2] = true := by decide +kernel
theorem d_270_3 : decode ov_m270.2.1 3 = .ok (.invokevirtual 296, 3) := by decide +kernel
theorem d_270_6 : decode ov_m270.2.1 6 = .ok (.ifCond .eq 15, 3) := by decide +kernel
theorem b_270_21_1 : ov_ds ov_m270.2.1 21 [.iconst 0] = true := by decide +kernel
theorem d_270_22 : decode ov_m270.2.1 22 = .ok (.ireturn, 1) := by decide +kernel
theorem b_270_9_2 : ov_ds ov_m270.2.1 9 [.aload_n 0, .iload_n 3] = true := by decide +kernel
theorem d_270_11 : decode ov_m270.2.1 11 = .ok (.invokevirtual 306, 3) := by decide +kernel
theorem d_270_14 : decode ov_m270.2.1 14 = .ok (.ifCond .eq 7, 3) := by decide +kernel
theorem b_270_17_1 : ov_ds ov_m270.2.1 17 [.iconst 1] = true := by decide +kernel
theorem d_270_18 : decode ov_m270.2.1 18 = .ok (.goto 4, 3) := by decide +kernel
theorem b_290_0_1 : ov_ds ov_m290.2.1 0 [.aload_n 0] = true := by decide +kernel
theorem d_290_1 : decode ov_m290.2.1 1 = .ok (.invokevirtual 332, 3) := by decide +kernel
theorem b_290_4_1 : ov_ds ov_m290.2.1 4 [.aload_n 0] = true := by decide +kernel
theorem d_290_5 : decode ov_m290.2.1 5 = .ok (.invokevirtual 411, 3) := by decide +kernel
theorem d_290_8 : decode ov_m290.2.1 8 = .ok (.if_icmp .le 12, 3) := by decide +kernel
theorem b_290_20_1 : ov_ds ov_m290.2.1 20 [.aload_n 0] = true := by decide +kernel
theorem d_290_21 : decode ov_m290.2.1 21 = .ok (.invokevirtual 332, 3) := by decide +kernel
theorem d_290_24 : decode ov_m290.2.1 24 = .ok (.ireturn, 1) := by decide +kernel
theorem b_290_11_1 : ov_ds ov_m290.2.1 11 [.aload_n 0] = true := by decide +kernel
theorem d_290_12 : decode ov_m290.2.1 12 = .ok (.getfield 81, 3) := by decide +kernel
theorem b_290_15_1 : ov_ds ov_m290.2.1 15 [.iconst 2] = true := by decide +kernel
theorem d_290_16 : decode ov_m290.2.1 16 = .ok (.iaload, 1) := by decide +kernel
theorem d_290_17 : decode ov_m290.2.1 17 = .ok (.goto 7, 3) := by decide +kernel
theorem b_292_0_1 : ov_ds ov_m292.2.1 0 [.aload_n 0] = true := by decide +kernel
theorem d_292_1 : decode ov_m292.2.1 1 = .ok (.invokevirtual 332, 3) := by decide +kernel
theorem b_292_4_1 : ov_ds ov_m292.2.1 4 [.aload_n 0] = true := by decide +kernel
theorem d_292_5 : decode ov_m292.2.1 5 = .ok (.invokevirtual 411, 3) := by decide +kernel
theorem d_292_8 : decode ov_m292.2.1 8 = .ok (.if_icmp .le 12, 3) := by decide +kernel
theorem b_292_20_1 : ov_ds ov_m292.2.1 20 [.aload_n 0] = true := by decide +kernel
theorem d_292_21 : decode ov_m292.2.1 21 = .ok (.invokevirtual 411, 3) := by decide +kernel
theorem d_292_24 : decode ov_m292.2.1 24 = .ok (.ireturn, 1) := by decide +kernel
theorem b_292_11_1 : ov_ds ov_m292.2.1 11 [.aload_n 0] = true := by decide +kernel
theorem d_292_12 : decode ov_m292.2.1 12 = .ok (.getfield 81, 3) := by decide +kernel
theorem b_292_15_1 : ov_ds ov_m292.2.1 15 [.iconst 2] = true := by decide +kernel
theorem d_292_16 : decode ov_m292.2.1 16 = .ok (.iaload, 1) := by decide +kernel
theorem d_292_17 : decode ov_m292.2.1 17 = .ok (.goto 7, 3) := by decide +kernel
theorem b_294_0_4 : ov_ds ov_m294.2.1 0 [.iconst 0, .istore_n 2, .iconst 0, .istore_n 3] = true := by decide +kernel
theorem b_294_4_2 : ov_ds ov_m294.2.1 4 [.iload_n 3, .iload_n 1] = true := by decide +kernel
theorem d_294_6 : decode ov_m294.2.1 6 = .ok (.if_icmp .ge 24, 3) := by decide +kernel
theorem b_294_30_1 : ov_ds ov_m294.2.1 30 [.iload_n 2] = true := by decide +kernel
theorem d_294_31 : decode ov_m294.2.1 31 = .ok (.ireturn, 1) := by decide +kernel
theorem b_294_9_3 : ov_ds ov_m294.2.1 9 [.iload_n 2, .iconst 1, .aload_n 0] = true := by decide +kernel
theorem d_294_12 : decode ov_m294.2.1 12 = .ok (.getfield 93, 3) := by decide +kernel
theorem b_294_15_5 : ov_ds ov_m294.2.1 15 [.iconst 1, .iconst 2, .iload_n 3, .imul, .iadd] = true := by decide +kernel
theorem d_294_20 : decode ov_m294.2.1 20 = .ok (.iaload, 1) := by decide +kernel
theorem b_294_21_4 : ov_ds ov_m294.2.1 21 [.isub, .iadd, .istore_n 2, .iinc 3 1] = true := by decide +kernel
theorem d_294_27 : decode ov_m294.2.1 27 = .ok (.goto (-23), 3) := by decide +kernel
theorem b_309_0_2 : ov_ds ov_m309.2.1 0 [.aload_n 0, .aload_n 0] = true := by decide +kernel
theorem d_309_2 : decode ov_m309.2.1 2 = .ok (.getfield 471, 3) := by decide +kernel
theorem d_309_5 : decode ov_m309.2.1 5 = .ok (.ldc2_w 474, 3) := by decide +kernel
theorem b_309_8_1 : ov_ds ov_m309.2.1 8 [.lmul] = true := by decide +kernel
theorem d_309_9 : decode ov_m309.2.1 9 = .ok (.ldc2_w 476, 3) := by decide +kernel
theorem b_309_12_1 : ov_ds ov_m309.2.1 12 [.ladd] = true := by decide +kernel
theorem d_309_13 : decode ov_m309.2.1 13 = .ok (.ldc2_w 478, 3) := by decide +kernel
theorem d_309_16 : decode ov_m309.2.1 16 = .ok (.lrem, 1) := by decide +kernel
theorem d_309_17 : decode ov_m309.2.1 17 = .ok (.putfield 471, 3) := by decide +kernel
theorem b_309_20_1 : ov_ds ov_m309.2.1 20 [.aload_n 0] = true := by decide +kernel
theorem d_309_21 : decode ov_m309.2.1 21 = .ok (.getfield 471, 3) := by decide +kernel
theorem d_309_24 : decode ov_m309.2.1 24 = .ok (.ldc2_w 480, 3) := by decide +kernel
theorem d_309_27 : decode ov_m309.2.1 27 = .ok (.ldiv, 1) := by decide +kernel
theorem b_309_28_2 : ov_ds ov_m309.2.1 28 [.iload_n 1, .i2l] = true := by decide +kernel
theorem d_309_30 : decode ov_m309.2.1 30 = .ok (.lrem, 1) := by decide +kernel
theorem b_309_31_1 : ov_ds ov_m309.2.1 31 [.l2i] = true := by decide +kernel
theorem d_309_32 : decode ov_m309.2.1 32 = .ok (.ireturn, 1) := by decide +kernel
theorem b_308_0_2 : ov_ds ov_m308.2.1 0 [.iconst 0, .istore_n 1] = true := by decide +kernel
theorem b_308_2_2 : ov_ds ov_m308.2.1 2 [.iload_n 1, .bipush 54] = true := by decide +kernel
theorem d_308_5 : decode ov_m308.2.1 5 = .ok (.if_icmp .ge 77, 3) := by decide +kernel
theorem d_308_82 : decode ov_m308.2.1 82 = .ok (.return_, 1) := by decide +kernel
theorem b_308_8_3 : ov_ds ov_m308.2.1 8 [.aload_n 0, .iload_n 1, .bipush 6] = true := by decide +kernel
theorem d_308_12 : decode ov_m308.2.1 12 = .ok (.irem, 1) := by decide +kernel
theorem b_308_13_2 : ov_ds ov_m308.2.1 13 [.iload_n 1, .bipush 6] = true := by decide +kernel
theorem d_308_16 : decode ov_m308.2.1 16 = .ok (.idiv, 1) := by decide +kernel
theorem d_308_17 : decode ov_m308.2.1 17 = .ok (.invokevirtual 282, 3) := by decide +kernel
theorem b_308_20_1 : ov_ds ov_m308.2.1 20 [.iconst 1] = true := by decide +kernel
theorem d_308_21 : decode ov_m308.2.1 21 = .ok (.if_icmp .ne 22, 3) := by decide +kernel
theorem b_308_43_3 : ov_ds ov_m308.2.1 43 [.iconst 0, .istore_n 2, .aload_n 0] = true := by decide +kernel
theorem d_308_46 : decode ov_m308.2.1 46 = .ok (.getfield 144, 3) := by decide +kernel
theorem b_308_49_2 : ov_ds ov_m308.2.1 49 [.iload_n 1, .iload_n 2] = true := by decide +kernel
theorem d_308_51 : decode ov_m308.2.1 51 = .ok (.ifCond .eq 23, 3) := by decide +kernel
theorem b_308_74_1 : ov_ds ov_m308.2.1 74 [.iconst 0] = true := by decide +kernel
theorem d_308_75 : decode ov_m308.2.1 75 = .ok (.iastore, 1) := by decide +kernel
theorem b_308_76_1 : ov_ds ov_m308.2.1 76 [.iinc 1 1] = true := by decide +kernel
theorem d_308_79 : decode ov_m308.2.1 79 = .ok (.goto (-77), 3) := by decide +kernel
theorem b_308_24_3 : ov_ds ov_m308.2.1 24 [.aload_n 0, .iload_n 1, .bipush 6] = true := by decide +kernel
theorem d_308_28 : decode ov_m308.2.1 28 = .ok (.irem, 1) := by decide +kernel
theorem b_308_29_2 : ov_ds ov_m308.2.1 29 [.iload_n 1, .bipush 6] = true := by decide +kernel
theorem d_308_32 : decode ov_m308.2.1 32 = .ok (.idiv, 1) := by decide +kernel
theorem d_308_33 : decode ov_m308.2.1 33 = .ok (.invokevirtual 302, 3) := by decide +kernel
theorem d_308_36 : decode ov_m308.2.1 36 = .ok (.ifCond .ne 7, 3) := by decide +kernel
theorem b_308_39_1 : ov_ds ov_m308.2.1 39 [.iconst 1] = true := by decide +kernel
theorem d_308_40 : decode ov_m308.2.1 40 = .ok (.goto 4, 3) := by decide +kernel
theorem b_308_44_2 : ov_ds ov_m308.2.1 44 [.istore_n 2, .aload_n 0] = true := by decide +kernel
theorem b_308_54_4 : ov_ds ov_m308.2.1 54 [.aload_n 0, .aload_n 0, .iload_n 1, .bipush 6] = true := by decide +kernel
theorem d_308_59 : decode ov_m308.2.1 59 = .ok (.irem, 1) := by decide +kernel
theorem b_308_60_2 : ov_ds ov_m308.2.1 60 [.iload_n 1, .bipush 6] = true := by decide +kernel
theorem d_308_63 : decode ov_m308.2.1 63 = .ok (.idiv, 1) := by decide +kernel
theorem b_308_64_1 : ov_ds ov_m308.2.1 64 [.iconst 1] = true := by decide +kernel
theorem d_308_65 : decode ov_m308.2.1 65 = .ok (.invokevirtual 289, 3) := by decide +kernel
theorem d_308_68 : decode ov_m308.2.1 68 = .ok (.invokevirtual 482, 3) := by decide +kernel
theorem d_308_71 : decode ov_m308.2.1 71 = .ok (.goto 4, 3) := by decide +kernel

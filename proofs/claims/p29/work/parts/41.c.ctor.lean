theorem b_0_0_1 : ov_ds ov_m0.2.1 0 [.aload_n 0] = true := by decide +kernel
theorem d_0_1 : decode ov_m0.2.1 1 = .ok (.invokespecial 3, 3) := by decide +kernel
theorem oi_OF_3 : Cond.methodLink "OverFirst" 3 Lib.objectInit ∈ lw_tbl := ov_ch0 (List.mem_of_getElem? (i := 28) (by decide +kernel))
theorem b_0_4_1 : ov_ds ov_m0.2.1 4 [.aload_n 0] = true := by decide +kernel
theorem d_0_5 : decode ov_m0.2.1 5 = .ok (.new 9, 3) := by decide +kernel
theorem b_0_8_1 : ov_ds ov_m0.2.1 8 [.dup] = true := by decide +kernel
theorem d_0_9 : decode ov_m0.2.1 9 = .ok (.invokespecial 11, 3) := by decide +kernel
theorem b_2_0_1 : ov_ds ov_m2.2.1 0 [.aload_n 0] = true := by decide +kernel
theorem d_2_1 : decode ov_m2.2.1 1 = .ok (.invokespecial 3, 3) := by decide +kernel
theorem oi_Tape_3 : Cond.methodLink "OverFirst$Tape" 3 Lib.objectInit ∈ lw_tbl := ov_ch0 (List.mem_of_getElem? (i := 36) (by decide +kernel))
theorem b_2_4_2 : ov_ds ov_m2.2.1 4 [.aload_n 0, .sipush 1000] = true := by decide +kernel
theorem d_2_8 : decode ov_m2.2.1 8 = .ok (.newarray .char, 2) := by decide +kernel
theorem d_2_10 : decode ov_m2.2.1 10 = .ok (.putfield 9, 3) := by decide +kernel
theorem d_2_13 : decode ov_m2.2.1 13 = .ok (.return_, 1) := by decide +kernel
theorem d_0_12 : decode ov_m0.2.1 12 = .ok (.putfield 12, 3) := by decide +kernel
theorem b_0_15_1 : ov_ds ov_m0.2.1 15 [.aload_n 0] = true := by decide +kernel
theorem d_0_16 : decode ov_m0.2.1 16 = .ok (.new 16, 3) := by decide +kernel
theorem b_0_19_2 : ov_ds ov_m0.2.1 19 [.dup, .aload_n 0] = true := by decide +kernel
theorem d_0_21 : decode ov_m0.2.1 21 = .ok (.getfield 12, 3) := by decide +kernel
theorem d_0_24 : decode ov_m0.2.1 24 = .ok (.invokespecial 18, 3) := by decide +kernel
theorem b_3_0_1 : ov_ds ov_m3.2.1 0 [.aload_n 0] = true := by decide +kernel
theorem d_3_1 : decode ov_m3.2.1 1 = .ok (.invokespecial 3, 3) := by decide +kernel
theorem oi_Reader_3 : Cond.methodLink "OverFirst$Reader" 3 Lib.objectInit ∈ lw_tbl := ov_ch0 (List.mem_of_getElem? (i := 73) (by decide +kernel))
theorem b_3_4_2 : ov_ds ov_m3.2.1 4 [.aload_n 0, .aload_n 1] = true := by decide +kernel
theorem d_3_6 : decode ov_m3.2.1 6 = .ok (.putfield 9, 3) := by decide +kernel
theorem d_3_9 : decode ov_m3.2.1 9 = .ok (.return_, 1) := by decide +kernel
theorem d_0_27 : decode ov_m0.2.1 27 = .ok (.putfield 21, 3) := by decide +kernel
theorem b_0_30_1 : ov_ds ov_m0.2.1 30 [.aload_n 0] = true := by decide +kernel
theorem d_0_31 : decode ov_m0.2.1 31 = .ok (.new 25, 3) := by decide +kernel
theorem b_0_34_1 : ov_ds ov_m0.2.1 34 [.dup] = true := by decide +kernel
theorem d_0_35 : decode ov_m0.2.1 35 = .ok (.invokespecial 27, 3) := by decide +kernel
theorem b_4_0_1 : ov_ds ov_m4.2.1 0 [.aload_n 0] = true := by decide +kernel
theorem d_4_1 : decode ov_m4.2.1 1 = .ok (.invokespecial 3, 3) := by decide +kernel
theorem oi_State_3 : Cond.methodLink "OverFirst$State" 3 Lib.objectInit ∈ lw_tbl := ov_ch0 (List.mem_of_getElem? (i := 92) (by decide +kernel))
theorem b_4_4_2 : ov_ds ov_m4.2.1 4 [.aload_n 0, .bipush 10] = true := by decide +kernel
theorem d_4_7 : decode ov_m4.2.1 7 = .ok (.newarray .int, 2) := by decide +kernel
theorem d_4_9 : decode ov_m4.2.1 9 = .ok (.putfield 11, 3) := by decide +kernel
theorem b_4_12_2 : ov_ds ov_m4.2.1 12 [.aload_n 0, .bipush 10] = true := by decide +kernel
theorem d_4_15 : decode ov_m4.2.1 15 = .ok (.newarray .int, 2) := by decide +kernel
theorem d_4_17 : decode ov_m4.2.1 17 = .ok (.putfield 15, 3) := by decide +kernel
theorem b_4_20_2 : ov_ds ov_m4.2.1 20 [.aload_n 0, .bipush 8] = true := by decide +kernel
theorem d_4_23 : decode ov_m4.2.1 23 = .ok (.newarray .int, 2) := by decide +kernel
theorem d_4_25 : decode ov_m4.2.1 25 = .ok (.putfield 18, 3) := by decide +kernel
theorem b_4_28_2 : ov_ds ov_m4.2.1 28 [.aload_n 0, .bipush 8] = true := by decide +kernel
theorem d_4_31 : decode ov_m4.2.1 31 = .ok (.newarray .int, 2) := by decide +kernel
theorem d_4_33 : decode ov_m4.2.1 33 = .ok (.putfield 21, 3) := by decide +kernel
theorem d_4_36 : decode ov_m4.2.1 36 = .ok (.return_, 1) := by decide +kernel
theorem d_0_38 : decode ov_m0.2.1 38 = .ok (.putfield 28, 3) := by decide +kernel
theorem b_0_41_1 : ov_ds ov_m0.2.1 41 [.aload_n 0] = true := by decide +kernel
theorem d_0_42 : decode ov_m0.2.1 42 = .ok (.new 32, 3) := by decide +kernel
theorem b_0_45_1 : ov_ds ov_m0.2.1 45 [.dup] = true := by decide +kernel
theorem d_0_46 : decode ov_m0.2.1 46 = .ok (.invokespecial 34, 3) := by decide +kernel
theorem b_5_0_1 : ov_ds ov_m5.2.1 0 [.aload_n 0] = true := by decide +kernel
theorem d_5_1 : decode ov_m5.2.1 1 = .ok (.invokespecial 1, 3) := by decide +kernel
theorem oi_History_1 : Cond.methodLink "OverFirst$History" 1 Lib.objectInit ∈ lw_tbl := ov_ch0 (List.mem_of_getElem? (i := 141) (by decide +kernel))
theorem b_5_4_2 : ov_ds ov_m5.2.1 4 [.aload_n 0, .bipush 16] = true := by decide +kernel
theorem d_5_7 : decode ov_m5.2.1 7 = .ok (.newarray .int, 2) := by decide +kernel
theorem d_5_9 : decode ov_m5.2.1 9 = .ok (.putfield 9, 3) := by decide +kernel
theorem b_5_12_2 : ov_ds ov_m5.2.1 12 [.aload_n 0, .bipush 16] = true := by decide +kernel
theorem d_5_15 : decode ov_m5.2.1 15 = .ok (.newarray .int, 2) := by decide +kernel
theorem d_5_17 : decode ov_m5.2.1 17 = .ok (.putfield 13, 3) := by decide +kernel
theorem b_5_20_2 : ov_ds ov_m5.2.1 20 [.aload_n 0, .bipush 16] = true := by decide +kernel
theorem d_5_23 : decode ov_m5.2.1 23 = .ok (.newarray .int, 2) := by decide +kernel
theorem d_5_25 : decode ov_m5.2.1 25 = .ok (.putfield 16, 3) := by decide +kernel
theorem b_5_28_2 : ov_ds ov_m5.2.1 28 [.aload_n 0, .bipush 16] = true := by decide +kernel
theorem d_5_31 : decode ov_m5.2.1 31 = .ok (.newarray .long, 2) := by decide +kernel
theorem d_5_33 : decode ov_m5.2.1 33 = .ok (.putfield 19, 3) := by decide +kernel
theorem d_5_36 : decode ov_m5.2.1 36 = .ok (.return_, 1) := by decide +kernel
theorem d_0_49 : decode ov_m0.2.1 49 = .ok (.putfield 35, 3) := by decide +kernel
theorem b_0_52_2 : ov_ds ov_m0.2.1 52 [.aload_n 0, .iconst 4] = true := by decide +kernel
theorem d_0_54 : decode ov_m0.2.1 54 = .ok (.anewarray 25, 3) := by decide +kernel
theorem b_0_57_2 : ov_ds ov_m0.2.1 57 [.dup, .iconst 0] = true := by decide +kernel
theorem d_0_59 : decode ov_m0.2.1 59 = .ok (.new 25, 3) := by decide +kernel
theorem b_0_62_1 : ov_ds ov_m0.2.1 62 [.dup] = true := by decide +kernel
theorem d_0_63 : decode ov_m0.2.1 63 = .ok (.invokespecial 27, 3) := by decide +kernel
theorem d_0_66 : decode ov_m0.2.1 66 = .ok (.aastore, 1) := by decide +kernel
theorem b_0_67_2 : ov_ds ov_m0.2.1 67 [.dup, .iconst 1] = true := by decide +kernel
theorem d_0_69 : decode ov_m0.2.1 69 = .ok (.new 25, 3) := by decide +kernel
theorem b_0_72_1 : ov_ds ov_m0.2.1 72 [.dup] = true := by decide +kernel
theorem d_0_73 : decode ov_m0.2.1 73 = .ok (.invokespecial 27, 3) := by decide +kernel
theorem d_0_76 : decode ov_m0.2.1 76 = .ok (.aastore, 1) := by decide +kernel
theorem b_0_77_2 : ov_ds ov_m0.2.1 77 [.dup, .iconst 2] = true := by decide +kernel
theorem d_0_79 : decode ov_m0.2.1 79 = .ok (.new 25, 3) := by decide +kernel
theorem b_0_82_1 : ov_ds ov_m0.2.1 82 [.dup] = true := by decide +kernel
theorem d_0_83 : decode ov_m0.2.1 83 = .ok (.invokespecial 27, 3) := by decide +kernel
theorem d_0_86 : decode ov_m0.2.1 86 = .ok (.aastore, 1) := by decide +kernel
theorem b_0_87_2 : ov_ds ov_m0.2.1 87 [.dup, .iconst 3] = true := by decide +kernel
theorem d_0_89 : decode ov_m0.2.1 89 = .ok (.new 25, 3) := by decide +kernel
theorem b_0_92_1 : ov_ds ov_m0.2.1 92 [.dup] = true := by decide +kernel
theorem d_0_93 : decode ov_m0.2.1 93 = .ok (.invokespecial 27, 3) := by decide +kernel
theorem d_0_96 : decode ov_m0.2.1 96 = .ok (.aastore, 1) := by decide +kernel
theorem d_0_97 : decode ov_m0.2.1 97 = .ok (.putfield 39, 3) := by decide +kernel
theorem b_0_100_2 : ov_ds ov_m0.2.1 100 [.aload_n 0, .iconst 4] = true := by decide +kernel
theorem d_0_102 : decode ov_m0.2.1 102 = .ok (.newarray .boolean, 2) := by decide +kernel
theorem d_0_104 : decode ov_m0.2.1 104 = .ok (.putfield 43, 3) := by decide +kernel
theorem b_0_107_1 : ov_ds ov_m0.2.1 107 [.aload_n 0] = true := by decide +kernel
theorem d_0_108 : decode ov_m0.2.1 108 = .ok (.new 47, 3) := by decide +kernel
theorem b_0_111_1 : ov_ds ov_m0.2.1 111 [.dup] = true := by decide +kernel
theorem d_0_112 : decode ov_m0.2.1 112 = .ok (.invokespecial 49, 3) := by decide +kernel
theorem b_6_0_1 : ov_ds ov_m6.2.1 0 [.aload_n 0] = true := by decide +kernel
theorem d_6_1 : decode ov_m6.2.1 1 = .ok (.invokespecial 3, 3) := by decide +kernel
theorem oi_Goers_3 : Cond.methodLink "OverFirst$Goers" 3 Lib.objectInit ∈ lw_tbl := ov_ch0 (List.mem_of_getElem? (i := 169) (by decide +kernel))
theorem b_6_4_1 : ov_ds ov_m6.2.1 4 [.aload_n 0] = true := by decide +kernel
theorem d_6_5 : decode ov_m6.2.1 5 = .ok (.new 9, 3) := by decide +kernel
theorem b_6_8_1 : ov_ds ov_m6.2.1 8 [.dup] = true := by decide +kernel
theorem d_6_9 : decode ov_m6.2.1 9 = .ok (.invokespecial 11, 3) := by decide +kernel
theorem b_7_0_1 : ov_ds ov_m7.2.1 0 [.aload_n 0] = true := by decide +kernel
theorem d_7_1 : decode ov_m7.2.1 1 = .ok (.invokespecial 3, 3) := by decide +kernel
theorem oi_Memo_3 : Cond.methodLink "OverFirst$Memo" 3 Lib.objectInit ∈ lw_tbl := ov_ch0 (List.mem_of_getElem? (i := 175) (by decide +kernel))
theorem b_7_4_2 : ov_ds ov_m7.2.1 4 [.aload_n 0, .iconst 0] = true := by decide +kernel
theorem d_7_6 : decode ov_m7.2.1 6 = .ok (.newarray .long, 2) := by decide +kernel
theorem d_7_8 : decode ov_m7.2.1 8 = .ok (.putfield 9, 3) := by decide +kernel
theorem b_7_11_2 : ov_ds ov_m7.2.1 11 [.aload_n 0, .bipush 54] = true := by decide +kernel
theorem d_7_14 : decode ov_m7.2.1 14 = .ok (.newarray .int, 2) := by decide +kernel
theorem d_7_16 : decode ov_m7.2.1 16 = .ok (.putfield 15, 3) := by decide +kernel
theorem d_7_19 : decode ov_m7.2.1 19 = .ok (.return_, 1) := by decide +kernel
theorem d_6_12 : decode ov_m6.2.1 12 = .ok (.putfield 12, 3) := by decide +kernel
theorem b_6_15_1 : ov_ds ov_m6.2.1 15 [.aload_n 0] = true := by decide +kernel
theorem d_6_16 : decode ov_m6.2.1 16 = .ok (.new 9, 3) := by decide +kernel
theorem b_6_19_1 : ov_ds ov_m6.2.1 19 [.dup] = true := by decide +kernel
theorem d_6_20 : decode ov_m6.2.1 20 = .ok (.invokespecial 11, 3) := by decide +kernel
theorem d_6_23 : decode ov_m6.2.1 23 = .ok (.putfield 18, 3) := by decide +kernel
theorem b_6_26_2 : ov_ds ov_m6.2.1 26 [.aload_n 0, .bipush 54] = true := by decide +kernel
theorem d_6_29 : decode ov_m6.2.1 29 = .ok (.newarray .int, 2) := by decide +kernel
theorem d_6_31 : decode ov_m6.2.1 31 = .ok (.putfield 21, 3) := by decide +kernel
theorem b_6_34_2 : ov_ds ov_m6.2.1 34 [.aload_n 0, .bipush 54] = true := by decide +kernel
theorem d_6_37 : decode ov_m6.2.1 37 = .ok (.newarray .int, 2) := by decide +kernel
theorem d_6_39 : decode ov_m6.2.1 39 = .ok (.putfield 25, 3) := by decide +kernel
theorem b_6_42_2 : ov_ds ov_m6.2.1 42 [.aload_n 0, .bipush 54] = true := by decide +kernel
theorem d_6_45 : decode ov_m6.2.1 45 = .ok (.newarray .int, 2) := by decide +kernel
theorem d_6_47 : decode ov_m6.2.1 47 = .ok (.putfield 28, 3) := by decide +kernel
theorem d_6_50 : decode ov_m6.2.1 50 = .ok (.return_, 1) := by decide +kernel
theorem d_0_115 : decode ov_m0.2.1 115 = .ok (.putfield 50, 3) := by decide +kernel
theorem b_0_118_1 : ov_ds ov_m0.2.1 118 [.aload_n 0] = true := by decide +kernel
theorem d_0_119 : decode ov_m0.2.1 119 = .ok (.new 54, 3) := by decide +kernel
theorem b_0_122_1 : ov_ds ov_m0.2.1 122 [.dup] = true := by decide +kernel
theorem d_0_123 : decode ov_m0.2.1 123 = .ok (.invokespecial 56, 3) := by decide +kernel
theorem b_8_0_1 : ov_ds ov_m8.2.1 0 [.aload_n 0] = true := by decide +kernel
theorem d_8_1 : decode ov_m8.2.1 1 = .ok (.invokespecial 3, 3) := by decide +kernel
theorem oi_Ways_3 : Cond.methodLink "OverFirst$Ways" 3 Lib.objectInit ∈ lw_tbl := ov_ch1 (List.mem_of_getElem? (i := 9) (by decide +kernel))
theorem b_8_4_2 : ov_ds ov_m8.2.1 4 [.aload_n 0, .bipush 54] = true := by decide +kernel
theorem d_8_7 : decode ov_m8.2.1 7 = .ok (.newarray .int, 2) := by decide +kernel
theorem d_8_9 : decode ov_m8.2.1 9 = .ok (.putfield 9, 3) := by decide +kernel
theorem b_8_12_2 : ov_ds ov_m8.2.1 12 [.aload_n 0, .sipush 1404] = true := by decide +kernel
theorem d_8_16 : decode ov_m8.2.1 16 = .ok (.newarray .int, 2) := by decide +kernel
theorem d_8_18 : decode ov_m8.2.1 18 = .ok (.putfield 15, 3) := by decide +kernel
theorem d_8_21 : decode ov_m8.2.1 21 = .ok (.return_, 1) := by decide +kernel
theorem d_0_126 : decode ov_m0.2.1 126 = .ok (.putfield 57, 3) := by decide +kernel
theorem b_0_129_1 : ov_ds ov_m0.2.1 129 [.aload_n 0] = true := by decide +kernel
theorem d_0_130 : decode ov_m0.2.1 130 = .ok (.new 61, 3) := by decide +kernel
theorem b_0_133_1 : ov_ds ov_m0.2.1 133 [.dup] = true := by decide +kernel
theorem d_0_134 : decode ov_m0.2.1 134 = .ok (.invokespecial 63, 3) := by decide +kernel
theorem b_9_0_1 : ov_ds ov_m9.2.1 0 [.aload_n 0] = true := by decide +kernel
theorem d_9_1 : decode ov_m9.2.1 1 = .ok (.invokespecial 3, 3) := by decide +kernel
theorem oi_Pace_3 : Cond.methodLink "OverFirst$Pace" 3 Lib.objectInit ∈ lw_tbl := ov_ch1 (List.mem_of_getElem? (i := 39) (by decide +kernel))
theorem b_9_4_2 : ov_ds ov_m9.2.1 4 [.aload_n 0, .bipush 13] = true := by decide +kernel
theorem d_9_7 : decode ov_m9.2.1 7 = .ok (.newarray .int, 2) := by decide +kernel
theorem d_9_9 : decode ov_m9.2.1 9 = .ok (.putfield 9, 3) := by decide +kernel
theorem b_9_12_1 : ov_ds ov_m9.2.1 12 [.aload_n 0] = true := by decide +kernel
theorem d_9_13 : decode ov_m9.2.1 13 = .ok (.new 15, 3) := by decide +kernel
theorem b_9_16_1 : ov_ds ov_m9.2.1 16 [.dup] = true := by decide +kernel
theorem d_9_17 : decode ov_m9.2.1 17 = .ok (.invokespecial 17, 3) := by decide +kernel
theorem d_9_20 : decode ov_m9.2.1 20 = .ok (.putfield 18, 3) := by decide +kernel
theorem b_9_23_2 : ov_ds ov_m9.2.1 23 [.aload_n 0, .iconst (-1)] = true := by decide +kernel
theorem d_9_25 : decode ov_m9.2.1 25 = .ok (.putfield 22, 3) := by decide +kernel
theorem d_9_28 : decode ov_m9.2.1 28 = .ok (.return_, 1) := by decide +kernel
theorem d_0_137 : decode ov_m0.2.1 137 = .ok (.putfield 64, 3) := by decide +kernel
theorem b_0_140_1 : ov_ds ov_m0.2.1 140 [.aload_n 0] = true := by decide +kernel
theorem d_0_141 : decode ov_m0.2.1 141 = .ok (.new 68, 3) := by decide +kernel
theorem b_0_144_1 : ov_ds ov_m0.2.1 144 [.dup] = true := by decide +kernel
theorem d_0_145 : decode ov_m0.2.1 145 = .ok (.invokespecial 70, 3) := by decide +kernel
theorem b_10_0_1 : ov_ds ov_m10.2.1 0 [.aload_n 0] = true := by decide +kernel
theorem d_10_1 : decode ov_m10.2.1 1 = .ok (.invokespecial 3, 3) := by decide +kernel
theorem oi_Wave_3 : Cond.methodLink "OverFirst$Wave" 3 Lib.objectInit ∈ lw_tbl := ov_ch1 (List.mem_of_getElem? (i := 78) (by decide +kernel))
theorem b_10_4_2 : ov_ds ov_m10.2.1 4 [.aload_n 0, .iconst 4] = true := by decide +kernel
theorem d_10_6 : decode ov_m10.2.1 6 = .ok (.newarray .int, 2) := by decide +kernel
theorem d_10_8 : decode ov_m10.2.1 8 = .ok (.putfield 11, 3) := by decide +kernel
theorem b_10_11_2 : ov_ds ov_m10.2.1 11 [.aload_n 0, .iconst 4] = true := by decide +kernel
theorem d_10_13 : decode ov_m10.2.1 13 = .ok (.newarray .int, 2) := by decide +kernel
theorem d_10_15 : decode ov_m10.2.1 15 = .ok (.putfield 15, 3) := by decide +kernel
theorem b_10_18_2 : ov_ds ov_m10.2.1 18 [.aload_n 0, .iconst 4] = true := by decide +kernel
theorem d_10_20 : decode ov_m10.2.1 20 = .ok (.newarray .long, 2) := by decide +kernel
theorem d_10_22 : decode ov_m10.2.1 22 = .ok (.putfield 18, 3) := by decide +kernel
theorem b_10_25_2 : ov_ds ov_m10.2.1 25 [.aload_n 0, .iconst (-1)] = true := by decide +kernel
theorem d_10_27 : decode ov_m10.2.1 27 = .ok (.putfield 22, 3) := by decide +kernel
theorem d_10_30 : decode ov_m10.2.1 30 = .ok (.return_, 1) := by decide +kernel
theorem d_0_148 : decode ov_m0.2.1 148 = .ok (.putfield 71, 3) := by decide +kernel
theorem b_0_151_1 : ov_ds ov_m0.2.1 151 [.aload_n 0] = true := by decide +kernel
theorem d_0_152 : decode ov_m0.2.1 152 = .ok (.new 75, 3) := by decide +kernel
theorem b_0_155_1 : ov_ds ov_m0.2.1 155 [.dup] = true := by decide +kernel
theorem d_0_156 : decode ov_m0.2.1 156 = .ok (.invokespecial 77, 3) := by decide +kernel
theorem b_11_0_1 : ov_ds ov_m11.2.1 0 [.aload_n 0] = true := by decide +kernel
theorem d_11_1 : decode ov_m11.2.1 1 = .ok (.invokespecial 3, 3) := by decide +kernel
theorem oi_Town_3 : Cond.methodLink "OverFirst$Town" 3 Lib.objectInit ∈ lw_tbl := ov_ch1 (List.mem_of_getElem? (i := 114) (by decide +kernel))
theorem b_11_4_2 : ov_ds ov_m11.2.1 4 [.aload_n 0, .bipush 54] = true := by decide +kernel
theorem d_11_7 : decode ov_m11.2.1 7 = .ok (.newarray .int, 2) := by decide +kernel
theorem d_11_9 : decode ov_m11.2.1 9 = .ok (.putfield 9, 3) := by decide +kernel
theorem b_11_12_2 : ov_ds ov_m11.2.1 12 [.aload_n 0, .bipush 54] = true := by decide +kernel
theorem d_11_15 : decode ov_m11.2.1 15 = .ok (.newarray .int, 2) := by decide +kernel
theorem d_11_17 : decode ov_m11.2.1 17 = .ok (.putfield 15, 3) := by decide +kernel
theorem b_11_20_2 : ov_ds ov_m11.2.1 20 [.aload_n 0, .bipush 54] = true := by decide +kernel
theorem d_11_23 : decode ov_m11.2.1 23 = .ok (.newarray .int, 2) := by decide +kernel
theorem d_11_25 : decode ov_m11.2.1 25 = .ok (.putfield 18, 3) := by decide +kernel
theorem b_11_28_2 : ov_ds ov_m11.2.1 28 [.aload_n 0, .bipush 54] = true := by decide +kernel
theorem d_11_31 : decode ov_m11.2.1 31 = .ok (.newarray .int, 2) := by decide +kernel
theorem d_11_33 : decode ov_m11.2.1 33 = .ok (.putfield 21, 3) := by decide +kernel
theorem b_11_36_2 : ov_ds ov_m11.2.1 36 [.aload_n 0, .bipush 54] = true := by decide +kernel
theorem d_11_39 : decode ov_m11.2.1 39 = .ok (.newarray .int, 2) := by decide +kernel
theorem d_11_41 : decode ov_m11.2.1 41 = .ok (.putfield 24, 3) := by decide +kernel
theorem b_11_44_2 : ov_ds ov_m11.2.1 44 [.aload_n 0, .iconst 4] = true := by decide +kernel
theorem d_11_46 : decode ov_m11.2.1 46 = .ok (.newarray .int, 2) := by decide +kernel
theorem d_11_48 : decode ov_m11.2.1 48 = .ok (.putfield 27, 3) := by decide +kernel
theorem b_11_51_2 : ov_ds ov_m11.2.1 51 [.aload_n 0, .bipush 54] = true := by decide +kernel
theorem d_11_54 : decode ov_m11.2.1 54 = .ok (.newarray .int, 2) := by decide +kernel
theorem d_11_56 : decode ov_m11.2.1 56 = .ok (.putfield 30, 3) := by decide +kernel
theorem b_11_59_2 : ov_ds ov_m11.2.1 59 [.aload_n 0, .iconst 4] = true := by decide +kernel
theorem d_11_61 : decode ov_m11.2.1 61 = .ok (.newarray .long, 2) := by decide +kernel
theorem d_11_63 : decode ov_m11.2.1 63 = .ok (.putfield 33, 3) := by decide +kernel
theorem b_11_66_2 : ov_ds ov_m11.2.1 66 [.aload_n 0, .iconst 4] = true := by decide +kernel
theorem d_11_68 : decode ov_m11.2.1 68 = .ok (.newarray .int, 2) := by decide +kernel
theorem d_11_70 : decode ov_m11.2.1 70 = .ok (.putfield 37, 3) := by decide +kernel
theorem b_11_73_2 : ov_ds ov_m11.2.1 73 [.aload_n 0, .sipush 1000] = true := by decide +kernel
theorem d_11_77 : decode ov_m11.2.1 77 = .ok (.newarray .int, 2) := by decide +kernel
theorem d_11_79 : decode ov_m11.2.1 79 = .ok (.putfield 40, 3) := by decide +kernel
theorem b_11_82_2 : ov_ds ov_m11.2.1 82 [.aload_n 0, .bipush 64] = true := by decide +kernel
theorem d_11_85 : decode ov_m11.2.1 85 = .ok (.newarray .int, 2) := by decide +kernel
theorem d_11_87 : decode ov_m11.2.1 87 = .ok (.putfield 43, 3) := by decide +kernel
theorem d_11_90 : decode ov_m11.2.1 90 = .ok (.return_, 1) := by decide +kernel
theorem d_0_159 : decode ov_m0.2.1 159 = .ok (.putfield 78, 3) := by decide +kernel
theorem b_0_162_1 : ov_ds ov_m0.2.1 162 [.aload_n 0] = true := by decide +kernel
theorem d_0_163 : decode ov_m0.2.1 163 = .ok (.new 75, 3) := by decide +kernel
theorem b_0_166_1 : ov_ds ov_m0.2.1 166 [.dup] = true := by decide +kernel
theorem d_0_167 : decode ov_m0.2.1 167 = .ok (.invokespecial 77, 3) := by decide +kernel
theorem d_0_170 : decode ov_m0.2.1 170 = .ok (.putfield 82, 3) := by decide +kernel
theorem b_0_173_1 : ov_ds ov_m0.2.1 173 [.aload_n 0] = true := by decide +kernel
theorem d_0_174 : decode ov_m0.2.1 174 = .ok (.new 85, 3) := by decide +kernel
theorem b_0_177_1 : ov_ds ov_m0.2.1 177 [.dup] = true := by decide +kernel
theorem d_0_178 : decode ov_m0.2.1 178 = .ok (.invokespecial 87, 3) := by decide +kernel
theorem b_12_0_1 : ov_ds ov_m12.2.1 0 [.aload_n 0] = true := by decide +kernel
theorem d_12_1 : decode ov_m12.2.1 1 = .ok (.invokespecial 3, 3) := by decide +kernel
theorem oi_Walk_3 : Cond.methodLink "OverFirst$Walk" 3 Lib.objectInit ∈ lw_tbl := ov_ch1 (List.mem_of_getElem? (i := 215) (by decide +kernel))
theorem b_12_4_2 : ov_ds ov_m12.2.1 4 [.aload_n 0, .bipush 13] = true := by decide +kernel
theorem d_12_7 : decode ov_m12.2.1 7 = .ok (.newarray .int, 2) := by decide +kernel
theorem d_12_9 : decode ov_m12.2.1 9 = .ok (.putfield 9, 3) := by decide +kernel
theorem b_12_12_2 : ov_ds ov_m12.2.1 12 [.aload_n 0, .bipush 13] = true := by decide +kernel
theorem d_12_15 : decode ov_m12.2.1 15 = .ok (.newarray .int, 2) := by decide +kernel
theorem d_12_17 : decode ov_m12.2.1 17 = .ok (.putfield 15, 3) := by decide +kernel
theorem b_12_20_2 : ov_ds ov_m12.2.1 20 [.aload_n 0, .bipush 13] = true := by decide +kernel
theorem d_12_23 : decode ov_m12.2.1 23 = .ok (.newarray .int, 2) := by decide +kernel
theorem d_12_25 : decode ov_m12.2.1 25 = .ok (.putfield 18, 3) := by decide +kernel
theorem d_12_28 : decode ov_m12.2.1 28 = .ok (.return_, 1) := by decide +kernel
theorem d_0_181 : decode ov_m0.2.1 181 = .ok (.putfield 88, 3) := by decide +kernel
theorem b_0_184_1 : ov_ds ov_m0.2.1 184 [.aload_n 0] = true := by decide +kernel
theorem d_0_185 : decode ov_m0.2.1 185 = .ok (.new 85, 3) := by decide +kernel
theorem b_0_188_1 : ov_ds ov_m0.2.1 188 [.dup] = true := by decide +kernel
theorem d_0_189 : decode ov_m0.2.1 189 = .ok (.invokespecial 87, 3) := by decide +kernel
theorem d_0_192 : decode ov_m0.2.1 192 = .ok (.putfield 92, 3) := by decide +kernel
theorem b_202_0_1 : ov_ds ov_m202.2.1 0 [.aload_n 0] = true := by decide +kernel
theorem d_202_1 : decode ov_m202.2.1 1 = .ok (.invokespecial 18, 3) := by decide +kernel
theorem oi_Mo_18 : Cond.methodLink "OverFirstModel" 18 Lib.objectInit ∈ lw_tbl := ov_ch5 (List.mem_of_getElem? (i := 161) (by decide +kernel))
theorem b_202_4_2 : ov_ds ov_m202.2.1 4 [.aload_n 0, .sipush 1000] = true := by decide +kernel
theorem d_202_8 : decode ov_m202.2.1 8 = .ok (.newarray .int, 2) := by decide +kernel
theorem d_202_10 : decode ov_m202.2.1 10 = .ok (.putfield 14, 3) := by decide +kernel
theorem b_202_13_2 : ov_ds ov_m202.2.1 13 [.aload_n 0, .sipush 1002] = true := by decide +kernel
theorem d_202_17 : decode ov_m202.2.1 17 = .ok (.newarray .int, 2) := by decide +kernel
theorem d_202_19 : decode ov_m202.2.1 19 = .ok (.putfield 24, 3) := by decide +kernel
theorem b_202_22_2 : ov_ds ov_m202.2.1 22 [.aload_n 0, .sipush 1002] = true := by decide +kernel
theorem d_202_26 : decode ov_m202.2.1 26 = .ok (.newarray .int, 2) := by decide +kernel
theorem d_202_28 : decode ov_m202.2.1 28 = .ok (.putfield 27, 3) := by decide +kernel
theorem b_202_31_2 : ov_ds ov_m202.2.1 31 [.aload_n 0, .sipush 1002] = true := by decide +kernel
theorem d_202_35 : decode ov_m202.2.1 35 = .ok (.newarray .long, 2) := by decide +kernel
theorem d_202_37 : decode ov_m202.2.1 37 = .ok (.putfield 30, 3) := by decide +kernel
theorem b_202_40_2 : ov_ds ov_m202.2.1 40 [.aload_n 0, .bipush 22] = true := by decide +kernel
theorem d_202_43 : decode ov_m202.2.1 43 = .ok (.newarray .long, 2) := by decide +kernel
theorem b_202_45_2 : ov_ds ov_m202.2.1 45 [.dup, .iconst 0] = true := by decide +kernel
theorem d_202_47 : decode ov_m202.2.1 47 = .ok (.ldc2_w 34, 3) := by decide +kernel
theorem d_202_50 : decode ov_m202.2.1 50 = .ok (.lastore, 1) := by decide +kernel
theorem b_202_51_2 : ov_ds ov_m202.2.1 51 [.dup, .iconst 1] = true := by decide +kernel
theorem d_202_53 : decode ov_m202.2.1 53 = .ok (.ldc2_w 36, 3) := by decide +kernel
theorem d_202_56 : decode ov_m202.2.1 56 = .ok (.lastore, 1) := by decide +kernel
theorem b_202_57_2 : ov_ds ov_m202.2.1 57 [.dup, .iconst 2] = true := by decide +kernel
theorem d_202_59 : decode ov_m202.2.1 59 = .ok (.ldc2_w 38, 3) := by decide +kernel
theorem d_202_62 : decode ov_m202.2.1 62 = .ok (.lastore, 1) := by decide +kernel
theorem b_202_63_2 : ov_ds ov_m202.2.1 63 [.dup, .iconst 3] = true := by decide +kernel
theorem d_202_65 : decode ov_m202.2.1 65 = .ok (.ldc2_w 40, 3) := by decide +kernel
theorem d_202_68 : decode ov_m202.2.1 68 = .ok (.lastore, 1) := by decide +kernel
theorem b_202_69_2 : ov_ds ov_m202.2.1 69 [.dup, .iconst 4] = true := by decide +kernel
theorem d_202_71 : decode ov_m202.2.1 71 = .ok (.ldc2_w 42, 3) := by decide +kernel
theorem d_202_74 : decode ov_m202.2.1 74 = .ok (.lastore, 1) := by decide +kernel
theorem b_202_75_2 : ov_ds ov_m202.2.1 75 [.dup, .iconst 5] = true := by decide +kernel
theorem d_202_77 : decode ov_m202.2.1 77 = .ok (.ldc2_w 44, 3) := by decide +kernel
theorem d_202_80 : decode ov_m202.2.1 80 = .ok (.lastore, 1) := by decide +kernel
theorem b_202_81_2 : ov_ds ov_m202.2.1 81 [.dup, .bipush 6] = true := by decide +kernel
theorem d_202_84 : decode ov_m202.2.1 84 = .ok (.ldc2_w 46, 3) := by decide +kernel
theorem d_202_87 : decode ov_m202.2.1 87 = .ok (.lastore, 1) := by decide +kernel
theorem b_202_88_2 : ov_ds ov_m202.2.1 88 [.dup, .bipush 7] = true := by decide +kernel
theorem d_202_91 : decode ov_m202.2.1 91 = .ok (.ldc2_w 48, 3) := by decide +kernel
theorem d_202_94 : decode ov_m202.2.1 94 = .ok (.lastore, 1) := by decide +kernel
theorem b_202_95_2 : ov_ds ov_m202.2.1 95 [.dup, .bipush 8] = true := by decide +kernel
theorem d_202_98 : decode ov_m202.2.1 98 = .ok (.ldc2_w 50, 3) := by decide +kernel
theorem d_202_101 : decode ov_m202.2.1 101 = .ok (.lastore, 1) := by decide +kernel
theorem b_202_102_2 : ov_ds ov_m202.2.1 102 [.dup, .bipush 9] = true := by decide +kernel
theorem d_202_105 : decode ov_m202.2.1 105 = .ok (.ldc2_w 52, 3) := by decide +kernel
theorem d_202_108 : decode ov_m202.2.1 108 = .ok (.lastore, 1) := by decide +kernel
theorem b_202_109_2 : ov_ds ov_m202.2.1 109 [.dup, .bipush 10] = true := by decide +kernel
theorem d_202_112 : decode ov_m202.2.1 112 = .ok (.ldc2_w 54, 3) := by decide +kernel
theorem d_202_115 : decode ov_m202.2.1 115 = .ok (.lastore, 1) := by decide +kernel
theorem b_202_116_2 : ov_ds ov_m202.2.1 116 [.dup, .bipush 11] = true := by decide +kernel
theorem d_202_119 : decode ov_m202.2.1 119 = .ok (.ldc2_w 56, 3) := by decide +kernel
theorem d_202_122 : decode ov_m202.2.1 122 = .ok (.lastore, 1) := by decide +kernel
theorem b_202_123_2 : ov_ds ov_m202.2.1 123 [.dup, .bipush 12] = true := by decide +kernel
theorem d_202_126 : decode ov_m202.2.1 126 = .ok (.ldc2_w 58, 3) := by decide +kernel
theorem d_202_129 : decode ov_m202.2.1 129 = .ok (.lastore, 1) := by decide +kernel
theorem b_202_130_2 : ov_ds ov_m202.2.1 130 [.dup, .bipush 13] = true := by decide +kernel
theorem d_202_133 : decode ov_m202.2.1 133 = .ok (.ldc2_w 60, 3) := by decide +kernel
theorem d_202_136 : decode ov_m202.2.1 136 = .ok (.lastore, 1) := by decide +kernel
theorem b_202_137_2 : ov_ds ov_m202.2.1 137 [.dup, .bipush 14] = true := by decide +kernel
theorem d_202_140 : decode ov_m202.2.1 140 = .ok (.ldc2_w 62, 3) := by decide +kernel
theorem d_202_143 : decode ov_m202.2.1 143 = .ok (.lastore, 1) := by decide +kernel
theorem b_202_144_2 : ov_ds ov_m202.2.1 144 [.dup, .bipush 15] = true := by decide +kernel
theorem d_202_147 : decode ov_m202.2.1 147 = .ok (.ldc2_w 64, 3) := by decide +kernel
theorem d_202_150 : decode ov_m202.2.1 150 = .ok (.lastore, 1) := by decide +kernel
theorem b_202_151_2 : ov_ds ov_m202.2.1 151 [.dup, .bipush 16] = true := by decide +kernel
theorem d_202_154 : decode ov_m202.2.1 154 = .ok (.ldc2_w 66, 3) := by decide +kernel
theorem d_202_157 : decode ov_m202.2.1 157 = .ok (.lastore, 1) := by decide +kernel
theorem b_202_158_2 : ov_ds ov_m202.2.1 158 [.dup, .bipush 17] = true := by decide +kernel
theorem d_202_161 : decode ov_m202.2.1 161 = .ok (.ldc2_w 68, 3) := by decide +kernel
theorem d_202_164 : decode ov_m202.2.1 164 = .ok (.lastore, 1) := by decide +kernel
theorem b_202_165_2 : ov_ds ov_m202.2.1 165 [.dup, .bipush 18] = true := by decide +kernel
theorem d_202_168 : decode ov_m202.2.1 168 = .ok (.ldc2_w 70, 3) := by decide +kernel
theorem d_202_171 : decode ov_m202.2.1 171 = .ok (.lastore, 1) := by decide +kernel
theorem b_202_172_2 : ov_ds ov_m202.2.1 172 [.dup, .bipush 19] = true := by decide +kernel
theorem d_202_175 : decode ov_m202.2.1 175 = .ok (.ldc2_w 72, 3) := by decide +kernel
theorem d_202_178 : decode ov_m202.2.1 178 = .ok (.lastore, 1) := by decide +kernel
theorem b_202_179_2 : ov_ds ov_m202.2.1 179 [.dup, .bipush 20] = true := by decide +kernel
theorem d_202_182 : decode ov_m202.2.1 182 = .ok (.ldc2_w 74, 3) := by decide +kernel
theorem d_202_185 : decode ov_m202.2.1 185 = .ok (.lastore, 1) := by decide +kernel
theorem b_202_186_2 : ov_ds ov_m202.2.1 186 [.dup, .bipush 21] = true := by decide +kernel
theorem d_202_189 : decode ov_m202.2.1 189 = .ok (.ldc2_w 76, 3) := by decide +kernel
theorem d_202_192 : decode ov_m202.2.1 192 = .ok (.lastore, 1) := by decide +kernel
theorem d_202_193 : decode ov_m202.2.1 193 = .ok (.putfield 78, 3) := by decide +kernel
theorem b_202_196_2 : ov_ds ov_m202.2.1 196 [.aload_n 0, .sipush 680] = true := by decide +kernel
theorem d_202_200 : decode ov_m202.2.1 200 = .ok (.newarray .int, 2) := by decide +kernel
theorem d_202_202 : decode ov_m202.2.1 202 = .ok (.putfield 81, 3) := by decide +kernel
theorem b_202_205_2 : ov_ds ov_m202.2.1 205 [.aload_n 0, .sipush 2200] = true := by decide +kernel
theorem d_202_209 : decode ov_m202.2.1 209 = .ok (.newarray .int, 2) := by decide +kernel
theorem d_202_211 : decode ov_m202.2.1 211 = .ok (.putfield 84, 3) := by decide +kernel
theorem b_202_214_2 : ov_ds ov_m202.2.1 214 [.aload_n 0, .sipush 2200] = true := by decide +kernel
theorem d_202_218 : decode ov_m202.2.1 218 = .ok (.newarray .int, 2) := by decide +kernel
theorem d_202_220 : decode ov_m202.2.1 220 = .ok (.putfield 87, 3) := by decide +kernel
theorem b_202_223_2 : ov_ds ov_m202.2.1 223 [.aload_n 0, .iconst 4] = true := by decide +kernel
theorem d_202_225 : decode ov_m202.2.1 225 = .ok (.newarray .long, 2) := by decide +kernel
theorem d_202_227 : decode ov_m202.2.1 227 = .ok (.putfield 90, 3) := by decide +kernel
theorem b_202_230_2 : ov_ds ov_m202.2.1 230 [.aload_n 0, .bipush 60] = true := by decide +kernel
theorem d_202_233 : decode ov_m202.2.1 233 = .ok (.newarray .int, 2) := by decide +kernel
theorem d_202_235 : decode ov_m202.2.1 235 = .ok (.putfield 93, 3) := by decide +kernel
theorem b_202_238_2 : ov_ds ov_m202.2.1 238 [.aload_n 0, .iconst 4] = true := by decide +kernel
theorem d_202_240 : decode ov_m202.2.1 240 = .ok (.newarray .int, 2) := by decide +kernel
theorem d_202_242 : decode ov_m202.2.1 242 = .ok (.putfield 96, 3) := by decide +kernel
theorem b_202_245_2 : ov_ds ov_m202.2.1 245 [.aload_n 0, .sipush 1100] = true := by decide +kernel
theorem d_202_249 : decode ov_m202.2.1 249 = .ok (.newarray .int, 2) := by decide +kernel
theorem d_202_251 : decode ov_m202.2.1 251 = .ok (.putfield 99, 3) := by decide +kernel
theorem b_202_254_2 : ov_ds ov_m202.2.1 254 [.aload_n 0, .sipush 2520] = true := by decide +kernel
theorem d_202_258 : decode ov_m202.2.1 258 = .ok (.newarray .int, 2) := by decide +kernel
theorem d_202_260 : decode ov_m202.2.1 260 = .ok (.putfield 102, 3) := by decide +kernel
theorem b_202_263_2 : ov_ds ov_m202.2.1 263 [.aload_n 0, .iconst 4] = true := by decide +kernel
theorem d_202_265 : decode ov_m202.2.1 265 = .ok (.newarray .boolean, 2) := by decide +kernel
theorem d_202_267 : decode ov_m202.2.1 267 = .ok (.putfield 105, 3) := by decide +kernel
theorem b_202_270_1 : ov_ds ov_m202.2.1 270 [.aload_n 0] = true := by decide +kernel
theorem d_202_271 : decode ov_m202.2.1 271 = .ok (.ldc 109, 2) := by decide +kernel
theorem d_202_273 : decode ov_m202.2.1 273 = .ok (.newarray .int, 2) := by decide +kernel
theorem d_202_275 : decode ov_m202.2.1 275 = .ok (.putfield 110, 3) := by decide +kernel
theorem b_202_278_1 : ov_ds ov_m202.2.1 278 [.aload_n 0] = true := by decide +kernel
theorem d_202_279 : decode ov_m202.2.1 279 = .ok (.ldc 109, 2) := by decide +kernel
theorem d_202_281 : decode ov_m202.2.1 281 = .ok (.newarray .int, 2) := by decide +kernel
theorem d_202_283 : decode ov_m202.2.1 283 = .ok (.putfield 113, 3) := by decide +kernel
theorem b_202_286_2 : ov_ds ov_m202.2.1 286 [.aload_n 0, .iconst (-1)] = true := by decide +kernel
theorem d_202_288 : decode ov_m202.2.1 288 = .ok (.putfield 116, 3) := by decide +kernel
theorem b_202_291_2 : ov_ds ov_m202.2.1 291 [.aload_n 0, .iconst (-1)] = true := by decide +kernel
theorem d_202_293 : decode ov_m202.2.1 293 = .ok (.putfield 119, 3) := by decide +kernel
theorem b_202_296_1 : ov_ds ov_m202.2.1 296 [.aload_n 0] = true := by decide +kernel
theorem d_202_297 : decode ov_m202.2.1 297 = .ok (.ldc 109, 2) := by decide +kernel
theorem d_202_299 : decode ov_m202.2.1 299 = .ok (.newarray .int, 2) := by decide +kernel
theorem d_202_301 : decode ov_m202.2.1 301 = .ok (.putfield 122, 3) := by decide +kernel
theorem b_202_304_1 : ov_ds ov_m202.2.1 304 [.aload_n 0] = true := by decide +kernel
theorem d_202_305 : decode ov_m202.2.1 305 = .ok (.ldc 109, 2) := by decide +kernel
theorem d_202_307 : decode ov_m202.2.1 307 = .ok (.newarray .int, 2) := by decide +kernel
theorem d_202_309 : decode ov_m202.2.1 309 = .ok (.putfield 125, 3) := by decide +kernel
theorem b_202_312_1 : ov_ds ov_m202.2.1 312 [.aload_n 0] = true := by decide +kernel
theorem d_202_313 : decode ov_m202.2.1 313 = .ok (.ldc 128, 2) := by decide +kernel
theorem d_202_315 : decode ov_m202.2.1 315 = .ok (.newarray .int, 2) := by decide +kernel
theorem d_202_317 : decode ov_m202.2.1 317 = .ok (.putfield 129, 3) := by decide +kernel
theorem b_202_320_2 : ov_ds ov_m202.2.1 320 [.aload_n 0, .sipush 240] = true := by decide +kernel
theorem d_202_324 : decode ov_m202.2.1 324 = .ok (.newarray .long, 2) := by decide +kernel
theorem d_202_326 : decode ov_m202.2.1 326 = .ok (.putfield 132, 3) := by decide +kernel
theorem b_202_329_2 : ov_ds ov_m202.2.1 329 [.aload_n 0, .sipush 240] = true := by decide +kernel
theorem d_202_333 : decode ov_m202.2.1 333 = .ok (.newarray .long, 2) := by decide +kernel
theorem d_202_335 : decode ov_m202.2.1 335 = .ok (.putfield 135, 3) := by decide +kernel
theorem b_202_338_2 : ov_ds ov_m202.2.1 338 [.aload_n 0, .iconst 4] = true := by decide +kernel
theorem d_202_340 : decode ov_m202.2.1 340 = .ok (.newarray .int, 2) := by decide +kernel
theorem d_202_342 : decode ov_m202.2.1 342 = .ok (.putfield 138, 3) := by decide +kernel
theorem b_202_345_2 : ov_ds ov_m202.2.1 345 [.aload_n 0, .iconst 4] = true := by decide +kernel
theorem d_202_347 : decode ov_m202.2.1 347 = .ok (.newarray .int, 2) := by decide +kernel
theorem d_202_349 : decode ov_m202.2.1 349 = .ok (.putfield 141, 3) := by decide +kernel
theorem b_202_352_2 : ov_ds ov_m202.2.1 352 [.aload_n 0, .bipush 54] = true := by decide +kernel
theorem d_202_355 : decode ov_m202.2.1 355 = .ok (.newarray .int, 2) := by decide +kernel
theorem d_202_357 : decode ov_m202.2.1 357 = .ok (.putfield 144, 3) := by decide +kernel
theorem b_0_195_1 : ov_ds ov_m0.2.1 195 [.aload_n 0] = true := by decide +kernel
theorem d_0_196 : decode ov_m0.2.1 196 = .ok (.getfield 78, 3) := by decide +kernel
theorem d_0_199 : decode ov_m0.2.1 199 = .ok (.invokevirtual 95, 3) := by decide +kernel
theorem b_0_202_1 : ov_ds ov_m0.2.1 202 [.aload_n 0] = true := by decide +kernel
theorem d_0_203 : decode ov_m0.2.1 203 = .ok (.getfield 78, 3) := by decide +kernel
theorem d_0_206 : decode ov_m0.2.1 206 = .ok (.invokevirtual 98, 3) := by decide +kernel
theorem d_0_209 : decode ov_m0.2.1 209 = .ok (.return_, 1) := by decide +kernel
set_option maxHeartbeats 4000000 in
theorem i_Tape_1 {u : ov_U} {z : ov_Z} {h : ov_H} (d : Nat) (hd : 1 ≤ d) (U : ov_cap u) (C : ov_SH 2 z) (hr : h 1 = ov_df 8) : ov_T u d ov_m2 [ov_r 1] z h (ov_CQ 1 3 h) := by
  refine ov_en rfl (Nat.le_of_ble_eq_true rfl) ?_
  show ov_R u d ov_m2 0 [(0, ov_r 1)] [] z h _
  have B := ov_BL_ini (a := 1) C rfl (by decide) hr
  refine ov_blk (ls2 := [(0, ov_r 1)]) (st2 := [ov_r 1]) (pc2 := 1) b_2_0_1 rfl rfl ?_
  refine ov_obi d_2_1 oi_Tape_3 (by decide) (by omega) (Nat.le_of_ble_eq_true rfl) ?_
  refine ov_blk (ls2 := [(0, ov_r 1)]) (st2 := [ov_i 1000, ov_r 1]) (pc2 := 8) b_2_4_2 rfl rfl ?_
  refine ov_Bnewc U B (n := 1000) (Ni := 2) (N := 2) d_2_8 (by decide) rfl (by decide +kernel) (by decide +kernel) rfl (by decide +kernel) (fun z1 h2 B3 => ?_)
  refine ov_BputF B3 (n := 8) (x := 2) d_2_10 fl_Tape_9 rfl rfl nk_2 rfl rfl rfl (fun h4 B5 => ?_)
  exact ov_retv (st := []) d_2_13 rfl (ov_BL_fin B5 rfl)
set_option maxHeartbeats 4000000 in
theorem i_Reader_3 {u : ov_U} {z : ov_Z} {h : ov_H} (d : Nat) (hd : 1 ≤ d) (U : ov_cap u) (C : ov_SH 4 z) (hr : h 3 = ov_df 6) : ov_T u d ov_m3 [ov_r 3, ov_r 1] z h (ov_CQ 3 4 h) := by
  refine ov_en rfl (Nat.le_of_ble_eq_true rfl) ?_
  show ov_R u d ov_m3 0 [(0, ov_r 3), (1, ov_r 1)] [] z h _
  have B := ov_BL_ini (a := 3) C rfl (by decide) hr
  refine ov_blk (ls2 := [(0, ov_r 3), (1, ov_r 1)]) (st2 := [ov_r 3]) (pc2 := 1) b_3_0_1 rfl rfl ?_
  refine ov_obi d_3_1 oi_Reader_3 (by decide) (by omega) (Nat.le_of_ble_eq_true rfl) ?_
  refine ov_blk (ls2 := [(0, ov_r 3), (1, ov_r 1)]) (st2 := [ov_r 1, ov_r 3]) (pc2 := 6) b_3_4_2 rfl rfl ?_
  refine ov_BputF B (n := 4) (x := 1) d_3_6 fl_Reader_9 rfl rfl nk_2 rfl rfl rfl (fun h1 B2 => ?_)
  exact ov_retv (st := []) d_3_9 rfl (ov_BL_fin B2 rfl)
set_option maxHeartbeats 4000000 in
theorem i_State_4 {u : ov_U} {z : ov_Z} {h : ov_H} (d : Nat) (hd : 1 ≤ d) (U : ov_cap u) (C : ov_SH 5 z) (hr : h 4 = ov_df 7) : ov_T u d ov_m4 [ov_r 4] z h (ov_CQ 4 9 h) := by
  refine ov_en rfl (Nat.le_of_ble_eq_true rfl) ?_
  show ov_R u d ov_m4 0 [(0, ov_r 4)] [] z h _
  have B := ov_BL_ini (a := 4) C rfl (by decide) hr
  refine ov_blk (ls2 := [(0, ov_r 4)]) (st2 := [ov_r 4]) (pc2 := 1) b_4_0_1 rfl rfl ?_
  refine ov_obi d_4_1 oi_State_3 (by decide) (by omega) (Nat.le_of_ble_eq_true rfl) ?_
  refine ov_blk (ls2 := [(0, ov_r 4)]) (st2 := [ov_i 10, ov_r 4]) (pc2 := 7) b_4_4_2 rfl rfl ?_
  refine ov_Bnewi U B (n := 10) (Ni := 5) (N := 5) d_4_7 (by decide) rfl (by decide +kernel) (by decide +kernel) rfl (by decide +kernel) (fun z1 h2 B3 => ?_)
  refine ov_BputF B3 (n := 10) (x := 5) d_4_9 fl_State_11 rfl rfl nk_2 rfl rfl rfl (fun h4 B5 => ?_)
  refine ov_blk (ls2 := [(0, ov_r 4)]) (st2 := [ov_i 10, ov_r 4]) (pc2 := 15) b_4_12_2 rfl rfl ?_
  refine ov_Bnewi U B5 (n := 10) (Ni := 6) (N := 6) d_4_15 (by decide) rfl (by decide +kernel) (by decide +kernel) rfl (by decide +kernel) (fun z6 h7 B8 => ?_)
  refine ov_BputF B8 (n := 10) (x := 6) d_4_17 fl_State_15 rfl rfl nk_2 rfl rfl rfl (fun h9 B10 => ?_)
  refine ov_blk (ls2 := [(0, ov_r 4)]) (st2 := [ov_i 8, ov_r 4]) (pc2 := 23) b_4_20_2 rfl rfl ?_
  refine ov_Bnewi U B10 (n := 8) (Ni := 7) (N := 7) d_4_23 (by decide) rfl (by decide +kernel) (by decide +kernel) rfl (by decide +kernel) (fun z11 h12 B13 => ?_)
  refine ov_BputF B13 (n := 10) (x := 7) d_4_25 fl_State_18 rfl rfl nk_2 rfl rfl rfl (fun h14 B15 => ?_)
  refine ov_blk (ls2 := [(0, ov_r 4)]) (st2 := [ov_i 8, ov_r 4]) (pc2 := 31) b_4_28_2 rfl rfl ?_
  refine ov_Bnewi U B15 (n := 8) (Ni := 8) (N := 8) d_4_31 (by decide) rfl (by decide +kernel) (by decide +kernel) rfl (by decide +kernel) (fun z16 h17 B18 => ?_)
  refine ov_BputF B18 (n := 10) (x := 8) d_4_33 fl_State_21 rfl rfl nk_2 rfl rfl rfl (fun h19 B20 => ?_)
  exact ov_retv (st := []) d_4_36 rfl (ov_BL_fin B20 rfl)
set_option maxHeartbeats 4000000 in
theorem i_History_9 {u : ov_U} {z : ov_Z} {h : ov_H} (d : Nat) (hd : 1 ≤ d) (U : ov_cap u) (C : ov_SH 10 z) (hr : h 9 = ov_df 3) : ov_T u d ov_m5 [ov_r 9] z h (ov_CQ 9 14 h) := by
  refine ov_en rfl (Nat.le_of_ble_eq_true rfl) ?_
  show ov_R u d ov_m5 0 [(0, ov_r 9)] [] z h _
  have B := ov_BL_ini (a := 9) C rfl (by decide) hr
  refine ov_blk (ls2 := [(0, ov_r 9)]) (st2 := [ov_r 9]) (pc2 := 1) b_5_0_1 rfl rfl ?_
  refine ov_obi d_5_1 oi_History_1 (by decide) (by omega) (Nat.le_of_ble_eq_true rfl) ?_
  refine ov_blk (ls2 := [(0, ov_r 9)]) (st2 := [ov_i 16, ov_r 9]) (pc2 := 7) b_5_4_2 rfl rfl ?_
  refine ov_Bnewi U B (n := 16) (Ni := 10) (N := 10) d_5_7 (by decide) rfl (by decide +kernel) (by decide +kernel) rfl (by decide +kernel) (fun z1 h2 B3 => ?_)
  refine ov_BputF B3 (n := 6) (x := 10) d_5_9 fl_History_9 rfl rfl nk_2 rfl rfl rfl (fun h4 B5 => ?_)
  refine ov_blk (ls2 := [(0, ov_r 9)]) (st2 := [ov_i 16, ov_r 9]) (pc2 := 15) b_5_12_2 rfl rfl ?_
  refine ov_Bnewi U B5 (n := 16) (Ni := 11) (N := 11) d_5_15 (by decide) rfl (by decide +kernel) (by decide +kernel) rfl (by decide +kernel) (fun z6 h7 B8 => ?_)
  refine ov_BputF B8 (n := 6) (x := 11) d_5_17 fl_History_13 rfl rfl nk_2 rfl rfl rfl (fun h9 B10 => ?_)
  refine ov_blk (ls2 := [(0, ov_r 9)]) (st2 := [ov_i 16, ov_r 9]) (pc2 := 23) b_5_20_2 rfl rfl ?_
  refine ov_Bnewi U B10 (n := 16) (Ni := 12) (N := 12) d_5_23 (by decide) rfl (by decide +kernel) (by decide +kernel) rfl (by decide +kernel) (fun z11 h12 B13 => ?_)
  refine ov_BputF B13 (n := 6) (x := 12) d_5_25 fl_History_16 rfl rfl nk_2 rfl rfl rfl (fun h14 B15 => ?_)
  refine ov_blk (ls2 := [(0, ov_r 9)]) (st2 := [ov_i 16, ov_r 9]) (pc2 := 31) b_5_28_2 rfl rfl ?_
  refine ov_Bnewl U B15 (n := 16) (Ni := 13) (N := 13) d_5_31 (by decide) rfl (by decide +kernel) (by decide +kernel) rfl (by decide +kernel) (fun z16 h17 B18 => ?_)
  refine ov_BputF B18 (n := 6) (x := 13) d_5_33 fl_History_19 rfl rfl nk_2 rfl rfl rfl (fun h19 B20 => ?_)
  exact ov_retv (st := []) d_5_36 rfl (ov_BL_fin B20 rfl)
set_option maxHeartbeats 4000000 in
theorem i_State_15 {u : ov_U} {z : ov_Z} {h : ov_H} (d : Nat) (hd : 1 ≤ d) (U : ov_cap u) (C : ov_SH 16 z) (hr : h 15 = ov_df 7) : ov_T u d ov_m4 [ov_r 15] z h (ov_CQ 15 20 h) := by
  refine ov_en rfl (Nat.le_of_ble_eq_true rfl) ?_
  show ov_R u d ov_m4 0 [(0, ov_r 15)] [] z h _
  have B := ov_BL_ini (a := 15) C rfl (by decide) hr
  refine ov_blk (ls2 := [(0, ov_r 15)]) (st2 := [ov_r 15]) (pc2 := 1) b_4_0_1 rfl rfl ?_
  refine ov_obi d_4_1 oi_State_3 (by decide) (by omega) (Nat.le_of_ble_eq_true rfl) ?_
  refine ov_blk (ls2 := [(0, ov_r 15)]) (st2 := [ov_i 10, ov_r 15]) (pc2 := 7) b_4_4_2 rfl rfl ?_
  refine ov_Bnewi U B (n := 10) (Ni := 16) (N := 16) d_4_7 (by decide) rfl (by decide +kernel) (by decide +kernel) rfl (by decide +kernel) (fun z1 h2 B3 => ?_)
  refine ov_BputF B3 (n := 10) (x := 16) d_4_9 fl_State_11 rfl rfl nk_2 rfl rfl rfl (fun h4 B5 => ?_)
  refine ov_blk (ls2 := [(0, ov_r 15)]) (st2 := [ov_i 10, ov_r 15]) (pc2 := 15) b_4_12_2 rfl rfl ?_
  refine ov_Bnewi U B5 (n := 10) (Ni := 17) (N := 17) d_4_15 (by decide) rfl (by decide +kernel) (by decide +kernel) rfl (by decide +kernel) (fun z6 h7 B8 => ?_)
  refine ov_BputF B8 (n := 10) (x := 17) d_4_17 fl_State_15 rfl rfl nk_2 rfl rfl rfl (fun h9 B10 => ?_)
  refine ov_blk (ls2 := [(0, ov_r 15)]) (st2 := [ov_i 8, ov_r 15]) (pc2 := 23) b_4_20_2 rfl rfl ?_
  refine ov_Bnewi U B10 (n := 8) (Ni := 18) (N := 18) d_4_23 (by decide) rfl (by decide +kernel) (by decide +kernel) rfl (by decide +kernel) (fun z11 h12 B13 => ?_)
  refine ov_BputF B13 (n := 10) (x := 18) d_4_25 fl_State_18 rfl rfl nk_2 rfl rfl rfl (fun h14 B15 => ?_)
  refine ov_blk (ls2 := [(0, ov_r 15)]) (st2 := [ov_i 8, ov_r 15]) (pc2 := 31) b_4_28_2 rfl rfl ?_
  refine ov_Bnewi U B15 (n := 8) (Ni := 19) (N := 19) d_4_31 (by decide) rfl (by decide +kernel) (by decide +kernel) rfl (by decide +kernel) (fun z16 h17 B18 => ?_)
  refine ov_BputF B18 (n := 10) (x := 19) d_4_33 fl_State_21 rfl rfl nk_2 rfl rfl rfl (fun h19 B20 => ?_)
  exact ov_retv (st := []) d_4_36 rfl (ov_BL_fin B20 rfl)
set_option maxHeartbeats 4000000 in
theorem i_State_20 {u : ov_U} {z : ov_Z} {h : ov_H} (d : Nat) (hd : 1 ≤ d) (U : ov_cap u) (C : ov_SH 21 z) (hr : h 20 = ov_df 7) : ov_T u d ov_m4 [ov_r 20] z h (ov_CQ 20 25 h) := by
  refine ov_en rfl (Nat.le_of_ble_eq_true rfl) ?_
  show ov_R u d ov_m4 0 [(0, ov_r 20)] [] z h _
  have B := ov_BL_ini (a := 20) C rfl (by decide) hr
  refine ov_blk (ls2 := [(0, ov_r 20)]) (st2 := [ov_r 20]) (pc2 := 1) b_4_0_1 rfl rfl ?_
  refine ov_obi d_4_1 oi_State_3 (by decide) (by omega) (Nat.le_of_ble_eq_true rfl) ?_
  refine ov_blk (ls2 := [(0, ov_r 20)]) (st2 := [ov_i 10, ov_r 20]) (pc2 := 7) b_4_4_2 rfl rfl ?_
  refine ov_Bnewi U B (n := 10) (Ni := 21) (N := 21) d_4_7 (by decide) rfl (by decide +kernel) (by decide +kernel) rfl (by decide +kernel) (fun z1 h2 B3 => ?_)
  refine ov_BputF B3 (n := 10) (x := 21) d_4_9 fl_State_11 rfl rfl nk_2 rfl rfl rfl (fun h4 B5 => ?_)
  refine ov_blk (ls2 := [(0, ov_r 20)]) (st2 := [ov_i 10, ov_r 20]) (pc2 := 15) b_4_12_2 rfl rfl ?_
  refine ov_Bnewi U B5 (n := 10) (Ni := 22) (N := 22) d_4_15 (by decide) rfl (by decide +kernel) (by decide +kernel) rfl (by decide +kernel) (fun z6 h7 B8 => ?_)
  refine ov_BputF B8 (n := 10) (x := 22) d_4_17 fl_State_15 rfl rfl nk_2 rfl rfl rfl (fun h9 B10 => ?_)
  refine ov_blk (ls2 := [(0, ov_r 20)]) (st2 := [ov_i 8, ov_r 20]) (pc2 := 23) b_4_20_2 rfl rfl ?_
  refine ov_Bnewi U B10 (n := 8) (Ni := 23) (N := 23) d_4_23 (by decide) rfl (by decide +kernel) (by decide +kernel) rfl (by decide +kernel) (fun z11 h12 B13 => ?_)
  refine ov_BputF B13 (n := 10) (x := 23) d_4_25 fl_State_18 rfl rfl nk_2 rfl rfl rfl (fun h14 B15 => ?_)
  refine ov_blk (ls2 := [(0, ov_r 20)]) (st2 := [ov_i 8, ov_r 20]) (pc2 := 31) b_4_28_2 rfl rfl ?_
  refine ov_Bnewi U B15 (n := 8) (Ni := 24) (N := 24) d_4_31 (by decide) rfl (by decide +kernel) (by decide +kernel) rfl (by decide +kernel) (fun z16 h17 B18 => ?_)
  refine ov_BputF B18 (n := 10) (x := 24) d_4_33 fl_State_21 rfl rfl nk_2 rfl rfl rfl (fun h19 B20 => ?_)
  exact ov_retv (st := []) d_4_36 rfl (ov_BL_fin B20 rfl)
set_option maxHeartbeats 4000000 in
theorem i_State_25 {u : ov_U} {z : ov_Z} {h : ov_H} (d : Nat) (hd : 1 ≤ d) (U : ov_cap u) (C : ov_SH 26 z) (hr : h 25 = ov_df 7) : ov_T u d ov_m4 [ov_r 25] z h (ov_CQ 25 30 h) := by
  refine ov_en rfl (Nat.le_of_ble_eq_true rfl) ?_
  show ov_R u d ov_m4 0 [(0, ov_r 25)] [] z h _
  have B := ov_BL_ini (a := 25) C rfl (by decide) hr
  refine ov_blk (ls2 := [(0, ov_r 25)]) (st2 := [ov_r 25]) (pc2 := 1) b_4_0_1 rfl rfl ?_
  refine ov_obi d_4_1 oi_State_3 (by decide) (by omega) (Nat.le_of_ble_eq_true rfl) ?_
  refine ov_blk (ls2 := [(0, ov_r 25)]) (st2 := [ov_i 10, ov_r 25]) (pc2 := 7) b_4_4_2 rfl rfl ?_
  refine ov_Bnewi U B (n := 10) (Ni := 26) (N := 26) d_4_7 (by decide) rfl (by decide +kernel) (by decide +kernel) rfl (by decide +kernel) (fun z1 h2 B3 => ?_)
  refine ov_BputF B3 (n := 10) (x := 26) d_4_9 fl_State_11 rfl rfl nk_2 rfl rfl rfl (fun h4 B5 => ?_)
  refine ov_blk (ls2 := [(0, ov_r 25)]) (st2 := [ov_i 10, ov_r 25]) (pc2 := 15) b_4_12_2 rfl rfl ?_
  refine ov_Bnewi U B5 (n := 10) (Ni := 27) (N := 27) d_4_15 (by decide) rfl (by decide +kernel) (by decide +kernel) rfl (by decide +kernel) (fun z6 h7 B8 => ?_)
  refine ov_BputF B8 (n := 10) (x := 27) d_4_17 fl_State_15 rfl rfl nk_2 rfl rfl rfl (fun h9 B10 => ?_)
  refine ov_blk (ls2 := [(0, ov_r 25)]) (st2 := [ov_i 8, ov_r 25]) (pc2 := 23) b_4_20_2 rfl rfl ?_
  refine ov_Bnewi U B10 (n := 8) (Ni := 28) (N := 28) d_4_23 (by decide) rfl (by decide +kernel) (by decide +kernel) rfl (by decide +kernel) (fun z11 h12 B13 => ?_)
  refine ov_BputF B13 (n := 10) (x := 28) d_4_25 fl_State_18 rfl rfl nk_2 rfl rfl rfl (fun h14 B15 => ?_)
  refine ov_blk (ls2 := [(0, ov_r 25)]) (st2 := [ov_i 8, ov_r 25]) (pc2 := 31) b_4_28_2 rfl rfl ?_
  refine ov_Bnewi U B15 (n := 8) (Ni := 29) (N := 29) d_4_31 (by decide) rfl (by decide +kernel) (by decide +kernel) rfl (by decide +kernel) (fun z16 h17 B18 => ?_)
  refine ov_BputF B18 (n := 10) (x := 29) d_4_33 fl_State_21 rfl rfl nk_2 rfl rfl rfl (fun h19 B20 => ?_)
  exact ov_retv (st := []) d_4_36 rfl (ov_BL_fin B20 rfl)
set_option maxHeartbeats 4000000 in
theorem i_State_30 {u : ov_U} {z : ov_Z} {h : ov_H} (d : Nat) (hd : 1 ≤ d) (U : ov_cap u) (C : ov_SH 31 z) (hr : h 30 = ov_df 7) : ov_T u d ov_m4 [ov_r 30] z h (ov_CQ 30 35 h) := by
  refine ov_en rfl (Nat.le_of_ble_eq_true rfl) ?_
  show ov_R u d ov_m4 0 [(0, ov_r 30)] [] z h _
  have B := ov_BL_ini (a := 30) C rfl (by decide) hr
  refine ov_blk (ls2 := [(0, ov_r 30)]) (st2 := [ov_r 30]) (pc2 := 1) b_4_0_1 rfl rfl ?_
  refine ov_obi d_4_1 oi_State_3 (by decide) (by omega) (Nat.le_of_ble_eq_true rfl) ?_
  refine ov_blk (ls2 := [(0, ov_r 30)]) (st2 := [ov_i 10, ov_r 30]) (pc2 := 7) b_4_4_2 rfl rfl ?_
  refine ov_Bnewi U B (n := 10) (Ni := 31) (N := 31) d_4_7 (by decide) rfl (by decide +kernel) (by decide +kernel) rfl (by decide +kernel) (fun z1 h2 B3 => ?_)
  refine ov_BputF B3 (n := 10) (x := 31) d_4_9 fl_State_11 rfl rfl nk_2 rfl rfl rfl (fun h4 B5 => ?_)
  refine ov_blk (ls2 := [(0, ov_r 30)]) (st2 := [ov_i 10, ov_r 30]) (pc2 := 15) b_4_12_2 rfl rfl ?_
  refine ov_Bnewi U B5 (n := 10) (Ni := 32) (N := 32) d_4_15 (by decide) rfl (by decide +kernel) (by decide +kernel) rfl (by decide +kernel) (fun z6 h7 B8 => ?_)
  refine ov_BputF B8 (n := 10) (x := 32) d_4_17 fl_State_15 rfl rfl nk_2 rfl rfl rfl (fun h9 B10 => ?_)
  refine ov_blk (ls2 := [(0, ov_r 30)]) (st2 := [ov_i 8, ov_r 30]) (pc2 := 23) b_4_20_2 rfl rfl ?_
  refine ov_Bnewi U B10 (n := 8) (Ni := 33) (N := 33) d_4_23 (by decide) rfl (by decide +kernel) (by decide +kernel) rfl (by decide +kernel) (fun z11 h12 B13 => ?_)
  refine ov_BputF B13 (n := 10) (x := 33) d_4_25 fl_State_18 rfl rfl nk_2 rfl rfl rfl (fun h14 B15 => ?_)
  refine ov_blk (ls2 := [(0, ov_r 30)]) (st2 := [ov_i 8, ov_r 30]) (pc2 := 31) b_4_28_2 rfl rfl ?_
  refine ov_Bnewi U B15 (n := 8) (Ni := 34) (N := 34) d_4_31 (by decide) rfl (by decide +kernel) (by decide +kernel) rfl (by decide +kernel) (fun z16 h17 B18 => ?_)
  refine ov_BputF B18 (n := 10) (x := 34) d_4_33 fl_State_21 rfl rfl nk_2 rfl rfl rfl (fun h19 B20 => ?_)
  exact ov_retv (st := []) d_4_36 rfl (ov_BL_fin B20 rfl)
set_option maxHeartbeats 4000000 in
theorem i_Memo_37 {u : ov_U} {z : ov_Z} {h : ov_H} (d : Nat) (hd : 1 ≤ d) (U : ov_cap u) (C : ov_SH 38 z) (hr : h 37 = ov_df 4) : ov_T u d ov_m7 [ov_r 37] z h (ov_CQ 37 40 h) := by
  refine ov_en rfl (Nat.le_of_ble_eq_true rfl) ?_
  show ov_R u d ov_m7 0 [(0, ov_r 37)] [] z h _
  have B := ov_BL_ini (a := 37) C rfl (by decide) hr
  refine ov_blk (ls2 := [(0, ov_r 37)]) (st2 := [ov_r 37]) (pc2 := 1) b_7_0_1 rfl rfl ?_
  refine ov_obi d_7_1 oi_Memo_3 (by decide) (by omega) (Nat.le_of_ble_eq_true rfl) ?_
  refine ov_blk (ls2 := [(0, ov_r 37)]) (st2 := [ov_i 0, ov_r 37]) (pc2 := 6) b_7_4_2 rfl rfl ?_
  refine ov_Bnewl U B (n := 0) (Ni := 38) (N := 38) d_7_6 (by decide) rfl (by decide +kernel) (by decide +kernel) rfl (by decide +kernel) (fun z1 h2 B3 => ?_)
  refine ov_Bput B3 (n := 3) (x := 38) d_7_8 fl_Memo_9 rfl rfl nk_2 rfl (fun h4 B5 => ?_)
  refine ov_blk (ls2 := [(0, ov_r 37)]) (st2 := [ov_i 54, ov_r 37]) (pc2 := 14) b_7_11_2 rfl rfl ?_
  refine ov_Bnewi U B5 (n := 54) (Ni := 39) (N := 39) d_7_14 (by decide) rfl (by decide +kernel) (by decide +kernel) rfl (by decide +kernel) (fun z6 h7 B8 => ?_)
  refine ov_BputF B8 (n := 3) (x := 39) d_7_16 fl_Memo_15 rfl rfl nk_2 rfl rfl rfl (fun h9 B10 => ?_)
  exact ov_retv (st := []) d_7_19 rfl (ov_BL_fin B10 rfl)
set_option maxHeartbeats 4000000 in
theorem i_Memo_40 {u : ov_U} {z : ov_Z} {h : ov_H} (d : Nat) (hd : 1 ≤ d) (U : ov_cap u) (C : ov_SH 41 z) (hr : h 40 = ov_df 4) : ov_T u d ov_m7 [ov_r 40] z h (ov_CQ 40 43 h) := by
  refine ov_en rfl (Nat.le_of_ble_eq_true rfl) ?_
  show ov_R u d ov_m7 0 [(0, ov_r 40)] [] z h _
  have B := ov_BL_ini (a := 40) C rfl (by decide) hr
  refine ov_blk (ls2 := [(0, ov_r 40)]) (st2 := [ov_r 40]) (pc2 := 1) b_7_0_1 rfl rfl ?_
  refine ov_obi d_7_1 oi_Memo_3 (by decide) (by omega) (Nat.le_of_ble_eq_true rfl) ?_
  refine ov_blk (ls2 := [(0, ov_r 40)]) (st2 := [ov_i 0, ov_r 40]) (pc2 := 6) b_7_4_2 rfl rfl ?_
  refine ov_Bnewl U B (n := 0) (Ni := 41) (N := 41) d_7_6 (by decide) rfl (by decide +kernel) (by decide +kernel) rfl (by decide +kernel) (fun z1 h2 B3 => ?_)
  refine ov_Bput B3 (n := 3) (x := 41) d_7_8 fl_Memo_9 rfl rfl nk_2 rfl (fun h4 B5 => ?_)
  refine ov_blk (ls2 := [(0, ov_r 40)]) (st2 := [ov_i 54, ov_r 40]) (pc2 := 14) b_7_11_2 rfl rfl ?_
  refine ov_Bnewi U B5 (n := 54) (Ni := 42) (N := 42) d_7_14 (by decide) rfl (by decide +kernel) (by decide +kernel) rfl (by decide +kernel) (fun z6 h7 B8 => ?_)
  refine ov_BputF B8 (n := 3) (x := 42) d_7_16 fl_Memo_15 rfl rfl nk_2 rfl rfl rfl (fun h9 B10 => ?_)
  exact ov_retv (st := []) d_7_19 rfl (ov_BL_fin B10 rfl)
set_option maxHeartbeats 4000000 in
theorem i_Goers_36 {u : ov_U} {z : ov_Z} {h : ov_H} (d : Nat) (hd : 2 ≤ d) (U : ov_cap u) (C : ov_SH 37 z) (hr : h 36 = ov_df 2) : ov_T u d ov_m6 [ov_r 36] z h (ov_CQ 36 46 h) := by
  refine ov_en rfl (Nat.le_of_ble_eq_true rfl) ?_
  show ov_R u d ov_m6 0 [(0, ov_r 36)] [] z h _
  have B := ov_BL_ini (a := 36) C rfl (by decide) hr
  refine ov_blk (ls2 := [(0, ov_r 36)]) (st2 := [ov_r 36]) (pc2 := 1) b_6_0_1 rfl rfl ?_
  refine ov_obi d_6_1 oi_Goers_3 (by decide) (by omega) (Nat.le_of_ble_eq_true rfl) ?_
  refine ov_blk (ls2 := [(0, ov_r 36)]) (st2 := [ov_r 36]) (pc2 := 5) b_6_4_1 rfl rfl ?_
  refine ov_Bnew U B (c := 4) (Ni := 37) (N := 37) d_6_5 nl_Goers_9 rfl (by decide +kernel) (by decide +kernel) (by decide +kernel) (fun z1 h2 C3 k4 r5 => ?_)
  refine ov_blk (ls2 := [(0, ov_r 36)]) (st2 := [ov_r 37, ov_r 37, ov_r 36]) (pc2 := 9) b_6_8_1 rfl rfl ?_
  refine ov_cIN (as := []) (st := [ov_r 37, ov_r 36]) (d2 := d - 1) rfl d_6_9 lk_Goers_11 rfl (Nat.le_of_ble_eq_true rfl) (by decide) (by omega) (i_Memo_37 (d - 1) (by omega) U C3 r5) ?_
  rintro _ z6 h7 ⟨rfl, C8, k9, t10⟩
  have B11 := ov_BL_sub B C8 (by decide) (fun b hb => by rw [k9 b (by omega)]; exact k4 b hb) (fun b h1 h2 => t10 b (by omega) (by omega))
  show ov_R u d ov_m6 12 [(0, ov_r 36)] [ov_r 37, ov_r 36] z6 h7 _
  refine ov_BputF B11 (n := 18) (x := 37) d_6_12 fl_Goers_12 rfl rfl nk_2 rfl rfl rfl (fun h12 B13 => ?_)
  refine ov_blk (ls2 := [(0, ov_r 36)]) (st2 := [ov_r 36]) (pc2 := 16) b_6_15_1 rfl rfl ?_
  refine ov_Bnew U B13 (c := 4) (Ni := 40) (N := 40) d_6_16 nl_Goers_9 rfl (by decide +kernel) (by decide +kernel) (by decide +kernel) (fun z14 h15 C16 k17 r18 => ?_)
  refine ov_blk (ls2 := [(0, ov_r 36)]) (st2 := [ov_r 40, ov_r 40, ov_r 36]) (pc2 := 20) b_6_19_1 rfl rfl ?_
  refine ov_cIN (as := []) (st := [ov_r 40, ov_r 36]) (d2 := d - 1) rfl d_6_20 lk_Goers_11 rfl (Nat.le_of_ble_eq_true rfl) (by decide) (by omega) (i_Memo_40 (d - 1) (by omega) U C16 r18) ?_
  rintro _ z19 h20 ⟨rfl, C21, k22, t23⟩
  have B24 := ov_BL_sub B13 C21 (by decide) (fun b hb => by rw [k22 b (by omega)]; exact k17 b hb) (fun b h1 h2 => t23 b (by omega) (by omega))
  show ov_R u d ov_m6 23 [(0, ov_r 36)] [ov_r 40, ov_r 36] z19 h20 _
  refine ov_BputF B24 (n := 18) (x := 40) d_6_23 fl_Goers_18 rfl rfl nk_2 rfl rfl rfl (fun h25 B26 => ?_)
  refine ov_blk (ls2 := [(0, ov_r 36)]) (st2 := [ov_i 54, ov_r 36]) (pc2 := 29) b_6_26_2 rfl rfl ?_
  refine ov_Bnewi U B26 (n := 54) (Ni := 43) (N := 43) d_6_29 (by decide) rfl (by decide +kernel) (by decide +kernel) rfl (by decide +kernel) (fun z27 h28 B29 => ?_)
  refine ov_BputF B29 (n := 18) (x := 43) d_6_31 fl_Goers_21 rfl rfl nk_2 rfl rfl rfl (fun h30 B31 => ?_)
  refine ov_blk (ls2 := [(0, ov_r 36)]) (st2 := [ov_i 54, ov_r 36]) (pc2 := 37) b_6_34_2 rfl rfl ?_
  refine ov_Bnewi U B31 (n := 54) (Ni := 44) (N := 44) d_6_37 (by decide) rfl (by decide +kernel) (by decide +kernel) rfl (by decide +kernel) (fun z32 h33 B34 => ?_)
  refine ov_BputF B34 (n := 18) (x := 44) d_6_39 fl_Goers_25 rfl rfl nk_2 rfl rfl rfl (fun h35 B36 => ?_)
  refine ov_blk (ls2 := [(0, ov_r 36)]) (st2 := [ov_i 54, ov_r 36]) (pc2 := 45) b_6_42_2 rfl rfl ?_
  refine ov_Bnewi U B36 (n := 54) (Ni := 45) (N := 45) d_6_45 (by decide) rfl (by decide +kernel) (by decide +kernel) rfl (by decide +kernel) (fun z37 h38 B39 => ?_)
  refine ov_BputF B39 (n := 18) (x := 45) d_6_47 fl_Goers_28 rfl rfl nk_2 rfl rfl rfl (fun h40 B41 => ?_)
  exact ov_retv (st := []) d_6_50 rfl (ov_BL_fin B41 rfl)
set_option maxHeartbeats 4000000 in
theorem i_Ways_46 {u : ov_U} {z : ov_Z} {h : ov_H} (d : Nat) (hd : 1 ≤ d) (U : ov_cap u) (C : ov_SH 47 z) (hr : h 46 = ov_df 12) : ov_T u d ov_m8 [ov_r 46] z h (ov_CQ 46 49 h) := by
  refine ov_en rfl (Nat.le_of_ble_eq_true rfl) ?_
  show ov_R u d ov_m8 0 [(0, ov_r 46)] [] z h _
  have B := ov_BL_ini (a := 46) C rfl (by decide) hr
  refine ov_blk (ls2 := [(0, ov_r 46)]) (st2 := [ov_r 46]) (pc2 := 1) b_8_0_1 rfl rfl ?_
  refine ov_obi d_8_1 oi_Ways_3 (by decide) (by omega) (Nat.le_of_ble_eq_true rfl) ?_
  refine ov_blk (ls2 := [(0, ov_r 46)]) (st2 := [ov_i 54, ov_r 46]) (pc2 := 7) b_8_4_2 rfl rfl ?_
  refine ov_Bnewi U B (n := 54) (Ni := 47) (N := 47) d_8_7 (by decide) rfl (by decide +kernel) (by decide +kernel) rfl (by decide +kernel) (fun z1 h2 B3 => ?_)
  refine ov_BputF B3 (n := 7) (x := 47) d_8_9 fl_Ways_9 rfl rfl nk_2 rfl rfl rfl (fun h4 B5 => ?_)
  refine ov_blk (ls2 := [(0, ov_r 46)]) (st2 := [ov_i 1404, ov_r 46]) (pc2 := 16) b_8_12_2 rfl rfl ?_
  refine ov_Bnewi U B5 (n := 1404) (Ni := 48) (N := 48) d_8_16 (by decide) rfl (by decide +kernel) (by decide +kernel) rfl (by decide +kernel) (fun z6 h7 B8 => ?_)
  refine ov_BputF B8 (n := 7) (x := 48) d_8_18 fl_Ways_15 rfl rfl nk_2 rfl rfl rfl (fun h9 B10 => ?_)
  exact ov_retv (st := []) d_8_21 rfl (ov_BL_fin B10 rfl)
set_option maxHeartbeats 4000000 in
theorem i_Memo_51 {u : ov_U} {z : ov_Z} {h : ov_H} (d : Nat) (hd : 1 ≤ d) (U : ov_cap u) (C : ov_SH 52 z) (hr : h 51 = ov_df 4) : ov_T u d ov_m7 [ov_r 51] z h (ov_CQ 51 54 h) := by
  refine ov_en rfl (Nat.le_of_ble_eq_true rfl) ?_
  show ov_R u d ov_m7 0 [(0, ov_r 51)] [] z h _
  have B := ov_BL_ini (a := 51) C rfl (by decide) hr
  refine ov_blk (ls2 := [(0, ov_r 51)]) (st2 := [ov_r 51]) (pc2 := 1) b_7_0_1 rfl rfl ?_
  refine ov_obi d_7_1 oi_Memo_3 (by decide) (by omega) (Nat.le_of_ble_eq_true rfl) ?_
  refine ov_blk (ls2 := [(0, ov_r 51)]) (st2 := [ov_i 0, ov_r 51]) (pc2 := 6) b_7_4_2 rfl rfl ?_
  refine ov_Bnewl U B (n := 0) (Ni := 52) (N := 52) d_7_6 (by decide) rfl (by decide +kernel) (by decide +kernel) rfl (by decide +kernel) (fun z1 h2 B3 => ?_)
  refine ov_Bput B3 (n := 3) (x := 52) d_7_8 fl_Memo_9 rfl rfl nk_2 rfl (fun h4 B5 => ?_)
  refine ov_blk (ls2 := [(0, ov_r 51)]) (st2 := [ov_i 54, ov_r 51]) (pc2 := 14) b_7_11_2 rfl rfl ?_
  refine ov_Bnewi U B5 (n := 54) (Ni := 53) (N := 53) d_7_14 (by decide) rfl (by decide +kernel) (by decide +kernel) rfl (by decide +kernel) (fun z6 h7 B8 => ?_)
  refine ov_BputF B8 (n := 3) (x := 53) d_7_16 fl_Memo_15 rfl rfl nk_2 rfl rfl rfl (fun h9 B10 => ?_)
  exact ov_retv (st := []) d_7_19 rfl (ov_BL_fin B10 rfl)
set_option maxHeartbeats 4000000 in
theorem i_Pace_49 {u : ov_U} {z : ov_Z} {h : ov_H} (d : Nat) (hd : 2 ≤ d) (U : ov_cap u) (C : ov_SH 50 z) (hr : h 49 = ov_df 5) : ov_T u d ov_m9 [ov_r 49] z h (ov_CQ 49 54 h) := by
  refine ov_en rfl (Nat.le_of_ble_eq_true rfl) ?_
  show ov_R u d ov_m9 0 [(0, ov_r 49)] [] z h _
  have B := ov_BL_ini (a := 49) C rfl (by decide) hr
  refine ov_blk (ls2 := [(0, ov_r 49)]) (st2 := [ov_r 49]) (pc2 := 1) b_9_0_1 rfl rfl ?_
  refine ov_obi d_9_1 oi_Pace_3 (by decide) (by omega) (Nat.le_of_ble_eq_true rfl) ?_
  refine ov_blk (ls2 := [(0, ov_r 49)]) (st2 := [ov_i 13, ov_r 49]) (pc2 := 7) b_9_4_2 rfl rfl ?_
  refine ov_Bnewi U B (n := 13) (Ni := 50) (N := 50) d_9_7 (by decide) rfl (by decide +kernel) (by decide +kernel) rfl (by decide +kernel) (fun z1 h2 B3 => ?_)
  refine ov_BputF B3 (n := 9) (x := 50) d_9_9 fl_Pace_9 rfl rfl nk_2 rfl rfl rfl (fun h4 B5 => ?_)
  refine ov_blk (ls2 := [(0, ov_r 49)]) (st2 := [ov_r 49]) (pc2 := 13) b_9_12_1 rfl rfl ?_
  refine ov_Bnew U B5 (c := 4) (Ni := 51) (N := 51) d_9_13 nl_Pace_15 rfl (by decide +kernel) (by decide +kernel) (by decide +kernel) (fun z6 h7 C8 k9 r10 => ?_)
  refine ov_blk (ls2 := [(0, ov_r 49)]) (st2 := [ov_r 51, ov_r 51, ov_r 49]) (pc2 := 17) b_9_16_1 rfl rfl ?_
  refine ov_cIN (as := []) (st := [ov_r 51, ov_r 49]) (d2 := d - 1) rfl d_9_17 lk_Pace_17 rfl (Nat.le_of_ble_eq_true rfl) (by decide) (by omega) (i_Memo_51 (d - 1) (by omega) U C8 r10) ?_
  rintro _ z11 h12 ⟨rfl, C13, k14, t15⟩
  have B16 := ov_BL_sub B5 C13 (by decide) (fun b hb => by rw [k14 b (by omega)]; exact k9 b hb) (fun b h1 h2 => t15 b (by omega) (by omega))
  show ov_R u d ov_m9 20 [(0, ov_r 49)] [ov_r 51, ov_r 49] z11 h12 _
  refine ov_BputF B16 (n := 9) (x := 51) d_9_20 fl_Pace_18 rfl rfl nk_2 rfl rfl rfl (fun h17 B18 => ?_)
  refine ov_blk (ls2 := [(0, ov_r 49)]) (st2 := [ov_i (-1), ov_r 49]) (pc2 := 25) b_9_23_2 rfl rfl ?_
  refine ov_Bput B18 (n := 9) (x := (-1)) d_9_25 fl_Pace_22 rfl rfl nk_0 rfl (fun h19 B20 => ?_)
  exact ov_retv (st := []) d_9_28 rfl (ov_BL_fin B20 rfl)
set_option maxHeartbeats 4000000 in
theorem i_Wave_54 {u : ov_U} {z : ov_Z} {h : ov_H} (d : Nat) (hd : 1 ≤ d) (U : ov_cap u) (C : ov_SH 55 z) (hr : h 54 = ov_df 11) : ov_T u d ov_m10 [ov_r 54] z h (ov_CQ 54 58 h) := by
  refine ov_en rfl (Nat.le_of_ble_eq_true rfl) ?_
  show ov_R u d ov_m10 0 [(0, ov_r 54)] [] z h _
  have B := ov_BL_ini (a := 54) C rfl (by decide) hr
  refine ov_blk (ls2 := [(0, ov_r 54)]) (st2 := [ov_r 54]) (pc2 := 1) b_10_0_1 rfl rfl ?_
  refine ov_obi d_10_1 oi_Wave_3 (by decide) (by omega) (Nat.le_of_ble_eq_true rfl) ?_
  refine ov_blk (ls2 := [(0, ov_r 54)]) (st2 := [ov_i 4, ov_r 54]) (pc2 := 6) b_10_4_2 rfl rfl ?_
  refine ov_Bnewi U B (n := 4) (Ni := 55) (N := 55) d_10_6 (by decide) rfl (by decide +kernel) (by decide +kernel) rfl (by decide +kernel) (fun z1 h2 B3 => ?_)
  refine ov_BputF B3 (n := 9) (x := 55) d_10_8 fl_Wave_11 rfl rfl nk_2 rfl rfl rfl (fun h4 B5 => ?_)
  refine ov_blk (ls2 := [(0, ov_r 54)]) (st2 := [ov_i 4, ov_r 54]) (pc2 := 13) b_10_11_2 rfl rfl ?_
  refine ov_Bnewi U B5 (n := 4) (Ni := 56) (N := 56) d_10_13 (by decide) rfl (by decide +kernel) (by decide +kernel) rfl (by decide +kernel) (fun z6 h7 B8 => ?_)
  refine ov_BputF B8 (n := 9) (x := 56) d_10_15 fl_Wave_15 rfl rfl nk_2 rfl rfl rfl (fun h9 B10 => ?_)
  refine ov_blk (ls2 := [(0, ov_r 54)]) (st2 := [ov_i 4, ov_r 54]) (pc2 := 20) b_10_18_2 rfl rfl ?_
  refine ov_Bnewl U B10 (n := 4) (Ni := 57) (N := 57) d_10_20 (by decide) rfl (by decide +kernel) (by decide +kernel) rfl (by decide +kernel) (fun z11 h12 B13 => ?_)
  refine ov_BputF B13 (n := 9) (x := 57) d_10_22 fl_Wave_18 rfl rfl nk_2 rfl rfl rfl (fun h14 B15 => ?_)
  refine ov_blk (ls2 := [(0, ov_r 54)]) (st2 := [ov_i (-1), ov_r 54]) (pc2 := 27) b_10_25_2 rfl rfl ?_
  refine ov_Bput B15 (n := 9) (x := (-1)) d_10_27 fl_Wave_22 rfl rfl nk_0 rfl (fun h16 B17 => ?_)
  exact ov_retv (st := []) d_10_30 rfl (ov_BL_fin B17 rfl)
set_option maxHeartbeats 4000000 in
theorem i_Town_58 {u : ov_U} {z : ov_Z} {h : ov_H} (d : Nat) (hd : 1 ≤ d) (U : ov_cap u) (C : ov_SH 59 z) (hr : h 58 = ov_df 9) : ov_T u d ov_m11 [ov_r 58] z h (ov_CQ 58 70 h) := by
  refine ov_en rfl (Nat.le_of_ble_eq_true rfl) ?_
  show ov_R u d ov_m11 0 [(0, ov_r 58)] [] z h _
  have B := ov_BL_ini (a := 58) C rfl (by decide) hr
  refine ov_blk (ls2 := [(0, ov_r 58)]) (st2 := [ov_r 58]) (pc2 := 1) b_11_0_1 rfl rfl ?_
  refine ov_obi d_11_1 oi_Town_3 (by decide) (by omega) (Nat.le_of_ble_eq_true rfl) ?_
  refine ov_blk (ls2 := [(0, ov_r 58)]) (st2 := [ov_i 54, ov_r 58]) (pc2 := 7) b_11_4_2 rfl rfl ?_
  refine ov_Bnewi U B (n := 54) (Ni := 59) (N := 59) d_11_7 (by decide) rfl (by decide +kernel) (by decide +kernel) rfl (by decide +kernel) (fun z1 h2 B3 => ?_)
  refine ov_BputF B3 (n := 18) (x := 59) d_11_9 fl_Town_9 rfl rfl nk_2 rfl rfl rfl (fun h4 B5 => ?_)
  refine ov_blk (ls2 := [(0, ov_r 58)]) (st2 := [ov_i 54, ov_r 58]) (pc2 := 15) b_11_12_2 rfl rfl ?_
  refine ov_Bnewi U B5 (n := 54) (Ni := 60) (N := 60) d_11_15 (by decide) rfl (by decide +kernel) (by decide +kernel) rfl (by decide +kernel) (fun z6 h7 B8 => ?_)
  refine ov_BputF B8 (n := 18) (x := 60) d_11_17 fl_Town_15 rfl rfl nk_2 rfl rfl rfl (fun h9 B10 => ?_)
  refine ov_blk (ls2 := [(0, ov_r 58)]) (st2 := [ov_i 54, ov_r 58]) (pc2 := 23) b_11_20_2 rfl rfl ?_
  refine ov_Bnewi U B10 (n := 54) (Ni := 61) (N := 61) d_11_23 (by decide) rfl (by decide +kernel) (by decide +kernel) rfl (by decide +kernel) (fun z11 h12 B13 => ?_)
  refine ov_BputF B13 (n := 18) (x := 61) d_11_25 fl_Town_18 rfl rfl nk_2 rfl rfl rfl (fun h14 B15 => ?_)
  refine ov_blk (ls2 := [(0, ov_r 58)]) (st2 := [ov_i 54, ov_r 58]) (pc2 := 31) b_11_28_2 rfl rfl ?_
  refine ov_Bnewi U B15 (n := 54) (Ni := 62) (N := 62) d_11_31 (by decide) rfl (by decide +kernel) (by decide +kernel) rfl (by decide +kernel) (fun z16 h17 B18 => ?_)
  refine ov_BputF B18 (n := 18) (x := 62) d_11_33 fl_Town_21 rfl rfl nk_2 rfl rfl rfl (fun h19 B20 => ?_)
  refine ov_blk (ls2 := [(0, ov_r 58)]) (st2 := [ov_i 54, ov_r 58]) (pc2 := 39) b_11_36_2 rfl rfl ?_
  refine ov_Bnewi U B20 (n := 54) (Ni := 63) (N := 63) d_11_39 (by decide) rfl (by decide +kernel) (by decide +kernel) rfl (by decide +kernel) (fun z21 h22 B23 => ?_)
  refine ov_BputF B23 (n := 18) (x := 63) d_11_41 fl_Town_24 rfl rfl nk_2 rfl rfl rfl (fun h24 B25 => ?_)
  refine ov_blk (ls2 := [(0, ov_r 58)]) (st2 := [ov_i 4, ov_r 58]) (pc2 := 46) b_11_44_2 rfl rfl ?_
  refine ov_Bnewi U B25 (n := 4) (Ni := 64) (N := 64) d_11_46 (by decide) rfl (by decide +kernel) (by decide +kernel) rfl (by decide +kernel) (fun z26 h27 B28 => ?_)
  refine ov_BputF B28 (n := 18) (x := 64) d_11_48 fl_Town_27 rfl rfl nk_2 rfl rfl rfl (fun h29 B30 => ?_)
  refine ov_blk (ls2 := [(0, ov_r 58)]) (st2 := [ov_i 54, ov_r 58]) (pc2 := 54) b_11_51_2 rfl rfl ?_
  refine ov_Bnewi U B30 (n := 54) (Ni := 65) (N := 65) d_11_54 (by decide) rfl (by decide +kernel) (by decide +kernel) rfl (by decide +kernel) (fun z31 h32 B33 => ?_)
  refine ov_BputF B33 (n := 18) (x := 65) d_11_56 fl_Town_30 rfl rfl nk_2 rfl rfl rfl (fun h34 B35 => ?_)
  refine ov_blk (ls2 := [(0, ov_r 58)]) (st2 := [ov_i 4, ov_r 58]) (pc2 := 61) b_11_59_2 rfl rfl ?_
  refine ov_Bnewl U B35 (n := 4) (Ni := 66) (N := 66) d_11_61 (by decide) rfl (by decide +kernel) (by decide +kernel) rfl (by decide +kernel) (fun z36 h37 B38 => ?_)
  refine ov_BputF B38 (n := 18) (x := 66) d_11_63 fl_Town_33 rfl rfl nk_2 rfl rfl rfl (fun h39 B40 => ?_)
  refine ov_blk (ls2 := [(0, ov_r 58)]) (st2 := [ov_i 4, ov_r 58]) (pc2 := 68) b_11_66_2 rfl rfl ?_
  refine ov_Bnewi U B40 (n := 4) (Ni := 67) (N := 67) d_11_68 (by decide) rfl (by decide +kernel) (by decide +kernel) rfl (by decide +kernel) (fun z41 h42 B43 => ?_)
  refine ov_BputF B43 (n := 18) (x := 67) d_11_70 fl_Town_37 rfl rfl nk_2 rfl rfl rfl (fun h44 B45 => ?_)
  refine ov_blk (ls2 := [(0, ov_r 58)]) (st2 := [ov_i 1000, ov_r 58]) (pc2 := 77) b_11_73_2 rfl rfl ?_
  refine ov_Bnewi U B45 (n := 1000) (Ni := 68) (N := 68) d_11_77 (by decide) rfl (by decide +kernel) (by decide +kernel) rfl (by decide +kernel) (fun z46 h47 B48 => ?_)
  refine ov_BputF B48 (n := 18) (x := 68) d_11_79 fl_Town_40 rfl rfl nk_2 rfl rfl rfl (fun h49 B50 => ?_)
  refine ov_blk (ls2 := [(0, ov_r 58)]) (st2 := [ov_i 64, ov_r 58]) (pc2 := 85) b_11_82_2 rfl rfl ?_
  refine ov_Bnewi U B50 (n := 64) (Ni := 69) (N := 69) d_11_85 (by decide) rfl (by decide +kernel) (by decide +kernel) rfl (by decide +kernel) (fun z51 h52 B53 => ?_)
  refine ov_BputF B53 (n := 18) (x := 69) d_11_87 fl_Town_43 rfl rfl nk_2 rfl rfl rfl (fun h54 B55 => ?_)
  exact ov_retv (st := []) d_11_90 rfl (ov_BL_fin B55 rfl)
set_option maxHeartbeats 4000000 in
theorem i_Town_70 {u : ov_U} {z : ov_Z} {h : ov_H} (d : Nat) (hd : 1 ≤ d) (U : ov_cap u) (C : ov_SH 71 z) (hr : h 70 = ov_df 9) : ov_T u d ov_m11 [ov_r 70] z h (ov_CQ 70 82 h) := by
  refine ov_en rfl (Nat.le_of_ble_eq_true rfl) ?_
  show ov_R u d ov_m11 0 [(0, ov_r 70)] [] z h _
  have B := ov_BL_ini (a := 70) C rfl (by decide) hr
  refine ov_blk (ls2 := [(0, ov_r 70)]) (st2 := [ov_r 70]) (pc2 := 1) b_11_0_1 rfl rfl ?_
  refine ov_obi d_11_1 oi_Town_3 (by decide) (by omega) (Nat.le_of_ble_eq_true rfl) ?_
  refine ov_blk (ls2 := [(0, ov_r 70)]) (st2 := [ov_i 54, ov_r 70]) (pc2 := 7) b_11_4_2 rfl rfl ?_
  refine ov_Bnewi U B (n := 54) (Ni := 71) (N := 71) d_11_7 (by decide) rfl (by decide +kernel) (by decide +kernel) rfl (by decide +kernel) (fun z1 h2 B3 => ?_)
  refine ov_BputF B3 (n := 18) (x := 71) d_11_9 fl_Town_9 rfl rfl nk_2 rfl rfl rfl (fun h4 B5 => ?_)
  refine ov_blk (ls2 := [(0, ov_r 70)]) (st2 := [ov_i 54, ov_r 70]) (pc2 := 15) b_11_12_2 rfl rfl ?_
  refine ov_Bnewi U B5 (n := 54) (Ni := 72) (N := 72) d_11_15 (by decide) rfl (by decide +kernel) (by decide +kernel) rfl (by decide +kernel) (fun z6 h7 B8 => ?_)
  refine ov_BputF B8 (n := 18) (x := 72) d_11_17 fl_Town_15 rfl rfl nk_2 rfl rfl rfl (fun h9 B10 => ?_)
  refine ov_blk (ls2 := [(0, ov_r 70)]) (st2 := [ov_i 54, ov_r 70]) (pc2 := 23) b_11_20_2 rfl rfl ?_
  refine ov_Bnewi U B10 (n := 54) (Ni := 73) (N := 73) d_11_23 (by decide) rfl (by decide +kernel) (by decide +kernel) rfl (by decide +kernel) (fun z11 h12 B13 => ?_)
  refine ov_BputF B13 (n := 18) (x := 73) d_11_25 fl_Town_18 rfl rfl nk_2 rfl rfl rfl (fun h14 B15 => ?_)
  refine ov_blk (ls2 := [(0, ov_r 70)]) (st2 := [ov_i 54, ov_r 70]) (pc2 := 31) b_11_28_2 rfl rfl ?_
  refine ov_Bnewi U B15 (n := 54) (Ni := 74) (N := 74) d_11_31 (by decide) rfl (by decide +kernel) (by decide +kernel) rfl (by decide +kernel) (fun z16 h17 B18 => ?_)
  refine ov_BputF B18 (n := 18) (x := 74) d_11_33 fl_Town_21 rfl rfl nk_2 rfl rfl rfl (fun h19 B20 => ?_)
  refine ov_blk (ls2 := [(0, ov_r 70)]) (st2 := [ov_i 54, ov_r 70]) (pc2 := 39) b_11_36_2 rfl rfl ?_
  refine ov_Bnewi U B20 (n := 54) (Ni := 75) (N := 75) d_11_39 (by decide) rfl (by decide +kernel) (by decide +kernel) rfl (by decide +kernel) (fun z21 h22 B23 => ?_)
  refine ov_BputF B23 (n := 18) (x := 75) d_11_41 fl_Town_24 rfl rfl nk_2 rfl rfl rfl (fun h24 B25 => ?_)
  refine ov_blk (ls2 := [(0, ov_r 70)]) (st2 := [ov_i 4, ov_r 70]) (pc2 := 46) b_11_44_2 rfl rfl ?_
  refine ov_Bnewi U B25 (n := 4) (Ni := 76) (N := 76) d_11_46 (by decide) rfl (by decide +kernel) (by decide +kernel) rfl (by decide +kernel) (fun z26 h27 B28 => ?_)
  refine ov_BputF B28 (n := 18) (x := 76) d_11_48 fl_Town_27 rfl rfl nk_2 rfl rfl rfl (fun h29 B30 => ?_)
  refine ov_blk (ls2 := [(0, ov_r 70)]) (st2 := [ov_i 54, ov_r 70]) (pc2 := 54) b_11_51_2 rfl rfl ?_
  refine ov_Bnewi U B30 (n := 54) (Ni := 77) (N := 77) d_11_54 (by decide) rfl (by decide +kernel) (by decide +kernel) rfl (by decide +kernel) (fun z31 h32 B33 => ?_)
  refine ov_BputF B33 (n := 18) (x := 77) d_11_56 fl_Town_30 rfl rfl nk_2 rfl rfl rfl (fun h34 B35 => ?_)
  refine ov_blk (ls2 := [(0, ov_r 70)]) (st2 := [ov_i 4, ov_r 70]) (pc2 := 61) b_11_59_2 rfl rfl ?_
  refine ov_Bnewl U B35 (n := 4) (Ni := 78) (N := 78) d_11_61 (by decide) rfl (by decide +kernel) (by decide +kernel) rfl (by decide +kernel) (fun z36 h37 B38 => ?_)
  refine ov_BputF B38 (n := 18) (x := 78) d_11_63 fl_Town_33 rfl rfl nk_2 rfl rfl rfl (fun h39 B40 => ?_)
  refine ov_blk (ls2 := [(0, ov_r 70)]) (st2 := [ov_i 4, ov_r 70]) (pc2 := 68) b_11_66_2 rfl rfl ?_
  refine ov_Bnewi U B40 (n := 4) (Ni := 79) (N := 79) d_11_68 (by decide) rfl (by decide +kernel) (by decide +kernel) rfl (by decide +kernel) (fun z41 h42 B43 => ?_)
  refine ov_BputF B43 (n := 18) (x := 79) d_11_70 fl_Town_37 rfl rfl nk_2 rfl rfl rfl (fun h44 B45 => ?_)
  refine ov_blk (ls2 := [(0, ov_r 70)]) (st2 := [ov_i 1000, ov_r 70]) (pc2 := 77) b_11_73_2 rfl rfl ?_
  refine ov_Bnewi U B45 (n := 1000) (Ni := 80) (N := 80) d_11_77 (by decide) rfl (by decide +kernel) (by decide +kernel) rfl (by decide +kernel) (fun z46 h47 B48 => ?_)
  refine ov_BputF B48 (n := 18) (x := 80) d_11_79 fl_Town_40 rfl rfl nk_2 rfl rfl rfl (fun h49 B50 => ?_)
  refine ov_blk (ls2 := [(0, ov_r 70)]) (st2 := [ov_i 64, ov_r 70]) (pc2 := 85) b_11_82_2 rfl rfl ?_
  refine ov_Bnewi U B50 (n := 64) (Ni := 81) (N := 81) d_11_85 (by decide) rfl (by decide +kernel) (by decide +kernel) rfl (by decide +kernel) (fun z51 h52 B53 => ?_)
  refine ov_BputF B53 (n := 18) (x := 81) d_11_87 fl_Town_43 rfl rfl nk_2 rfl rfl rfl (fun h54 B55 => ?_)
  exact ov_retv (st := []) d_11_90 rfl (ov_BL_fin B55 rfl)
set_option maxHeartbeats 4000000 in
theorem i_Walk_82 {u : ov_U} {z : ov_Z} {h : ov_H} (d : Nat) (hd : 1 ≤ d) (U : ov_cap u) (C : ov_SH 83 z) (hr : h 82 = ov_df 10) : ov_T u d ov_m12 [ov_r 82] z h (ov_CQ 82 86 h) := by
  refine ov_en rfl (Nat.le_of_ble_eq_true rfl) ?_
  show ov_R u d ov_m12 0 [(0, ov_r 82)] [] z h _
  have B := ov_BL_ini (a := 82) C rfl (by decide) hr
  refine ov_blk (ls2 := [(0, ov_r 82)]) (st2 := [ov_r 82]) (pc2 := 1) b_12_0_1 rfl rfl ?_
  refine ov_obi d_12_1 oi_Walk_3 (by decide) (by omega) (Nat.le_of_ble_eq_true rfl) ?_
  refine ov_blk (ls2 := [(0, ov_r 82)]) (st2 := [ov_i 13, ov_r 82]) (pc2 := 7) b_12_4_2 rfl rfl ?_
  refine ov_Bnewi U B (n := 13) (Ni := 83) (N := 83) d_12_7 (by decide) rfl (by decide +kernel) (by decide +kernel) rfl (by decide +kernel) (fun z1 h2 B3 => ?_)
  refine ov_BputF B3 (n := 5) (x := 83) d_12_9 fl_Walk_9 rfl rfl nk_2 rfl rfl rfl (fun h4 B5 => ?_)
  refine ov_blk (ls2 := [(0, ov_r 82)]) (st2 := [ov_i 13, ov_r 82]) (pc2 := 15) b_12_12_2 rfl rfl ?_
  refine ov_Bnewi U B5 (n := 13) (Ni := 84) (N := 84) d_12_15 (by decide) rfl (by decide +kernel) (by decide +kernel) rfl (by decide +kernel) (fun z6 h7 B8 => ?_)
  refine ov_BputF B8 (n := 5) (x := 84) d_12_17 fl_Walk_15 rfl rfl nk_2 rfl rfl rfl (fun h9 B10 => ?_)
  refine ov_blk (ls2 := [(0, ov_r 82)]) (st2 := [ov_i 13, ov_r 82]) (pc2 := 23) b_12_20_2 rfl rfl ?_
  refine ov_Bnewi U B10 (n := 13) (Ni := 85) (N := 85) d_12_23 (by decide) rfl (by decide +kernel) (by decide +kernel) rfl (by decide +kernel) (fun z11 h12 B13 => ?_)
  refine ov_BputF B13 (n := 5) (x := 85) d_12_25 fl_Walk_18 rfl rfl nk_2 rfl rfl rfl (fun h14 B15 => ?_)
  exact ov_retv (st := []) d_12_28 rfl (ov_BL_fin B15 rfl)
set_option maxHeartbeats 4000000 in
theorem i_Walk_86 {u : ov_U} {z : ov_Z} {h : ov_H} (d : Nat) (hd : 1 ≤ d) (U : ov_cap u) (C : ov_SH 87 z) (hr : h 86 = ov_df 10) : ov_T u d ov_m12 [ov_r 86] z h (ov_CQ 86 90 h) := by
  refine ov_en rfl (Nat.le_of_ble_eq_true rfl) ?_
  show ov_R u d ov_m12 0 [(0, ov_r 86)] [] z h _
  have B := ov_BL_ini (a := 86) C rfl (by decide) hr
  refine ov_blk (ls2 := [(0, ov_r 86)]) (st2 := [ov_r 86]) (pc2 := 1) b_12_0_1 rfl rfl ?_
  refine ov_obi d_12_1 oi_Walk_3 (by decide) (by omega) (Nat.le_of_ble_eq_true rfl) ?_
  refine ov_blk (ls2 := [(0, ov_r 86)]) (st2 := [ov_i 13, ov_r 86]) (pc2 := 7) b_12_4_2 rfl rfl ?_
  refine ov_Bnewi U B (n := 13) (Ni := 87) (N := 87) d_12_7 (by decide) rfl (by decide +kernel) (by decide +kernel) rfl (by decide +kernel) (fun z1 h2 B3 => ?_)
  refine ov_BputF B3 (n := 5) (x := 87) d_12_9 fl_Walk_9 rfl rfl nk_2 rfl rfl rfl (fun h4 B5 => ?_)
  refine ov_blk (ls2 := [(0, ov_r 86)]) (st2 := [ov_i 13, ov_r 86]) (pc2 := 15) b_12_12_2 rfl rfl ?_
  refine ov_Bnewi U B5 (n := 13) (Ni := 88) (N := 88) d_12_15 (by decide) rfl (by decide +kernel) (by decide +kernel) rfl (by decide +kernel) (fun z6 h7 B8 => ?_)
  refine ov_BputF B8 (n := 5) (x := 88) d_12_17 fl_Walk_15 rfl rfl nk_2 rfl rfl rfl (fun h9 B10 => ?_)
  refine ov_blk (ls2 := [(0, ov_r 86)]) (st2 := [ov_i 13, ov_r 86]) (pc2 := 23) b_12_20_2 rfl rfl ?_
  refine ov_Bnewi U B10 (n := 13) (Ni := 89) (N := 89) d_12_23 (by decide) rfl (by decide +kernel) (by decide +kernel) rfl (by decide +kernel) (fun z11 h12 B13 => ?_)
  refine ov_BputF B13 (n := 5) (x := 89) d_12_25 fl_Walk_18 rfl rfl nk_2 rfl rfl rfl (fun h14 B15 => ?_)
  exact ov_retv (st := []) d_12_28 rfl (ov_BL_fin B15 rfl)

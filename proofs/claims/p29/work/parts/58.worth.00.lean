theorem b_278_0_4 : ov_ds ov_m278.2.1 0 [.iconst 0, .istore_n 2, .iload_n 1, .istore_n 3] = true := by decide +kernel
theorem b_278_4_1 : ov_ds ov_m278.2.1 4 [.aload_n 0] = true := by decide +kernel
theorem d_278_5 : decode ov_m278.2.1 5 = .ok (.getfield 84, 3) := by decide +kernel
theorem b_278_8_1 : ov_ds ov_m278.2.1 8 [.iload_n 3] = true := by decide +kernel
theorem d_278_9 : decode ov_m278.2.1 9 = .ok (.iaload, 1) := by decide +kernel
theorem d_278_10 : decode ov_m278.2.1 10 = .ok (.ifCond .eq 130, 3) := by decide +kernel
theorem b_278_140_1 : ov_ds ov_m278.2.1 140 [.aload_n 0] = true := by decide +kernel
theorem d_278_141 : decode ov_m278.2.1 141 = .ok (.getfield 99, 3) := by decide +kernel
theorem b_278_144_1 : ov_ds ov_m278.2.1 144 [.iconst 0] = true := by decide +kernel
theorem d_278_145 : decode ov_m278.2.1 145 = .ok (.iaload, 1) := by decide +kernel
theorem d_278_146 : decode ov_m278.2.1 146 = .ok (.ireturn, 1) := by decide +kernel
theorem b_278_13_1 : ov_ds ov_m278.2.1 13 [.aload_n 0] = true := by decide +kernel
theorem d_278_14 : decode ov_m278.2.1 14 = .ok (.getfield 84, 3) := by decide +kernel
theorem b_278_17_1 : ov_ds ov_m278.2.1 17 [.iload_n 3] = true := by decide +kernel
theorem d_278_18 : decode ov_m278.2.1 18 = .ok (.iaload, 1) := by decide +kernel
theorem b_278_19_3 : ov_ds ov_m278.2.1 19 [.istore 4, .iload 4, .iconst 1] = true := by decide +kernel
theorem d_278_24 : decode ov_m278.2.1 24 = .ok (.if_icmp .eq 9, 3) := by decide +kernel
theorem b_278_33_1 : ov_ds ov_m278.2.1 33 [.aload_n 0] = true := by decide +kernel
theorem d_278_34 : decode ov_m278.2.1 34 = .ok (.getfield 99, 3) := by decide +kernel
theorem b_278_37_3 : ov_ds ov_m278.2.1 37 [.iload_n 2, .iload 4, .iconst 1] = true := by decide +kernel
theorem d_278_41 : decode ov_m278.2.1 41 = .ok (.if_icmp .ne 12, 3) := by decide +kernel
theorem b_278_44_1 : ov_ds ov_m278.2.1 44 [.aload_n 0] = true := by decide +kernel
theorem d_278_45 : decode ov_m278.2.1 45 = .ok (.getfield 87, 3) := by decide +kernel
theorem b_278_48_1 : ov_ds ov_m278.2.1 48 [.iload_n 3] = true := by decide +kernel
theorem d_278_49 : decode ov_m278.2.1 49 = .ok (.iaload, 1) := by decide +kernel
theorem d_278_50 : decode ov_m278.2.1 50 = .ok (.goto 14, 3) := by decide +kernel
theorem d_278_64 : decode ov_m278.2.1 64 = .ok (.iastore, 1) := by decide +kernel
theorem b_278_65_1 : ov_ds ov_m278.2.1 65 [.iinc 2 1] = true := by decide +kernel
theorem d_278_68 : decode ov_m278.2.1 68 = .ok (.goto 66, 3) := by decide +kernel
theorem b_278_134_1 : ov_ds ov_m278.2.1 134 [.iinc 3 1] = true := by decide +kernel
theorem d_278_137 : decode ov_m278.2.1 137 = .ok (.goto (-133), 3) := by decide +kernel
theorem b_278_27_2 : ov_ds ov_m278.2.1 27 [.iload 4, .iconst 2] = true := by decide +kernel
theorem d_278_30 : decode ov_m278.2.1 30 = .ok (.if_icmp .ne 41, 3) := by decide +kernel
theorem b_278_71_2 : ov_ds ov_m278.2.1 71 [.iload 4, .iconst 3] = true := by decide +kernel
theorem d_278_74 : decode ov_m278.2.1 74 = .ok (.if_icmp .ne 30, 3) := by decide +kernel
theorem b_278_104_2 : ov_ds ov_m278.2.1 104 [.iinc 2 (-1), .aload_n 0] = true := by decide +kernel
theorem d_278_108 : decode ov_m278.2.1 108 = .ok (.getfield 99, 3) := by decide +kernel
theorem b_278_111_5 : ov_ds ov_m278.2.1 111 [.iload_n 2, .iconst 1, .isub, .iload 4, .aload_n 0] = true := by decide +kernel
theorem d_278_117 : decode ov_m278.2.1 117 = .ok (.getfield 99, 3) := by decide +kernel
theorem b_278_120_3 : ov_ds ov_m278.2.1 120 [.iload_n 2, .iconst 1, .isub] = true := by decide +kernel
theorem d_278_123 : decode ov_m278.2.1 123 = .ok (.iaload, 1) := by decide +kernel
theorem b_278_124_1 : ov_ds ov_m278.2.1 124 [.aload_n 0] = true := by decide +kernel
theorem d_278_125 : decode ov_m278.2.1 125 = .ok (.getfield 99, 3) := by decide +kernel
theorem b_278_128_1 : ov_ds ov_m278.2.1 128 [.iload_n 2] = true := by decide +kernel
theorem d_278_129 : decode ov_m278.2.1 129 = .ok (.iaload, 1) := by decide +kernel
theorem d_278_130 : decode ov_m278.2.1 130 = .ok (.invokestatic 272, 3) := by decide +kernel
theorem d_278_133 : decode ov_m278.2.1 133 = .ok (.iastore, 1) := by decide +kernel
theorem b_278_77_1 : ov_ds ov_m278.2.1 77 [.aload_n 0] = true := by decide +kernel
theorem d_278_78 : decode ov_m278.2.1 78 = .ok (.getfield 99, 3) := by decide +kernel
theorem b_278_81_4 : ov_ds ov_m278.2.1 81 [.iload_n 2, .iconst 1, .isub, .aload_n 0] = true := by decide +kernel
theorem d_278_85 : decode ov_m278.2.1 85 = .ok (.getfield 99, 3) := by decide +kernel
theorem b_278_88_3 : ov_ds ov_m278.2.1 88 [.iload_n 2, .iconst 1, .isub] = true := by decide +kernel
theorem d_278_91 : decode ov_m278.2.1 91 = .ok (.iaload, 1) := by decide +kernel
theorem d_278_92 : decode ov_m278.2.1 92 = .ok (.ifCond .ne 7, 3) := by decide +kernel
theorem b_278_99_1 : ov_ds ov_m278.2.1 99 [.iconst 0] = true := by decide +kernel
theorem d_278_100 : decode ov_m278.2.1 100 = .ok (.iastore, 1) := by decide +kernel
theorem d_278_101 : decode ov_m278.2.1 101 = .ok (.goto 33, 3) := by decide +kernel
theorem b_278_95_1 : ov_ds ov_m278.2.1 95 [.iconst 1] = true := by decide +kernel
theorem d_278_96 : decode ov_m278.2.1 96 = .ok (.goto 4, 3) := by decide +kernel
theorem b_278_53_1 : ov_ds ov_m278.2.1 53 [.aload_n 0] = true := by decide +kernel
theorem d_278_54 : decode ov_m278.2.1 54 = .ok (.getfield 96, 3) := by decide +kernel
theorem b_278_57_1 : ov_ds ov_m278.2.1 57 [.aload_n 0] = true := by decide +kernel
theorem d_278_58 : decode ov_m278.2.1 58 = .ok (.getfield 87, 3) := by decide +kernel
theorem b_278_61_1 : ov_ds ov_m278.2.1 61 [.iload_n 3] = true := by decide +kernel
theorem d_278_62 : decode ov_m278.2.1 62 = .ok (.iaload, 1) := by decide +kernel
theorem d_278_63 : decode ov_m278.2.1 63 = .ok (.iaload, 1) := by decide +kernel

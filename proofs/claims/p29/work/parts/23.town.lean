theorem ov_up_z {h : ov_H} {a k x : Int} : (k = 0 → ov_up h a k x a 0 = x) ∧ (¬ k = 0 → ov_up h a k x a 0 = h a 0) := by
  unfold ov_up
  refine ⟨fun e => if_pos ⟨rfl, e.symm⟩, fun e => if_neg (fun q => e q.2.symm)⟩
theorem b_94_0_1 : ov_ds ov_m94.2.1 0 [.iload_n 1] = true := by decide +kernel
theorem d_94_1 : decode ov_m94.2.1 1 = .ok (.ifCond .lt 32, 3) := by decide +kernel
theorem b_94_33_1 : ov_ds ov_m94.2.1 33 [.iconst (-1)] = true := by decide +kernel
theorem d_94_34 : decode ov_m94.2.1 34 = .ok (.ireturn, 1) := by decide +kernel
theorem b_94_4_2 : ov_ds ov_m94.2.1 4 [.iload_n 1, .aload_n 0] = true := by decide +kernel
theorem d_94_6 : decode ov_m94.2.1 6 = .ok (.getfield 46, 3) := by decide +kernel
theorem d_94_9 : decode ov_m94.2.1 9 = .ok (.if_icmp .ge 24, 3) := by decide +kernel
theorem b_94_12_1 : ov_ds ov_m94.2.1 12 [.iload_n 2] = true := by decide +kernel
theorem d_94_13 : decode ov_m94.2.1 13 = .ok (.ifCond .lt 20, 3) := by decide +kernel
theorem b_94_16_2 : ov_ds ov_m94.2.1 16 [.iload_n 2, .aload_n 0] = true := by decide +kernel
theorem d_94_18 : decode ov_m94.2.1 18 = .ok (.getfield 50, 3) := by decide +kernel
theorem d_94_21 : decode ov_m94.2.1 21 = .ok (.if_icmp .ge 12, 3) := by decide +kernel
theorem b_94_24_5 : ov_ds ov_m94.2.1 24 [.iload_n 2, .bipush 6, .imul, .iload_n 1, .iadd] = true := by decide +kernel
theorem d_94_30 : decode ov_m94.2.1 30 = .ok (.goto 4, 3) := by decide +kernel
theorem b_115_0_1 : ov_ds ov_m115.2.1 0 [.aload_n 0] = true := by decide +kernel
theorem d_115_1 : decode ov_m115.2.1 1 = .ok (.getfield 50, 3) := by decide +kernel
theorem b_115_4_5 : ov_ds ov_m115.2.1 4 [.iconst 1, .isub, .bipush 6, .imul, .aload_n 0] = true := by decide +kernel
theorem d_115_10 : decode ov_m115.2.1 10 = .ok (.getfield 46, 3) := by decide +kernel
theorem b_115_13_3 : ov_ds ov_m115.2.1 13 [.iadd, .iconst 1, .isub] = true := by decide +kernel
theorem d_115_16 : decode ov_m115.2.1 16 = .ok (.ireturn, 1) := by decide +kernel
theorem b_91_0_1 : ov_ds ov_m91.2.1 0 [.iload_n 2] = true := by decide +kernel
theorem d_91_1 : decode ov_m91.2.1 1 = .ok (.ifCond .ne 9, 3) := by decide +kernel
theorem b_91_10_3 : ov_ds ov_m91.2.1 10 [.iload_n 1, .bipush 6, .iadd] = true := by decide +kernel
theorem d_91_14 : decode ov_m91.2.1 14 = .ok (.ireturn, 1) := by decide +kernel
theorem b_91_4_3 : ov_ds ov_m91.2.1 4 [.iload_n 1, .iconst 1, .iadd] = true := by decide +kernel
theorem d_91_7 : decode ov_m91.2.1 7 = .ok (.goto 7, 3) := by decide +kernel
theorem b_134_0_1 : ov_ds ov_m134.2.1 0 [.aload_n 0] = true := by decide +kernel
theorem d_134_1 : decode ov_m134.2.1 1 = .ok (.getfield 46, 3) := by decide +kernel
theorem b_134_4_4 : ov_ds ov_m134.2.1 4 [.iconst 1, .isub, .iload_n 1, .bipush 6] = true := by decide +kernel
theorem d_134_9 : decode ov_m134.2.1 9 = .ok (.irem, 1) := by decide +kernel
theorem b_134_10_2 : ov_ds ov_m134.2.1 10 [.isub, .aload_n 0] = true := by decide +kernel
theorem d_134_12 : decode ov_m134.2.1 12 = .ok (.getfield 50, 3) := by decide +kernel
theorem b_134_15_5 : ov_ds ov_m134.2.1 15 [.iadd, .iconst 1, .isub, .iload_n 1, .bipush 6] = true := by decide +kernel
theorem d_134_21 : decode ov_m134.2.1 21 = .ok (.idiv, 1) := by decide +kernel
theorem b_134_22_1 : ov_ds ov_m134.2.1 22 [.isub] = true := by decide +kernel
theorem d_134_23 : decode ov_m134.2.1 23 = .ok (.ireturn, 1) := by decide +kernel
theorem b_18_0_1 : ov_ds ov_m18.2.1 0 [.iload_n 2] = true := by decide +kernel
theorem d_18_1 : decode ov_m18.2.1 1 = .ok (.ifCond .ne 24, 3) := by decide +kernel
theorem b_18_25_2 : ov_ds ov_m18.2.1 25 [.iload_n 1, .bipush 6] = true := by decide +kernel
theorem d_18_28 : decode ov_m18.2.1 28 = .ok (.idiv, 1) := by decide +kernel
theorem b_18_29_1 : ov_ds ov_m18.2.1 29 [.aload_n 0] = true := by decide +kernel
theorem d_18_30 : decode ov_m18.2.1 30 = .ok (.getfield 50, 3) := by decide +kernel
theorem b_18_33_2 : ov_ds ov_m18.2.1 33 [.iconst 1, .isub] = true := by decide +kernel
theorem d_18_35 : decode ov_m18.2.1 35 = .ok (.if_icmp .lt 7, 3) := by decide +kernel
theorem b_18_42_1 : ov_ds ov_m18.2.1 42 [.iconst 0] = true := by decide +kernel
theorem d_18_43 : decode ov_m18.2.1 43 = .ok (.ireturn, 1) := by decide +kernel
theorem b_18_38_1 : ov_ds ov_m18.2.1 38 [.iconst 1] = true := by decide +kernel
theorem d_18_39 : decode ov_m18.2.1 39 = .ok (.goto 4, 3) := by decide +kernel
theorem b_18_4_2 : ov_ds ov_m18.2.1 4 [.iload_n 1, .bipush 6] = true := by decide +kernel
theorem d_18_7 : decode ov_m18.2.1 7 = .ok (.irem, 1) := by decide +kernel
theorem b_18_8_1 : ov_ds ov_m18.2.1 8 [.aload_n 0] = true := by decide +kernel
theorem d_18_9 : decode ov_m18.2.1 9 = .ok (.getfield 46, 3) := by decide +kernel
theorem b_18_12_2 : ov_ds ov_m18.2.1 12 [.iconst 1, .isub] = true := by decide +kernel
theorem d_18_14 : decode ov_m18.2.1 14 = .ok (.if_icmp .lt 7, 3) := by decide +kernel
theorem b_18_21_1 : ov_ds ov_m18.2.1 21 [.iconst 0] = true := by decide +kernel
theorem d_18_22 : decode ov_m18.2.1 22 = .ok (.goto 21, 3) := by decide +kernel
theorem b_18_17_1 : ov_ds ov_m18.2.1 17 [.iconst 1] = true := by decide +kernel
theorem d_18_18 : decode ov_m18.2.1 18 = .ok (.goto 25, 3) := by decide +kernel
theorem b_19_0_1 : ov_ds ov_m19.2.1 0 [.aload_n 0] = true := by decide +kernel
theorem d_19_1 : decode ov_m19.2.1 1 = .ok (.getfield 24, 3) := by decide +kernel
theorem b_19_4_1 : ov_ds ov_m19.2.1 4 [.iload_n 1] = true := by decide +kernel
theorem d_19_5 : decode ov_m19.2.1 5 = .ok (.iaload, 1) := by decide +kernel
theorem b_19_6_4 : ov_ds ov_m19.2.1 6 [.iload_n 2, .ishr, .iconst 1, .iand] = true := by decide +kernel
theorem d_19_10 : decode ov_m19.2.1 10 = .ok (.ifCond .eq 7, 3) := by decide +kernel
theorem b_19_17_1 : ov_ds ov_m19.2.1 17 [.iconst 0] = true := by decide +kernel
theorem d_19_18 : decode ov_m19.2.1 18 = .ok (.ireturn, 1) := by decide +kernel
theorem b_19_13_1 : ov_ds ov_m19.2.1 13 [.iconst 1] = true := by decide +kernel
theorem d_19_14 : decode ov_m19.2.1 14 = .ok (.goto 4, 3) := by decide +kernel
theorem b_20_0_1 : ov_ds ov_m20.2.1 0 [.aload_n 0] = true := by decide +kernel
theorem d_20_1 : decode ov_m20.2.1 1 = .ok (.getfield 9, 3) := by decide +kernel
theorem b_20_4_1 : ov_ds ov_m20.2.1 4 [.iload_n 1] = true := by decide +kernel
theorem d_20_5 : decode ov_m20.2.1 5 = .ok (.iaload, 1) := by decide +kernel
theorem d_20_6 : decode ov_m20.2.1 6 = .ok (.ifCond .eq 13, 3) := by decide +kernel
theorem b_20_19_1 : ov_ds ov_m20.2.1 19 [.iconst 1] = true := by decide +kernel
theorem d_20_20 : decode ov_m20.2.1 20 = .ok (.goto 4, 3) := by decide +kernel
theorem d_20_24 : decode ov_m20.2.1 24 = .ok (.ireturn, 1) := by decide +kernel
theorem b_20_9_1 : ov_ds ov_m20.2.1 9 [.aload_n 0] = true := by decide +kernel
theorem d_20_10 : decode ov_m20.2.1 10 = .ok (.getfield 9, 3) := by decide +kernel
theorem b_20_13_1 : ov_ds ov_m20.2.1 13 [.iload_n 1] = true := by decide +kernel
theorem d_20_14 : decode ov_m20.2.1 14 = .ok (.iaload, 1) := by decide +kernel
theorem b_20_15_1 : ov_ds ov_m20.2.1 15 [.iconst 1] = true := by decide +kernel
theorem d_20_16 : decode ov_m20.2.1 16 = .ok (.if_icmp .ne 7, 3) := by decide +kernel
theorem b_20_23_1 : ov_ds ov_m20.2.1 23 [.iconst 0] = true := by decide +kernel
theorem b_98_0_1 : ov_ds ov_m98.2.1 0 [.iload_n 2] = true := by decide +kernel
theorem d_98_1 : decode ov_m98.2.1 1 = .ok (.ifCond .eq 8, 3) := by decide +kernel
theorem b_98_9_1 : ov_ds ov_m98.2.1 9 [.aload_n 0] = true := by decide +kernel
theorem d_98_10 : decode ov_m98.2.1 10 = .ok (.getfield 30, 3) := by decide +kernel
theorem b_98_13_1 : ov_ds ov_m98.2.1 13 [.iload_n 1] = true := by decide +kernel
theorem d_98_14 : decode ov_m98.2.1 14 = .ok (.iaload, 1) := by decide +kernel
theorem b_98_15_3 : ov_ds ov_m98.2.1 15 [.iload_n 2, .ishr, .iconst 1] = true := by decide +kernel
theorem b_98_18_1 : ov_ds ov_m98.2.1 18 [.iand] = true := by decide +kernel
theorem d_98_19 : decode ov_m98.2.1 19 = .ok (.ifCond .eq 7, 3) := by decide +kernel
theorem b_98_26_1 : ov_ds ov_m98.2.1 26 [.iconst 0] = true := by decide +kernel
theorem d_98_27 : decode ov_m98.2.1 27 = .ok (.ireturn, 1) := by decide +kernel
theorem b_98_22_1 : ov_ds ov_m98.2.1 22 [.iconst 1] = true := by decide +kernel
theorem d_98_23 : decode ov_m98.2.1 23 = .ok (.goto 4, 3) := by decide +kernel
theorem b_98_4_2 : ov_ds ov_m98.2.1 4 [.iload_n 2, .iconst 1] = true := by decide +kernel
theorem d_98_6 : decode ov_m98.2.1 6 = .ok (.if_icmp .ne 20, 3) := by decide +kernel
theorem b_99_0_1 : ov_ds ov_m99.2.1 0 [.aload_n 0] = true := by decide +kernel
theorem d_99_1 : decode ov_m99.2.1 1 = .ok (.getfield 9, 3) := by decide +kernel
theorem b_99_4_1 : ov_ds ov_m99.2.1 4 [.iload_n 1] = true := by decide +kernel
theorem d_99_5 : decode ov_m99.2.1 5 = .ok (.iaload, 1) := by decide +kernel
theorem b_99_6_1 : ov_ds ov_m99.2.1 6 [.iconst 2] = true := by decide +kernel
theorem d_99_7 : decode ov_m99.2.1 7 = .ok (.if_icmp .ne 18, 3) := by decide +kernel
theorem b_99_25_2 : ov_ds ov_m99.2.1 25 [.aload_n 0, .iload_n 1] = true := by decide +kernel
theorem d_99_27 : decode ov_m99.2.1 27 = .ok (.invokevirtual 89, 3) := by decide +kernel
theorem d_99_30 : decode ov_m99.2.1 30 = .ok (.ifCond .ne 5, 3) := by decide +kernel
theorem b_99_35_1 : ov_ds ov_m99.2.1 35 [.aload_n 0] = true := by decide +kernel
theorem d_99_36 : decode ov_m99.2.1 36 = .ok (.getfield 15, 3) := by decide +kernel
theorem b_99_39_1 : ov_ds ov_m99.2.1 39 [.iload_n 1] = true := by decide +kernel
theorem d_99_40 : decode ov_m99.2.1 40 = .ok (.iaload, 1) := by decide +kernel
theorem d_99_41 : decode ov_m99.2.1 41 = .ok (.ifCond .le 23, 3) := by decide +kernel
theorem b_99_64_4 : ov_ds ov_m99.2.1 64 [.iconst 0, .istore 4, .iload 4, .aload_n 0] = true := by decide +kernel
theorem d_99_70 : decode ov_m99.2.1 70 = .ok (.getfield 21, 3) := by decide +kernel
theorem b_99_73_1 : ov_ds ov_m99.2.1 73 [.iload_n 1] = true := by decide +kernel
theorem d_99_74 : decode ov_m99.2.1 74 = .ok (.iaload, 1) := by decide +kernel
theorem d_99_75 : decode ov_m99.2.1 75 = .ok (.if_icmp .ge 21, 3) := by decide +kernel
theorem b_99_96_1 : ov_ds ov_m99.2.1 96 [.iload_n 2] = true := by decide +kernel
theorem d_99_97 : decode ov_m99.2.1 97 = .ok (.ifCond .ne 15, 3) := by decide +kernel
theorem b_99_112_1 : ov_ds ov_m99.2.1 112 [.iconst 0] = true := by decide +kernel
theorem d_99_113 : decode ov_m99.2.1 113 = .ok (.ireturn, 1) := by decide +kernel
theorem b_99_100_1 : ov_ds ov_m99.2.1 100 [.aload_n 0] = true := by decide +kernel
theorem d_99_101 : decode ov_m99.2.1 101 = .ok (.getfield 15, 3) := by decide +kernel
theorem b_99_104_1 : ov_ds ov_m99.2.1 104 [.iload_n 1] = true := by decide +kernel
theorem d_99_105 : decode ov_m99.2.1 105 = .ok (.iaload, 1) := by decide +kernel
theorem b_99_106_2 : ov_ds ov_m99.2.1 106 [.iload 4, .isub] = true := by decide +kernel
theorem d_99_109 : decode ov_m99.2.1 109 = .ok (.goto 4, 3) := by decide +kernel
theorem b_99_78_1 : ov_ds ov_m99.2.1 78 [.iload_n 2] = true := by decide +kernel
theorem d_99_79 : decode ov_m99.2.1 79 = .ok (.ifCond .ne 7, 3) := by decide +kernel
theorem b_99_86_1 : ov_ds ov_m99.2.1 86 [.aload_n 0] = true := by decide +kernel
theorem d_99_87 : decode ov_m99.2.1 87 = .ok (.getfield 21, 3) := by decide +kernel
theorem b_99_90_1 : ov_ds ov_m99.2.1 90 [.iload_n 1] = true := by decide +kernel
theorem d_99_91 : decode ov_m99.2.1 91 = .ok (.iaload, 1) := by decide +kernel
theorem b_99_92_2 : ov_ds ov_m99.2.1 92 [.iload 4, .isub] = true := by decide +kernel
theorem d_99_95 : decode ov_m99.2.1 95 = .ok (.ireturn, 1) := by decide +kernel
theorem b_99_82_1 : ov_ds ov_m99.2.1 82 [.iconst 0] = true := by decide +kernel
theorem d_99_83 : decode ov_m99.2.1 83 = .ok (.goto 12, 3) := by decide +kernel
theorem b_99_44_2 : ov_ds ov_m99.2.1 44 [.iload_n 3, .aload_n 0] = true := by decide +kernel
theorem d_99_46 : decode ov_m99.2.1 46 = .ok (.getfield 18, 3) := by decide +kernel
theorem b_99_49_1 : ov_ds ov_m99.2.1 49 [.iload_n 1] = true := by decide +kernel
theorem d_99_50 : decode ov_m99.2.1 50 = .ok (.iaload, 1) := by decide +kernel
theorem b_99_51_1 : ov_ds ov_m99.2.1 51 [.isub] = true := by decide +kernel
theorem b_99_52_1 : ov_ds ov_m99.2.1 52 [.aload_n 0] = true := by decide +kernel
theorem d_99_53 : decode ov_m99.2.1 53 = .ok (.getfield 15, 3) := by decide +kernel
theorem b_99_56_1 : ov_ds ov_m99.2.1 56 [.iload_n 1] = true := by decide +kernel
theorem d_99_57 : decode ov_m99.2.1 57 = .ok (.iaload, 1) := by decide +kernel
theorem d_99_58 : decode ov_m99.2.1 58 = .ok (.invokestatic 103, 3) := by decide +kernel
theorem d_99_61 : decode ov_m99.2.1 61 = .ok (.goto 4, 3) := by decide +kernel
theorem b_99_65_3 : ov_ds ov_m99.2.1 65 [.istore 4, .iload 4, .aload_n 0] = true := by decide +kernel
theorem b_99_33_1 : ov_ds ov_m99.2.1 33 [.iconst 0] = true := by decide +kernel
theorem d_99_34 : decode ov_m99.2.1 34 = .ok (.ireturn, 1) := by decide +kernel
theorem b_99_10_1 : ov_ds ov_m99.2.1 10 [.iload_n 2] = true := by decide +kernel
theorem d_99_11 : decode ov_m99.2.1 11 = .ok (.ifCond .ne 12, 3) := by decide +kernel
theorem b_99_23_1 : ov_ds ov_m99.2.1 23 [.iconst 0] = true := by decide +kernel
theorem d_99_24 : decode ov_m99.2.1 24 = .ok (.ireturn, 1) := by decide +kernel
theorem b_99_14_1 : ov_ds ov_m99.2.1 14 [.aload_n 0] = true := by decide +kernel
theorem d_99_15 : decode ov_m99.2.1 15 = .ok (.getfield 18, 3) := by decide +kernel
theorem b_99_18_1 : ov_ds ov_m99.2.1 18 [.iload_n 1] = true := by decide +kernel
theorem d_99_19 : decode ov_m99.2.1 19 = .ok (.iaload, 1) := by decide +kernel
theorem d_99_20 : decode ov_m99.2.1 20 = .ok (.goto 4, 3) := by decide +kernel
theorem b_177_0_2 : ov_ds ov_m177.2.1 0 [.iconst 0, .istore_n 3] = true := by decide +kernel
theorem b_177_2_2 : ov_ds ov_m177.2.1 2 [.iload_n 3, .iload_n 2] = true := by decide +kernel
theorem d_177_4 : decode ov_m177.2.1 4 = .ok (.if_icmp .ge 51, 3) := by decide +kernel
theorem b_177_55_1 : ov_ds ov_m177.2.1 55 [.iconst 1] = true := by decide +kernel
theorem d_177_56 : decode ov_m177.2.1 56 = .ok (.ireturn, 1) := by decide +kernel
theorem b_177_7_8 : ov_ds ov_m177.2.1 7 [.iload_n 1, .iload_n 3, .bipush 6, .imul, .iadd, .istore 4, .iload 4, .bipush 54] = true := by decide +kernel
theorem d_177_19 : decode ov_m177.2.1 19 = .ok (.if_icmp .ge 28, 3) := by decide +kernel
theorem b_177_47_1 : ov_ds ov_m177.2.1 47 [.iconst 0] = true := by decide +kernel
theorem d_177_48 : decode ov_m177.2.1 48 = .ok (.ireturn, 1) := by decide +kernel
theorem b_177_22_2 : ov_ds ov_m177.2.1 22 [.aload_n 0, .iload 4] = true := by decide +kernel
theorem d_177_25 : decode ov_m177.2.1 25 = .ok (.invokevirtual 89, 3) := by decide +kernel
theorem d_177_28 : decode ov_m177.2.1 28 = .ok (.ifCond .eq 19, 3) := by decide +kernel
theorem b_177_31_1 : ov_ds ov_m177.2.1 31 [.aload_n 0] = true := by decide +kernel
theorem d_177_32 : decode ov_m177.2.1 32 = .ok (.getfield 15, 3) := by decide +kernel
theorem b_177_35_1 : ov_ds ov_m177.2.1 35 [.iload 4] = true := by decide +kernel
theorem d_177_37 : decode ov_m177.2.1 37 = .ok (.iaload, 1) := by decide +kernel
theorem b_177_38_1 : ov_ds ov_m177.2.1 38 [.aload_n 0] = true := by decide +kernel
theorem d_177_39 : decode ov_m177.2.1 39 = .ok (.getfield 15, 3) := by decide +kernel
theorem b_177_42_1 : ov_ds ov_m177.2.1 42 [.iload_n 1] = true := by decide +kernel
theorem d_177_43 : decode ov_m177.2.1 43 = .ok (.iaload, 1) := by decide +kernel
theorem d_177_44 : decode ov_m177.2.1 44 = .ok (.if_icmp .eq 5, 3) := by decide +kernel
theorem b_177_49_1 : ov_ds ov_m177.2.1 49 [.iinc 3 1] = true := by decide +kernel
theorem d_177_52 : decode ov_m177.2.1 52 = .ok (.goto (-50), 3) := by decide +kernel
theorem b_68_0_2 : ov_ds ov_m68.2.1 0 [.iconst 0, .istore_n 3] = true := by decide +kernel
theorem b_68_2_2 : ov_ds ov_m68.2.1 2 [.iload_n 3, .aload_n 0] = true := by decide +kernel
theorem d_68_4 : decode ov_m68.2.1 4 = .ok (.getfield 69, 3) := by decide +kernel
theorem d_68_7 : decode ov_m68.2.1 7 = .ok (.if_icmp .ge 22, 3) := by decide +kernel
theorem b_68_29_1 : ov_ds ov_m68.2.1 29 [.iconst 0] = true := by decide +kernel
theorem d_68_30 : decode ov_m68.2.1 30 = .ok (.ireturn, 1) := by decide +kernel
theorem b_68_10_1 : ov_ds ov_m68.2.1 10 [.aload_n 0] = true := by decide +kernel
theorem d_68_11 : decode ov_m68.2.1 11 = .ok (.getfield 33, 3) := by decide +kernel
theorem b_68_14_1 : ov_ds ov_m68.2.1 14 [.iload_n 3] = true := by decide +kernel
theorem d_68_15 : decode ov_m68.2.1 15 = .ok (.laload, 1) := by decide +kernel
theorem b_68_16_2 : ov_ds ov_m68.2.1 16 [.lload_n 1, .lcmp] = true := by decide +kernel
theorem d_68_18 : decode ov_m68.2.1 18 = .ok (.ifCond .ne 5, 3) := by decide +kernel
theorem b_68_23_1 : ov_ds ov_m68.2.1 23 [.iinc 3 1] = true := by decide +kernel
theorem d_68_26 : decode ov_m68.2.1 26 = .ok (.goto (-24), 3) := by decide +kernel
theorem b_68_21_1 : ov_ds ov_m68.2.1 21 [.iconst 1] = true := by decide +kernel
theorem d_68_22 : decode ov_m68.2.1 22 = .ok (.ireturn, 1) := by decide +kernel
theorem b_75_0_1 : ov_ds ov_m75.2.1 0 [.aload_n 0] = true := by decide +kernel
theorem d_75_1 : decode ov_m75.2.1 1 = .ok (.getfield 72, 3) := by decide +kernel
theorem b_75_4_1 : ov_ds ov_m75.2.1 4 [.sipush 1000] = true := by decide +kernel
theorem d_75_7 : decode ov_m75.2.1 7 = .ok (.if_icmp .ge 23, 3) := by decide +kernel
theorem d_75_30 : decode ov_m75.2.1 30 = .ok (.return_, 1) := by decide +kernel
theorem b_75_10_1 : ov_ds ov_m75.2.1 10 [.aload_n 0] = true := by decide +kernel
theorem d_75_11 : decode ov_m75.2.1 11 = .ok (.getfield 40, 3) := by decide +kernel
theorem b_75_14_1 : ov_ds ov_m75.2.1 14 [.aload_n 0] = true := by decide +kernel
theorem d_75_15 : decode ov_m75.2.1 15 = .ok (.getfield 72, 3) := by decide +kernel
theorem b_75_18_1 : ov_ds ov_m75.2.1 18 [.iload_n 1] = true := by decide +kernel
theorem d_75_19 : decode ov_m75.2.1 19 = .ok (.iastore, 1) := by decide +kernel
theorem b_75_20_2 : ov_ds ov_m75.2.1 20 [.aload_n 0, .dup] = true := by decide +kernel
theorem d_75_22 : decode ov_m75.2.1 22 = .ok (.getfield 72, 3) := by decide +kernel
theorem b_75_25_2 : ov_ds ov_m75.2.1 25 [.iconst 1, .iadd] = true := by decide +kernel
theorem d_75_27 : decode ov_m75.2.1 27 = .ok (.putfield 72, 3) := by decide +kernel
theorem b_76_0_1 : ov_ds ov_m76.2.1 0 [.aload_n 0] = true := by decide +kernel
theorem d_76_1 : decode ov_m76.2.1 1 = .ok (.getfield 69, 3) := by decide +kernel
theorem b_76_4_1 : ov_ds ov_m76.2.1 4 [.iconst 4] = true := by decide +kernel
theorem d_76_5 : decode ov_m76.2.1 5 = .ok (.if_icmp .ge 36, 3) := by decide +kernel
theorem d_76_41 : decode ov_m76.2.1 41 = .ok (.return_, 1) := by decide +kernel
theorem b_76_8_1 : ov_ds ov_m76.2.1 8 [.aload_n 0] = true := by decide +kernel
theorem d_76_9 : decode ov_m76.2.1 9 = .ok (.getfield 33, 3) := by decide +kernel
theorem b_76_12_1 : ov_ds ov_m76.2.1 12 [.aload_n 0] = true := by decide +kernel
theorem d_76_13 : decode ov_m76.2.1 13 = .ok (.getfield 69, 3) := by decide +kernel
theorem b_76_16_1 : ov_ds ov_m76.2.1 16 [.lload_n 1] = true := by decide +kernel
theorem d_76_17 : decode ov_m76.2.1 17 = .ok (.lastore, 1) := by decide +kernel
theorem b_76_18_1 : ov_ds ov_m76.2.1 18 [.aload_n 0] = true := by decide +kernel
theorem d_76_19 : decode ov_m76.2.1 19 = .ok (.getfield 37, 3) := by decide +kernel
theorem b_76_22_1 : ov_ds ov_m76.2.1 22 [.aload_n 0] = true := by decide +kernel
theorem d_76_23 : decode ov_m76.2.1 23 = .ok (.getfield 69, 3) := by decide +kernel
theorem b_76_26_1 : ov_ds ov_m76.2.1 26 [.aload_n 0] = true := by decide +kernel
theorem d_76_27 : decode ov_m76.2.1 27 = .ok (.getfield 72, 3) := by decide +kernel
theorem d_76_30 : decode ov_m76.2.1 30 = .ok (.iastore, 1) := by decide +kernel
theorem b_76_31_2 : ov_ds ov_m76.2.1 31 [.aload_n 0, .dup] = true := by decide +kernel
theorem d_76_33 : decode ov_m76.2.1 33 = .ok (.getfield 69, 3) := by decide +kernel
theorem b_76_36_2 : ov_ds ov_m76.2.1 36 [.iconst 1, .iadd] = true := by decide +kernel
theorem d_76_38 : decode ov_m76.2.1 38 = .ok (.putfield 69, 3) := by decide +kernel
theorem b_139_0_2 : ov_ds ov_m139.2.1 0 [.iload_n 1, .bipush 10] = true := by decide +kernel
theorem d_139_3 : decode ov_m139.2.1 3 = .ok (.if_icmp .ne 15, 3) := by decide +kernel
theorem b_139_18_2 : ov_ds ov_m139.2.1 18 [.iload_n 1, .bipush 11] = true := by decide +kernel
theorem d_139_21 : decode ov_m139.2.1 21 = .ok (.if_icmp .ne 17, 3) := by decide +kernel
theorem b_139_38_3 : ov_ds ov_m139.2.1 38 [.iload_n 1, .bipush 16, .isub] = true := by decide +kernel
theorem d_139_42 : decode ov_m139.2.1 42 = .ok (.ireturn, 1) := by decide +kernel
theorem b_139_24_1 : ov_ds ov_m139.2.1 24 [.aload_n 0] = true := by decide +kernel
theorem d_139_25 : decode ov_m139.2.1 25 = .ok (.getfield 50, 3) := by decide +kernel
theorem b_139_28_4 : ov_ds ov_m139.2.1 28 [.iconst 1, .isub, .iload_n 2, .bipush 6] = true := by decide +kernel
theorem d_139_33 : decode ov_m139.2.1 33 = .ok (.idiv, 1) := by decide +kernel
theorem b_139_34_1 : ov_ds ov_m139.2.1 34 [.isub] = true := by decide +kernel
theorem d_139_35 : decode ov_m139.2.1 35 = .ok (.goto 7, 3) := by decide +kernel
theorem b_139_6_1 : ov_ds ov_m139.2.1 6 [.aload_n 0] = true := by decide +kernel
theorem d_139_7 : decode ov_m139.2.1 7 = .ok (.getfield 46, 3) := by decide +kernel
theorem b_139_10_4 : ov_ds ov_m139.2.1 10 [.iconst 1, .isub, .iload_n 2, .bipush 6] = true := by decide +kernel
theorem d_139_15 : decode ov_m139.2.1 15 = .ok (.irem, 1) := by decide +kernel
theorem b_139_16_1 : ov_ds ov_m139.2.1 16 [.isub] = true := by decide +kernel
theorem d_139_17 : decode ov_m139.2.1 17 = .ok (.ireturn, 1) := by decide +kernel
theorem b_140_0_1 : ov_ds ov_m140.2.1 0 [.iload_n 0] = true := by decide +kernel
theorem d_140_1 : decode ov_m140.2.1 1 = .ok (.tableswitch 97 1 6 #[39, 53, 67, 78, 89, 93], 39) := by decide +kernel
theorem b_140_40_1 : ov_ds ov_m140.2.1 40 [.iload_n 1] = true := by decide +kernel
theorem d_140_41 : decode ov_m140.2.1 41 = .ok (.ifCond .eq 11, 3) := by decide +kernel
theorem b_140_52_1 : ov_ds ov_m140.2.1 52 [.iconst 0] = true := by decide +kernel
theorem d_140_53 : decode ov_m140.2.1 53 = .ok (.ireturn, 1) := by decide +kernel
theorem b_140_44_1 : ov_ds ov_m140.2.1 44 [.iload_n 2] = true := by decide +kernel
theorem d_140_45 : decode ov_m140.2.1 45 = .ok (.ifCond .eq 7, 3) := by decide +kernel
theorem b_140_48_1 : ov_ds ov_m140.2.1 48 [.iconst 1] = true := by decide +kernel
theorem d_140_49 : decode ov_m140.2.1 49 = .ok (.goto 4, 3) := by decide +kernel
theorem b_140_54_1 : ov_ds ov_m140.2.1 54 [.iload_n 1] = true := by decide +kernel
theorem d_140_55 : decode ov_m140.2.1 55 = .ok (.ifCond .ne 7, 3) := by decide +kernel
theorem b_140_62_1 : ov_ds ov_m140.2.1 62 [.iconst 1] = true := by decide +kernel
theorem d_140_63 : decode ov_m140.2.1 63 = .ok (.goto 4, 3) := by decide +kernel
theorem d_140_67 : decode ov_m140.2.1 67 = .ok (.ireturn, 1) := by decide +kernel
theorem b_140_58_1 : ov_ds ov_m140.2.1 58 [.iload_n 2] = true := by decide +kernel
theorem d_140_59 : decode ov_m140.2.1 59 = .ok (.ifCond .eq 7, 3) := by decide +kernel
theorem b_140_66_1 : ov_ds ov_m140.2.1 66 [.iconst 0] = true := by decide +kernel
theorem b_140_68_2 : ov_ds ov_m140.2.1 68 [.iload_n 1, .iload_n 2] = true := by decide +kernel
theorem d_140_70 : decode ov_m140.2.1 70 = .ok (.if_icmp .ge 7, 3) := by decide +kernel
theorem b_140_77_1 : ov_ds ov_m140.2.1 77 [.iconst 0] = true := by decide +kernel
theorem d_140_78 : decode ov_m140.2.1 78 = .ok (.ireturn, 1) := by decide +kernel
theorem b_140_73_1 : ov_ds ov_m140.2.1 73 [.iconst 1] = true := by decide +kernel
theorem d_140_74 : decode ov_m140.2.1 74 = .ok (.goto 4, 3) := by decide +kernel
theorem b_140_79_2 : ov_ds ov_m140.2.1 79 [.iload_n 1, .iload_n 2] = true := by decide +kernel
theorem d_140_81 : decode ov_m140.2.1 81 = .ok (.if_icmp .ne 7, 3) := by decide +kernel
theorem b_140_88_1 : ov_ds ov_m140.2.1 88 [.iconst 0] = true := by decide +kernel
theorem d_140_89 : decode ov_m140.2.1 89 = .ok (.ireturn, 1) := by decide +kernel
theorem b_140_84_1 : ov_ds ov_m140.2.1 84 [.iconst 1] = true := by decide +kernel
theorem d_140_85 : decode ov_m140.2.1 85 = .ok (.goto 4, 3) := by decide +kernel
theorem b_140_90_3 : ov_ds ov_m140.2.1 90 [.iload_n 1, .iload_n 2, .iadd] = true := by decide +kernel
theorem d_140_93 : decode ov_m140.2.1 93 = .ok (.ireturn, 1) := by decide +kernel
theorem b_140_94_3 : ov_ds ov_m140.2.1 94 [.iload_n 1, .iload_n 2, .isub] = true := by decide +kernel
theorem d_140_97 : decode ov_m140.2.1 97 = .ok (.ireturn, 1) := by decide +kernel
theorem b_140_98_3 : ov_ds ov_m140.2.1 98 [.iload_n 1, .iload_n 2, .imul] = true := by decide +kernel
theorem d_140_101 : decode ov_m140.2.1 101 = .ok (.ireturn, 1) := by decide +kernel
theorem b_138_0_1 : ov_ds ov_m138.2.1 0 [.iload_n 1] = true := by decide +kernel
theorem d_138_1 : decode ov_m138.2.1 1 = .ok (.ifCond .lt 11, 3) := by decide +kernel
theorem b_138_12_1 : ov_ds ov_m138.2.1 12 [.iconst 0] = true := by decide +kernel
theorem d_138_13 : decode ov_m138.2.1 13 = .ok (.ireturn, 1) := by decide +kernel
theorem b_138_4_2 : ov_ds ov_m138.2.1 4 [.iload_n 1, .aload_n 0] = true := by decide +kernel
theorem d_138_6 : decode ov_m138.2.1 6 = .ok (.getfield 69, 3) := by decide +kernel
theorem d_138_9 : decode ov_m138.2.1 9 = .ok (.if_icmp .lt 5, 3) := by decide +kernel
theorem b_138_14_3 : ov_ds ov_m138.2.1 14 [.iconst 0, .istore 5, .iload_n 1] = true := by decide +kernel
theorem d_138_18 : decode ov_m138.2.1 18 = .ok (.ifCond .ne 7, 3) := by decide +kernel
theorem b_138_25_1 : ov_ds ov_m138.2.1 25 [.aload_n 0] = true := by decide +kernel
theorem d_138_26 : decode ov_m138.2.1 26 = .ok (.getfield 37, 3) := by decide +kernel
theorem b_138_29_3 : ov_ds ov_m138.2.1 29 [.iload_n 1, .iconst 1, .isub] = true := by decide +kernel
theorem d_138_32 : decode ov_m138.2.1 32 = .ok (.iaload, 1) := by decide +kernel
theorem b_138_33_1 : ov_ds ov_m138.2.1 33 [.istore 6] = true := by decide +kernel
theorem b_138_35_2 : ov_ds ov_m138.2.1 35 [.iload 6, .aload_n 0] = true := by decide +kernel
theorem d_138_38 : decode ov_m138.2.1 38 = .ok (.getfield 37, 3) := by decide +kernel
theorem b_138_41_1 : ov_ds ov_m138.2.1 41 [.iload_n 1] = true := by decide +kernel
theorem d_138_42 : decode ov_m138.2.1 42 = .ok (.iaload, 1) := by decide +kernel
theorem d_138_43 : decode ov_m138.2.1 43 = .ok (.if_icmp .ge 154, 3) := by decide +kernel
theorem b_138_197_1 : ov_ds ov_m138.2.1 197 [.aload_n 0] = true := by decide +kernel
theorem d_138_198 : decode ov_m138.2.1 198 = .ok (.getfield 43, 3) := by decide +kernel
theorem b_138_201_1 : ov_ds ov_m138.2.1 201 [.iconst 0] = true := by decide +kernel
theorem d_138_202 : decode ov_m138.2.1 202 = .ok (.iaload, 1) := by decide +kernel
theorem d_138_203 : decode ov_m138.2.1 203 = .ok (.ifCond .eq 7, 3) := by decide +kernel
theorem b_138_210_1 : ov_ds ov_m138.2.1 210 [.iconst 0] = true := by decide +kernel
theorem d_138_211 : decode ov_m138.2.1 211 = .ok (.ireturn, 1) := by decide +kernel
theorem b_138_206_1 : ov_ds ov_m138.2.1 206 [.iconst 1] = true := by decide +kernel
theorem d_138_207 : decode ov_m138.2.1 207 = .ok (.goto 4, 3) := by decide +kernel
theorem b_138_46_1 : ov_ds ov_m138.2.1 46 [.aload_n 0] = true := by decide +kernel
theorem d_138_47 : decode ov_m138.2.1 47 = .ok (.getfield 40, 3) := by decide +kernel
theorem b_138_50_1 : ov_ds ov_m138.2.1 50 [.iload 6] = true := by decide +kernel
theorem d_138_52 : decode ov_m138.2.1 52 = .ok (.iaload, 1) := by decide +kernel
theorem b_138_53_2 : ov_ds ov_m138.2.1 53 [.istore 7, .iload 7] = true := by decide +kernel
theorem d_138_57 : decode ov_m138.2.1 57 = .ok (.ifCond .ne 38, 3) := by decide +kernel
theorem b_138_95_2 : ov_ds ov_m138.2.1 95 [.iload 7, .bipush 8] = true := by decide +kernel
theorem d_138_99 : decode ov_m138.2.1 99 = .ok (.if_icmp .lt 53, 3) := by decide +kernel
theorem b_138_152_2 : ov_ds ov_m138.2.1 152 [.iload 5, .iconst 2] = true := by decide +kernel
theorem d_138_155 : decode ov_m138.2.1 155 = .ok (.if_icmp .lt 36, 3) := by decide +kernel
theorem b_138_191_1 : ov_ds ov_m138.2.1 191 [.iinc 6 1] = true := by decide +kernel
theorem d_138_194 : decode ov_m138.2.1 194 = .ok (.goto (-159), 3) := by decide +kernel
theorem b_138_158_2 : ov_ds ov_m138.2.1 158 [.iinc 5 (-1), .aload_n 0] = true := by decide +kernel
theorem d_138_162 : decode ov_m138.2.1 162 = .ok (.getfield 43, 3) := by decide +kernel
theorem b_138_165_5 : ov_ds ov_m138.2.1 165 [.iload 5, .iconst 1, .isub, .iload 7, .aload_n 0] = true := by decide +kernel
theorem d_138_172 : decode ov_m138.2.1 172 = .ok (.getfield 43, 3) := by decide +kernel
theorem b_138_175_3 : ov_ds ov_m138.2.1 175 [.iload 5, .iconst 1, .isub] = true := by decide +kernel
theorem d_138_179 : decode ov_m138.2.1 179 = .ok (.iaload, 1) := by decide +kernel
theorem b_138_180_1 : ov_ds ov_m138.2.1 180 [.aload_n 0] = true := by decide +kernel
theorem d_138_181 : decode ov_m138.2.1 181 = .ok (.getfield 43, 3) := by decide +kernel
theorem b_138_184_1 : ov_ds ov_m138.2.1 184 [.iload 5] = true := by decide +kernel
theorem d_138_186 : decode ov_m138.2.1 186 = .ok (.iaload, 1) := by decide +kernel
theorem d_138_187 : decode ov_m138.2.1 187 = .ok (.invokestatic 109, 3) := by decide +kernel
theorem d_138_190 : decode ov_m138.2.1 190 = .ok (.iastore, 1) := by decide +kernel
theorem b_138_102_2 : ov_ds ov_m138.2.1 102 [.iload 5, .bipush 64] = true := by decide +kernel
theorem d_138_106 : decode ov_m138.2.1 106 = .ok (.if_icmp .ge 46, 3) := by decide +kernel
theorem b_138_109_1 : ov_ds ov_m138.2.1 109 [.aload_n 0] = true := by decide +kernel
theorem d_138_110 : decode ov_m138.2.1 110 = .ok (.getfield 43, 3) := by decide +kernel
theorem b_138_113_3 : ov_ds ov_m138.2.1 113 [.iload 5, .iload 7, .bipush 8] = true := by decide +kernel
theorem d_138_119 : decode ov_m138.2.1 119 = .ok (.if_icmp .ne 7, 3) := by decide +kernel
theorem b_138_126_2 : ov_ds ov_m138.2.1 126 [.iload 7, .bipush 9] = true := by decide +kernel
theorem d_138_130 : decode ov_m138.2.1 130 = .ok (.if_icmp .ne 8, 3) := by decide +kernel
theorem b_138_138_3 : ov_ds ov_m138.2.1 138 [.aload_n 0, .iload 7, .iload_n 2] = true := by decide +kernel
theorem d_138_142 : decode ov_m138.2.1 142 = .ok (.invokevirtual 106, 3) := by decide +kernel
theorem d_138_145 : decode ov_m138.2.1 145 = .ok (.iastore, 1) := by decide +kernel
theorem b_138_146_1 : ov_ds ov_m138.2.1 146 [.iinc 5 1] = true := by decide +kernel
theorem d_138_149 : decode ov_m138.2.1 149 = .ok (.goto 42, 3) := by decide +kernel
theorem b_138_133_1 : ov_ds ov_m138.2.1 133 [.iload 4] = true := by decide +kernel
theorem d_138_135 : decode ov_m138.2.1 135 = .ok (.goto 10, 3) := by decide +kernel
theorem b_138_122_1 : ov_ds ov_m138.2.1 122 [.iload_n 3] = true := by decide +kernel
theorem d_138_123 : decode ov_m138.2.1 123 = .ok (.goto 22, 3) := by decide +kernel
theorem b_138_60_2 : ov_ds ov_m138.2.1 60 [.iload 5, .iconst 1] = true := by decide +kernel
theorem d_138_63 : decode ov_m138.2.1 63 = .ok (.if_icmp .lt 32, 3) := by decide +kernel
theorem b_138_66_1 : ov_ds ov_m138.2.1 66 [.aload_n 0] = true := by decide +kernel
theorem d_138_67 : decode ov_m138.2.1 67 = .ok (.getfield 43, 3) := by decide +kernel
theorem b_138_70_4 : ov_ds ov_m138.2.1 70 [.iload 5, .iconst 1, .isub, .aload_n 0] = true := by decide +kernel
theorem d_138_75 : decode ov_m138.2.1 75 = .ok (.getfield 43, 3) := by decide +kernel
theorem b_138_78_3 : ov_ds ov_m138.2.1 78 [.iload 5, .iconst 1, .isub] = true := by decide +kernel
theorem d_138_82 : decode ov_m138.2.1 82 = .ok (.iaload, 1) := by decide +kernel
theorem d_138_83 : decode ov_m138.2.1 83 = .ok (.ifCond .ne 7, 3) := by decide +kernel
theorem b_138_90_1 : ov_ds ov_m138.2.1 90 [.iconst 0] = true := by decide +kernel
theorem d_138_91 : decode ov_m138.2.1 91 = .ok (.iastore, 1) := by decide +kernel
theorem d_138_92 : decode ov_m138.2.1 92 = .ok (.goto 99, 3) := by decide +kernel
theorem b_138_86_1 : ov_ds ov_m138.2.1 86 [.iconst 1] = true := by decide +kernel
theorem d_138_87 : decode ov_m138.2.1 87 = .ok (.goto 4, 3) := by decide +kernel
theorem b_138_21_1 : ov_ds ov_m138.2.1 21 [.iconst 0] = true := by decide +kernel
theorem d_138_22 : decode ov_m138.2.1 22 = .ok (.goto 11, 3) := by decide +kernel
theorem b_16_0_1 : ov_ds ov_m16.2.1 0 [.aload_n 0] = true := by decide +kernel
theorem d_16_1 : decode ov_m16.2.1 1 = .ok (.getfield 27, 3) := by decide +kernel
theorem b_16_4_1 : ov_ds ov_m16.2.1 4 [.iload_n 1] = true := by decide +kernel
theorem d_16_5 : decode ov_m16.2.1 5 = .ok (.iaload, 1) := by decide +kernel
theorem b_16_6_1 : ov_ds ov_m16.2.1 6 [.iconst (-1)] = true := by decide +kernel
theorem d_16_7 : decode ov_m16.2.1 7 = .ok (.if_icmp .ne 10, 3) := by decide +kernel
theorem d_16_17 : decode ov_m16.2.1 17 = .ok (.return_, 1) := by decide +kernel
theorem b_16_10_1 : ov_ds ov_m16.2.1 10 [.aload_n 0] = true := by decide +kernel
theorem d_16_11 : decode ov_m16.2.1 11 = .ok (.getfield 27, 3) := by decide +kernel
theorem b_16_14_2 : ov_ds ov_m16.2.1 14 [.iload_n 1, .iload_n 2] = true := by decide +kernel
theorem d_16_16 : decode ov_m16.2.1 16 = .ok (.iastore, 1) := by decide +kernel
theorem b_17_0_3 : ov_ds ov_m17.2.1 0 [.aload_n 0, .iload_n 1, .iload_n 2] = true := by decide +kernel
theorem d_17_3 : decode ov_m17.2.1 3 = .ok (.invokevirtual 83, 3) := by decide +kernel
theorem d_17_6 : decode ov_m17.2.1 6 = .ok (.ifCond .ne 12, 3) := by decide +kernel
theorem b_17_18_1 : ov_ds ov_m17.2.1 18 [.iconst 0] = true := by decide +kernel
theorem d_17_19 : decode ov_m17.2.1 19 = .ok (.ireturn, 1) := by decide +kernel
theorem b_17_9_3 : ov_ds ov_m17.2.1 9 [.aload_n 0, .iload_n 1, .iload_n 2] = true := by decide +kernel
theorem d_17_12 : decode ov_m17.2.1 12 = .ok (.invokevirtual 86, 3) := by decide +kernel
theorem d_17_15 : decode ov_m17.2.1 15 = .ok (.ifCond .eq 5, 3) := by decide +kernel
theorem b_17_20_2 : ov_ds ov_m17.2.1 20 [.aload_n 0, .iload_n 1] = true := by decide +kernel
theorem d_17_22 : decode ov_m17.2.1 22 = .ok (.invokevirtual 89, 3) := by decide +kernel
theorem d_17_25 : decode ov_m17.2.1 25 = .ok (.ifCond .eq 34, 3) := by decide +kernel
theorem b_17_59_1 : ov_ds ov_m17.2.1 59 [.iconst 1] = true := by decide +kernel
theorem d_17_60 : decode ov_m17.2.1 60 = .ok (.goto 4, 3) := by decide +kernel
theorem d_17_64 : decode ov_m17.2.1 64 = .ok (.ireturn, 1) := by decide +kernel
theorem b_17_28_1 : ov_ds ov_m17.2.1 28 [.iload_n 2] = true := by decide +kernel
theorem d_17_29 : decode ov_m17.2.1 29 = .ok (.ifCond .ne 15, 3) := by decide +kernel
theorem b_17_44_1 : ov_ds ov_m17.2.1 44 [.aload_n 0] = true := by decide +kernel
theorem d_17_45 : decode ov_m17.2.1 45 = .ok (.getfield 21, 3) := by decide +kernel
theorem b_17_48_1 : ov_ds ov_m17.2.1 48 [.iload_n 1] = true := by decide +kernel
theorem d_17_49 : decode ov_m17.2.1 49 = .ok (.iaload, 1) := by decide +kernel
theorem b_17_50_1 : ov_ds ov_m17.2.1 50 [.aload_n 0] = true := by decide +kernel
theorem d_17_51 : decode ov_m17.2.1 51 = .ok (.getfield 15, 3) := by decide +kernel
theorem b_17_54_1 : ov_ds ov_m17.2.1 54 [.iload_n 1] = true := by decide +kernel
theorem d_17_55 : decode ov_m17.2.1 55 = .ok (.iaload, 1) := by decide +kernel
theorem d_17_56 : decode ov_m17.2.1 56 = .ok (.if_icmp .ge 7, 3) := by decide +kernel
theorem b_17_63_1 : ov_ds ov_m17.2.1 63 [.iconst 0] = true := by decide +kernel
theorem b_17_32_1 : ov_ds ov_m17.2.1 32 [.aload_n 0] = true := by decide +kernel
theorem d_17_33 : decode ov_m17.2.1 33 = .ok (.getfield 21, 3) := by decide +kernel
theorem b_17_36_1 : ov_ds ov_m17.2.1 36 [.iload_n 1] = true := by decide +kernel
theorem d_17_37 : decode ov_m17.2.1 37 = .ok (.iaload, 1) := by decide +kernel
theorem d_17_38 : decode ov_m17.2.1 38 = .ok (.ifCond .le 25, 3) := by decide +kernel
theorem d_17_41 : decode ov_m17.2.1 41 = .ok (.goto 18, 3) := by decide +kernel
theorem b_15_0_3 : ov_ds ov_m15.2.1 0 [.aload_n 0, .iconst 0, .bipush 10] = true := by decide +kernel
theorem d_15_4 : decode ov_m15.2.1 4 = .ok (.invokevirtual 75, 3) := by decide +kernel
theorem b_15_7_3 : ov_ds ov_m15.2.1 7 [.aload_n 0, .iconst 1, .aload_n 0] = true := by decide +kernel
theorem d_15_10 : decode ov_m15.2.1 10 = .ok (.getfield 27, 3) := by decide +kernel
theorem b_15_13_1 : ov_ds ov_m15.2.1 13 [.iconst 0] = true := by decide +kernel
theorem d_15_14 : decode ov_m15.2.1 14 = .ok (.iaload, 1) := by decide +kernel
theorem d_15_15 : decode ov_m15.2.1 15 = .ok (.invokevirtual 75, 3) := by decide +kernel
theorem b_15_18_3 : ov_ds ov_m15.2.1 18 [.aload_n 0, .iconst 2, .aload_n 0] = true := by decide +kernel
theorem d_15_21 : decode ov_m15.2.1 21 = .ok (.getfield 27, 3) := by decide +kernel
theorem b_15_24_1 : ov_ds ov_m15.2.1 24 [.iconst 0] = true := by decide +kernel
theorem d_15_25 : decode ov_m15.2.1 25 = .ok (.iaload, 1) := by decide +kernel
theorem d_15_26 : decode ov_m15.2.1 26 = .ok (.invokevirtual 75, 3) := by decide +kernel
theorem b_15_29_3 : ov_ds ov_m15.2.1 29 [.aload_n 0, .iconst 3, .iconst 0] = true := by decide +kernel
theorem d_15_32 : decode ov_m15.2.1 32 = .ok (.invokevirtual 75, 3) := by decide +kernel
theorem b_15_35_2 : ov_ds ov_m15.2.1 35 [.iconst 0, .istore_n 1] = true := by decide +kernel
theorem b_15_37_2 : ov_ds ov_m15.2.1 37 [.iload_n 1, .bipush 54] = true := by decide +kernel
theorem d_15_40 : decode ov_m15.2.1 40 = .ok (.if_icmp .ge 44, 3) := by decide +kernel
theorem d_15_84 : decode ov_m15.2.1 84 = .ok (.return_, 1) := by decide +kernel
theorem b_15_43_1 : ov_ds ov_m15.2.1 43 [.aload_n 0] = true := by decide +kernel
theorem d_15_44 : decode ov_m15.2.1 44 = .ok (.getfield 30, 3) := by decide +kernel
theorem b_15_47_4 : ov_ds ov_m15.2.1 47 [.iload_n 1, .aload_n 0, .iload_n 1, .iconst 0] = true := by decide +kernel
theorem d_15_51 : decode ov_m15.2.1 51 = .ok (.invokevirtual 79, 3) := by decide +kernel
theorem d_15_54 : decode ov_m15.2.1 54 = .ok (.ifCond .eq 7, 3) := by decide +kernel
theorem b_15_61_4 : ov_ds ov_m15.2.1 61 [.iconst 0, .aload_n 0, .iload_n 1, .iconst 1] = true := by decide +kernel
theorem d_15_65 : decode ov_m15.2.1 65 = .ok (.invokevirtual 79, 3) := by decide +kernel
theorem d_15_68 : decode ov_m15.2.1 68 = .ok (.ifCond .eq 7, 3) := by decide +kernel
theorem b_15_75_2 : ov_ds ov_m15.2.1 75 [.iconst 0, .iadd] = true := by decide +kernel
theorem d_15_77 : decode ov_m15.2.1 77 = .ok (.iastore, 1) := by decide +kernel
theorem b_15_78_1 : ov_ds ov_m15.2.1 78 [.iinc 1 1] = true := by decide +kernel
theorem d_15_81 : decode ov_m15.2.1 81 = .ok (.goto (-44), 3) := by decide +kernel
theorem b_15_71_1 : ov_ds ov_m15.2.1 71 [.iconst 2] = true := by decide +kernel
theorem d_15_72 : decode ov_m15.2.1 72 = .ok (.goto 4, 3) := by decide +kernel
theorem b_15_76_1 : ov_ds ov_m15.2.1 76 [.iadd] = true := by decide +kernel
theorem b_15_57_1 : ov_ds ov_m15.2.1 57 [.iconst 1] = true := by decide +kernel
theorem d_15_58 : decode ov_m15.2.1 58 = .ok (.goto 4, 3) := by decide +kernel
theorem b_15_62_3 : ov_ds ov_m15.2.1 62 [.aload_n 0, .iload_n 1, .iconst 1] = true := by decide +kernel
theorem b_13_0_2 : ov_ds ov_m13.2.1 0 [.aload_n 0, .iconst 1] = true := by decide +kernel
theorem d_13_2 : decode ov_m13.2.1 2 = .ok (.putfield 46, 3) := by decide +kernel
theorem b_13_5_2 : ov_ds ov_m13.2.1 5 [.aload_n 0, .iconst 1] = true := by decide +kernel
theorem d_13_7 : decode ov_m13.2.1 7 = .ok (.putfield 50, 3) := by decide +kernel
theorem b_13_10_1 : ov_ds ov_m13.2.1 10 [.aload_n 0] = true := by decide +kernel
theorem d_13_11 : decode ov_m13.2.1 11 = .ok (.getfield 9, 3) := by decide +kernel
theorem b_13_14_1 : ov_ds ov_m13.2.1 14 [.iconst (-1)] = true := by decide +kernel
theorem d_13_15 : decode ov_m13.2.1 15 = .ok (.invokestatic 53, 3) := by decide +kernel
theorem b_13_18_1 : ov_ds ov_m13.2.1 18 [.aload_n 0] = true := by decide +kernel
theorem d_13_19 : decode ov_m13.2.1 19 = .ok (.getfield 24, 3) := by decide +kernel
theorem b_13_22_1 : ov_ds ov_m13.2.1 22 [.iconst 0] = true := by decide +kernel
theorem d_13_23 : decode ov_m13.2.1 23 = .ok (.invokestatic 53, 3) := by decide +kernel
theorem b_13_26_1 : ov_ds ov_m13.2.1 26 [.aload_n 0] = true := by decide +kernel
theorem d_13_27 : decode ov_m13.2.1 27 = .ok (.getfield 27, 3) := by decide +kernel
theorem b_13_30_1 : ov_ds ov_m13.2.1 30 [.iconst (-1)] = true := by decide +kernel
theorem d_13_31 : decode ov_m13.2.1 31 = .ok (.invokestatic 53, 3) := by decide +kernel
theorem b_13_34_2 : ov_ds ov_m13.2.1 34 [.aload_n 0, .iconst 0] = true := by decide +kernel
theorem d_13_36 : decode ov_m13.2.1 36 = .ok (.putfield 59, 3) := by decide +kernel
theorem b_13_39_2 : ov_ds ov_m13.2.1 39 [.aload_n 0, .iconst 0] = true := by decide +kernel
theorem d_13_41 : decode ov_m13.2.1 41 = .ok (.putfield 63, 3) := by decide +kernel
theorem b_13_44_2 : ov_ds ov_m13.2.1 44 [.aload_n 0, .iconst 1] = true := by decide +kernel
theorem d_13_46 : decode ov_m13.2.1 46 = .ok (.putfield 66, 3) := by decide +kernel
theorem b_13_49_2 : ov_ds ov_m13.2.1 49 [.aload_n 0, .iconst 0] = true := by decide +kernel
theorem d_13_51 : decode ov_m13.2.1 51 = .ok (.putfield 69, 3) := by decide +kernel
theorem b_13_54_2 : ov_ds ov_m13.2.1 54 [.aload_n 0, .iconst 0] = true := by decide +kernel
theorem d_13_56 : decode ov_m13.2.1 56 = .ok (.putfield 72, 3) := by decide +kernel
theorem d_13_59 : decode ov_m13.2.1 59 = .ok (.return_, 1) := by decide +kernel
theorem b_160_0_4 : ov_ds ov_m160.2.1 0 [.iconst 0, .istore_n 1, .iconst 0, .istore_n 2] = true := by decide +kernel
theorem b_160_4_2 : ov_ds ov_m160.2.1 4 [.iload_n 2, .bipush 54] = true := by decide +kernel
theorem d_160_7 : decode ov_m160.2.1 7 = .ok (.if_icmp .ge 54, 3) := by decide +kernel
theorem b_160_61_2 : ov_ds ov_m160.2.1 61 [.aload_n 0, .iconst 0] = true := by decide +kernel
theorem d_160_63 : decode ov_m160.2.1 63 = .ok (.invokevirtual 99, 3) := by decide +kernel
theorem b_160_66_2 : ov_ds ov_m160.2.1 66 [.iload_n 1, .aload_n 0] = true := by decide +kernel
theorem d_160_68 : decode ov_m160.2.1 68 = .ok (.getfield 27, 3) := by decide +kernel
theorem b_160_71_1 : ov_ds ov_m160.2.1 71 [.iconst 0] = true := by decide +kernel
theorem d_160_72 : decode ov_m160.2.1 72 = .ok (.iaload, 1) := by decide +kernel
theorem b_160_73_1 : ov_ds ov_m160.2.1 73 [.iadd] = true := by decide +kernel
theorem b_160_74_1 : ov_ds ov_m160.2.1 74 [.imul] = true := by decide +kernel
theorem d_160_75 : decode ov_m160.2.1 75 = .ok (.ireturn, 1) := by decide +kernel
theorem b_160_10_2 : ov_ds ov_m160.2.1 10 [.aload_n 0, .iload_n 2] = true := by decide +kernel
theorem d_160_12 : decode ov_m160.2.1 12 = .ok (.invokevirtual 89, 3) := by decide +kernel
theorem d_160_15 : decode ov_m160.2.1 15 = .ok (.ifCond .eq 19, 3) := by decide +kernel
theorem b_160_34_1 : ov_ds ov_m160.2.1 34 [.aload_n 0] = true := by decide +kernel
theorem d_160_35 : decode ov_m160.2.1 35 = .ok (.getfield 9, 3) := by decide +kernel
theorem b_160_38_1 : ov_ds ov_m160.2.1 38 [.iload_n 2] = true := by decide +kernel
theorem d_160_39 : decode ov_m160.2.1 39 = .ok (.iaload, 1) := by decide +kernel
theorem b_160_40_1 : ov_ds ov_m160.2.1 40 [.iconst 2] = true := by decide +kernel
theorem d_160_41 : decode ov_m160.2.1 41 = .ok (.if_icmp .ne 14, 3) := by decide +kernel
theorem b_160_55_1 : ov_ds ov_m160.2.1 55 [.iinc 2 1] = true := by decide +kernel
theorem d_160_58 : decode ov_m160.2.1 58 = .ok (.goto (-54), 3) := by decide +kernel
theorem b_160_44_2 : ov_ds ov_m160.2.1 44 [.iload_n 1, .aload_n 0] = true := by decide +kernel
theorem d_160_46 : decode ov_m160.2.1 46 = .ok (.getfield 18, 3) := by decide +kernel
theorem b_160_49_1 : ov_ds ov_m160.2.1 49 [.iload_n 2] = true := by decide +kernel
theorem d_160_50 : decode ov_m160.2.1 50 = .ok (.iaload, 1) := by decide +kernel
theorem d_160_51 : decode ov_m160.2.1 51 = .ok (.invokestatic 93, 3) := by decide +kernel
theorem b_160_54_2 : ov_ds ov_m160.2.1 54 [.istore_n 1, .iinc 2 1] = true := by decide +kernel
theorem b_160_18_2 : ov_ds ov_m160.2.1 18 [.iload_n 1, .aload_n 0] = true := by decide +kernel
theorem d_160_20 : decode ov_m160.2.1 20 = .ok (.getfield 15, 3) := by decide +kernel
theorem b_160_23_1 : ov_ds ov_m160.2.1 23 [.iload_n 2] = true := by decide +kernel
theorem d_160_24 : decode ov_m160.2.1 24 = .ok (.iaload, 1) := by decide +kernel
theorem b_160_25_2 : ov_ds ov_m160.2.1 25 [.iconst 1, .isub] = true := by decide +kernel
theorem d_160_27 : decode ov_m160.2.1 27 = .ok (.invokestatic 93, 3) := by decide +kernel
theorem b_160_30_1 : ov_ds ov_m160.2.1 30 [.istore_n 1] = true := by decide +kernel
theorem d_160_31 : decode ov_m160.2.1 31 = .ok (.goto 24, 3) := by decide +kernel
abbrev P_Town_corner_58 (F : ov_H) (z : ov_Z) (h : ov_H) (x : Int) (y : Int) : Option ov_V → ov_Z → ov_H → Prop := fun r0 z' h' => ∃ r : Int, r0 = some (ov_i r) ∧ z = z' ∧ h = h' ∧ (r = -1 ∨ (0 ≤ x ∧ x < (h 58 0) ∧ 0 ≤ y ∧ y < (h 58 1) ∧ r = y * 6 + x ∧ (h 58 0) ≤ 6 ∧ (h 58 1) ≤ 9))
set_option maxHeartbeats 4000000 in
theorem c_Town_corner_58 {u : ov_U} {F : ov_H} {z : ov_Z} {h : ov_H} (d : Nat) (hd : 0 ≤ d) (U : ov_cap u) (I : ov_I F z h) (x : Int) (y : Int) (g_x : ov_g x) (g_y : ov_g y) : ov_T u d ov_m94 [ov_r 58, ov_i x, ov_i y] z h (P_Town_corner_58 F z h x y) := by
  refine ov_en rfl (Nat.le_of_ble_eq_true rfl) ?_
  show ov_R u d ov_m94 0 [(0, ov_r 58), (1, ov_i x), (2, ov_i y)] [] z h (P_Town_corner_58 F z h x y)
  refine ov_blk (ls2 := [(0, ov_r 58), (1, ov_i x), (2, ov_i y)]) (st2 := [ov_i x]) (pc2 := 1) b_94_0_1 rfl rfl ?_
  refine ov_iflt (tgt := 33) d_94_1 (by decide) (by omega) (fun c1 => ?_) (fun c1 => ?_)
  · skip
    refine ov_blk (ls2 := [(0, ov_r 58), (1, ov_i x), (2, ov_i y)]) (st2 := [ov_i (-1)]) (pc2 := 34) b_94_33_1 rfl rfl ?_
    exact ov_reti (st := []) d_94_34 rfl ⟨_, rfl, rfl, rfl, (by show (-1) = -1 ∨ (0 ≤ x ∧ x < (h 58 0) ∧ 0 ≤ y ∧ y < (h 58 1) ∧ (-1) = y * 6 + x ∧ (h 58 0) ≤ 6 ∧ (h 58 1) ≤ 9); omega)⟩
  · skip
    refine ov_blk (ls2 := [(0, ov_r 58), (1, ov_i x), (2, ov_i y)]) (st2 := [ov_r 58, ov_i x]) (pc2 := 6) b_94_4_2 rfl rfl ?_
    refine ov_getf (v := ov_i (h 58 0)) d_94_6 fl_Town_46 (zb_58 I) (zs_58 I) rfl ?_
    have g2 := rg_58_0 I
    refine ov_icge (tgt := 33) d_94_9 (by decide) (by omega) (by omega) (fun c3 => ?_) (fun c3 => ?_)
    · skip
      refine ov_blk (ls2 := [(0, ov_r 58), (1, ov_i x), (2, ov_i y)]) (st2 := [ov_i (-1)]) (pc2 := 34) b_94_33_1 rfl rfl ?_
      exact ov_reti (st := []) d_94_34 rfl ⟨_, rfl, rfl, rfl, (by show (-1) = -1 ∨ (0 ≤ x ∧ x < (h 58 0) ∧ 0 ≤ y ∧ y < (h 58 1) ∧ (-1) = y * 6 + x ∧ (h 58 0) ≤ 6 ∧ (h 58 1) ≤ 9); omega)⟩
    · skip
      refine ov_blk (ls2 := [(0, ov_r 58), (1, ov_i x), (2, ov_i y)]) (st2 := [ov_i y]) (pc2 := 13) b_94_12_1 rfl rfl ?_
      refine ov_iflt (tgt := 33) d_94_13 (by decide) (by omega) (fun c4 => ?_) (fun c4 => ?_)
      · skip
        refine ov_blk (ls2 := [(0, ov_r 58), (1, ov_i x), (2, ov_i y)]) (st2 := [ov_i (-1)]) (pc2 := 34) b_94_33_1 rfl rfl ?_
        exact ov_reti (st := []) d_94_34 rfl ⟨_, rfl, rfl, rfl, (by show (-1) = -1 ∨ (0 ≤ x ∧ x < (h 58 0) ∧ 0 ≤ y ∧ y < (h 58 1) ∧ (-1) = y * 6 + x ∧ (h 58 0) ≤ 6 ∧ (h 58 1) ≤ 9); omega)⟩
      · skip
        refine ov_blk (ls2 := [(0, ov_r 58), (1, ov_i x), (2, ov_i y)]) (st2 := [ov_r 58, ov_i y]) (pc2 := 18) b_94_16_2 rfl rfl ?_
        refine ov_getf (v := ov_i (h 58 1)) d_94_18 fl_Town_50 (zb_58 I) (zs_58 I) rfl ?_
        have g5 := rg_58_1 I
        refine ov_icge (tgt := 33) d_94_21 (by decide) (by omega) (by omega) (fun c6 => ?_) (fun c6 => ?_)
        · skip
          refine ov_blk (ls2 := [(0, ov_r 58), (1, ov_i x), (2, ov_i y)]) (st2 := [ov_i (-1)]) (pc2 := 34) b_94_33_1 rfl rfl ?_
          exact ov_reti (st := []) d_94_34 rfl ⟨_, rfl, rfl, rfl, (by show (-1) = -1 ∨ (0 ≤ x ∧ x < (h 58 0) ∧ 0 ≤ y ∧ y < (h 58 1) ∧ (-1) = y * 6 + x ∧ (h 58 0) ≤ 6 ∧ (h 58 1) ≤ 9); omega)⟩
        · skip
          refine ov_blk (ls2 := [(0, ov_r 58), (1, ov_i x), (2, ov_i y)]) (st2 := [ov_i ((y * 6) + x)]) (pc2 := 30) b_94_24_5 rfl rfl ?_
          refine ov_goto (tgt := 34) d_94_30 (by decide) ?_
          exact ov_reti (st := []) d_94_34 rfl ⟨_, rfl, rfl, rfl, (by show ((y * 6) + x) = -1 ∨ (0 ≤ x ∧ x < (h 58 0) ∧ 0 ≤ y ∧ y < (h 58 1) ∧ ((y * 6) + x) = y * 6 + x ∧ (h 58 0) ≤ 6 ∧ (h 58 1) ≤ 9); omega)⟩
abbrev P_Town_home_58 (F : ov_H) (z : ov_Z) (h : ov_H)  : Option ov_V → ov_Z → ov_H → Prop := fun r0 z' h' => ∃ r : Int, r0 = some (ov_i r) ∧ z = z' ∧ h = h' ∧ (r = ((h 58 1) - 1) * 6 + (h 58 0) - 1 ∧ 0 ≤ r ∧ r ≤ 53)
set_option maxHeartbeats 4000000 in
theorem c_Town_home_58 {u : ov_U} {F : ov_H} {z : ov_Z} {h : ov_H} (d : Nat) (hd : 0 ≤ d) (U : ov_cap u) (I : ov_I F z h) (p0 : F (-5) 58 = 1) : ov_T u d ov_m115 [ov_r 58] z h (P_Town_home_58 F z h) := by
  refine ov_en rfl (Nat.le_of_ble_eq_true rfl) ?_
  show ov_R u d ov_m115 0 [(0, ov_r 58)] [] z h (P_Town_home_58 F z h)
  have gfl := fg_58 I p0
  refine ov_blk (ls2 := [(0, ov_r 58)]) (st2 := [ov_r 58]) (pc2 := 1) b_115_0_1 rfl rfl ?_
  refine ov_getf (v := ov_i (h 58 1)) d_115_1 fl_Town_50 (zb_58 I) (zs_58 I) rfl ?_
  have g1 := rg_58_1 I
  refine ov_blk (ls2 := [(0, ov_r 58)]) (st2 := [ov_r 58, ov_i (((h 58 1) - 1) * 6)]) (pc2 := 10) b_115_4_5 rfl rfl ?_
  refine ov_getf (v := ov_i (h 58 0)) d_115_10 fl_Town_46 (zb_58 I) (zs_58 I) rfl ?_
  have g2 := rg_58_0 I
  refine ov_blk (ls2 := [(0, ov_r 58)]) (st2 := [ov_i (((((h 58 1) - 1) * 6) + (h 58 0)) - 1)]) (pc2 := 16) b_115_13_3 rfl rfl ?_
  exact ov_reti (st := []) d_115_16 rfl ⟨_, rfl, rfl, rfl, (by show (((((h 58 1) - 1) * 6) + (h 58 0)) - 1) = ((h 58 1) - 1) * 6 + (h 58 0) - 1 ∧ 0 ≤ (((((h 58 1) - 1) * 6) + (h 58 0)) - 1) ∧ (((((h 58 1) - 1) * 6) + (h 58 0)) - 1) ≤ 53; omega)⟩
abbrev P_Town_after_58 (F : ov_H) (z : ov_Z) (h : ov_H) (c : Int) (way : Int) : Option ov_V → ov_Z → ov_H → Prop := fun r0 z' h' => ∃ r : Int, r0 = some (ov_i r) ∧ z = z' ∧ h = h' ∧ ((way = 0 → r = c + 1) ∧ (¬ way = 0 → r = c + 6))
set_option maxHeartbeats 4000000 in
theorem c_Town_after_58 {u : ov_U} {F : ov_H} {z : ov_Z} {h : ov_H} (d : Nat) (hd : 0 ≤ d) (U : ov_cap u) (I : ov_I F z h) (c : Int) (way : Int) (g_c : ov_g c) (g_way : ov_g way) (p0 : 0 ≤ c ∧ c ≤ 53) : ov_T u d ov_m91 [ov_r 58, ov_i c, ov_i way] z h (P_Town_after_58 F z h c way) := by
  refine ov_en rfl (Nat.le_of_ble_eq_true rfl) ?_
  show ov_R u d ov_m91 0 [(0, ov_r 58), (1, ov_i c), (2, ov_i way)] [] z h (P_Town_after_58 F z h c way)
  refine ov_blk (ls2 := [(0, ov_r 58), (1, ov_i c), (2, ov_i way)]) (st2 := [ov_i way]) (pc2 := 1) b_91_0_1 rfl rfl ?_
  refine ov_ifne (tgt := 10) d_91_1 (by decide) (by omega) (fun c1 => ?_) (fun c1 => ?_)
  · skip
    refine ov_blk (ls2 := [(0, ov_r 58), (1, ov_i c), (2, ov_i way)]) (st2 := [ov_i (c + 6)]) (pc2 := 14) b_91_10_3 rfl rfl ?_
    exact ov_reti (st := []) d_91_14 rfl ⟨_, rfl, rfl, rfl, (by show (way = 0 → (c + 6) = c + 1) ∧ (¬ way = 0 → (c + 6) = c + 6); omega)⟩
  · skip
    refine ov_blk (ls2 := [(0, ov_r 58), (1, ov_i c), (2, ov_i way)]) (st2 := [ov_i (c + 1)]) (pc2 := 7) b_91_4_3 rfl rfl ?_
    refine ov_goto (tgt := 14) d_91_7 (by decide) ?_
    exact ov_reti (st := []) d_91_14 rfl ⟨_, rfl, rfl, rfl, (by show (way = 0 → (c + 1) = c + 1) ∧ (¬ way = 0 → (c + 1) = c + 6); omega)⟩
abbrev P_Town_streetsHome_58 (F : ov_H) (z : ov_Z) (h : ov_H) (c : Int) : Option ov_V → ov_Z → ov_H → Prop := fun r0 z' h' => ∃ r : Int, r0 = some (ov_i r) ∧ z = z' ∧ h = h' ∧ (-13 ≤ r ∧ r ≤ 13 ∧ (c = 0 → 0 ≤ r))
set_option maxHeartbeats 4000000 in
theorem c_Town_streetsHome_58 {u : ov_U} {F : ov_H} {z : ov_Z} {h : ov_H} (d : Nat) (hd : 0 ≤ d) (U : ov_cap u) (I : ov_I F z h) (c : Int) (g_c : ov_g c) (p0 : 0 ≤ c ∧ c ≤ 53) (p1 : F (-5) 58 = 1) : ov_T u d ov_m134 [ov_r 58, ov_i c] z h (P_Town_streetsHome_58 F z h c) := by
  refine ov_en rfl (Nat.le_of_ble_eq_true rfl) ?_
  show ov_R u d ov_m134 0 [(0, ov_r 58), (1, ov_i c)] [] z h (P_Town_streetsHome_58 F z h c)
  have gfl := fg_58 I p1
  refine ov_blk (ls2 := [(0, ov_r 58), (1, ov_i c)]) (st2 := [ov_r 58]) (pc2 := 1) b_134_0_1 rfl rfl ?_
  refine ov_getf (v := ov_i (h 58 0)) d_134_1 fl_Town_46 (zb_58 I) (zs_58 I) rfl ?_
  have g1 := rg_58_0 I
  refine ov_blk (ls2 := [(0, ov_r 58), (1, ov_i c)]) (st2 := [ov_i 6, ov_i c, ov_i ((h 58 0) - 1)]) (pc2 := 9) b_134_4_4 rfl rfl ?_
  refine ov_irem d_134_9 (by omega) (by omega) (by omega) ?_
  have g2 := ov_tm (a := c) (b := 6) (by omega)
  have g3 := ov_tmg (a := c) (b := 6) (by omega) (by omega)
  refine ov_blk (ls2 := [(0, ov_r 58), (1, ov_i c)]) (st2 := [ov_r 58, ov_i (((h 58 0) - 1) - (Int.tmod c 6))]) (pc2 := 12) b_134_10_2 rfl rfl ?_
  refine ov_getf (v := ov_i (h 58 1)) d_134_12 fl_Town_50 (zb_58 I) (zs_58 I) rfl ?_
  have g4 := rg_58_1 I
  refine ov_blk (ls2 := [(0, ov_r 58), (1, ov_i c)]) (st2 := [ov_i 6, ov_i c, ov_i (((((h 58 0) - 1) - (Int.tmod c 6)) + (h 58 1)) - 1)]) (pc2 := 21) b_134_15_5 rfl rfl ?_
  refine ov_idiv d_134_21 (by omega) (by omega) (by omega) ?_
  have g5 := ov_td (a := c) (b := 6) (by omega)
  refine ov_blk (ls2 := [(0, ov_r 58), (1, ov_i c)]) (st2 := [ov_i ((((((h 58 0) - 1) - (Int.tmod c 6)) + (h 58 1)) - 1) - (Int.tdiv c 6))]) (pc2 := 23) b_134_22_1 rfl rfl ?_
  exact ov_reti (st := []) d_134_23 rfl ⟨_, rfl, rfl, rfl, (by show -13 ≤ ((((((h 58 0) - 1) - (Int.tmod c 6)) + (h 58 1)) - 1) - (Int.tdiv c 6)) ∧ ((((((h 58 0) - 1) - (Int.tmod c 6)) + (h 58 1)) - 1) - (Int.tdiv c 6)) ≤ 13 ∧ (c = 0 → 0 ≤ ((((((h 58 0) - 1) - (Int.tmod c 6)) + (h 58 1)) - 1) - (Int.tdiv c 6))); omega)⟩
abbrev P_Town_isBeyond_58 (F : ov_H) (z : ov_Z) (h : ov_H) (c : Int) (way : Int) : Option ov_V → ov_Z → ov_H → Prop := fun r0 z' h' => ∃ r : Int, r0 = some (ov_i r) ∧ z = z' ∧ h = h' ∧ ((r = 0 ∨ r = 1) ∧ (r = 0 → (way = 0 → c % 6 < (h 58 0) - 1 ∧ (h 58 0) ≤ 6) ∧ (¬ way = 0 → c / 6 < (h 58 1) - 1 ∧ (h 58 1) ≤ 9)))
set_option maxHeartbeats 4000000 in
theorem c_Town_isBeyond_58 {u : ov_U} {F : ov_H} {z : ov_Z} {h : ov_H} (d : Nat) (hd : 0 ≤ d) (U : ov_cap u) (I : ov_I F z h) (c : Int) (way : Int) (g_c : ov_g c) (g_way : ov_g way) (p0 : 0 ≤ c ∧ c ≤ 53) : ov_T u d ov_m18 [ov_r 58, ov_i c, ov_i way] z h (P_Town_isBeyond_58 F z h c way) := by
  refine ov_en rfl (Nat.le_of_ble_eq_true rfl) ?_
  show ov_R u d ov_m18 0 [(0, ov_r 58), (1, ov_i c), (2, ov_i way)] [] z h (P_Town_isBeyond_58 F z h c way)
  refine ov_blk (ls2 := [(0, ov_r 58), (1, ov_i c), (2, ov_i way)]) (st2 := [ov_i way]) (pc2 := 1) b_18_0_1 rfl rfl ?_
  refine ov_ifne (tgt := 25) d_18_1 (by decide) (by omega) (fun c1 => ?_) (fun c1 => ?_)
  · skip
    refine ov_blk (ls2 := [(0, ov_r 58), (1, ov_i c), (2, ov_i way)]) (st2 := [ov_i 6, ov_i c]) (pc2 := 28) b_18_25_2 rfl rfl ?_
    refine ov_idiv d_18_28 (by omega) (by omega) (by omega) ?_
    have g2 := ov_td (a := c) (b := 6) (by omega)
    refine ov_blk (ls2 := [(0, ov_r 58), (1, ov_i c), (2, ov_i way)]) (st2 := [ov_r 58, ov_i (Int.tdiv c 6)]) (pc2 := 30) b_18_29_1 rfl rfl ?_
    refine ov_getf (v := ov_i (h 58 1)) d_18_30 fl_Town_50 (zb_58 I) (zs_58 I) rfl ?_
    have g3 := rg_58_1 I
    refine ov_blk (ls2 := [(0, ov_r 58), (1, ov_i c), (2, ov_i way)]) (st2 := [ov_i ((h 58 1) - 1), ov_i (Int.tdiv c 6)]) (pc2 := 35) b_18_33_2 rfl rfl ?_
    refine ov_iclt (tgt := 42) d_18_35 (by decide) (by omega) (by omega) (fun c4 => ?_) (fun c4 => ?_)
    · skip
      refine ov_blk (ls2 := [(0, ov_r 58), (1, ov_i c), (2, ov_i way)]) (st2 := [ov_i 0]) (pc2 := 43) b_18_42_1 rfl rfl ?_
      exact ov_retz (st := []) d_18_43 rfl (by omega) ⟨_, rfl, rfl, rfl, (by show (0 = 0 ∨ 0 = 1) ∧ (0 = 0 → (way = 0 → c % 6 < (h 58 0) - 1 ∧ (h 58 0) ≤ 6) ∧ (¬ way = 0 → c / 6 < (h 58 1) - 1 ∧ (h 58 1) ≤ 9)); omega)⟩
    · skip
      refine ov_blk (ls2 := [(0, ov_r 58), (1, ov_i c), (2, ov_i way)]) (st2 := [ov_i 1]) (pc2 := 39) b_18_38_1 rfl rfl ?_
      refine ov_goto (tgt := 43) d_18_39 (by decide) ?_
      exact ov_retz (st := []) d_18_43 rfl (by omega) ⟨_, rfl, rfl, rfl, (by show (1 = 0 ∨ 1 = 1) ∧ (1 = 0 → (way = 0 → c % 6 < (h 58 0) - 1 ∧ (h 58 0) ≤ 6) ∧ (¬ way = 0 → c / 6 < (h 58 1) - 1 ∧ (h 58 1) ≤ 9)); omega)⟩
  · skip
    refine ov_blk (ls2 := [(0, ov_r 58), (1, ov_i c), (2, ov_i way)]) (st2 := [ov_i 6, ov_i c]) (pc2 := 7) b_18_4_2 rfl rfl ?_
    refine ov_irem d_18_7 (by omega) (by omega) (by omega) ?_
    have g5 := ov_tm (a := c) (b := 6) (by omega)
    have g6 := ov_tmg (a := c) (b := 6) (by omega) (by omega)
    refine ov_blk (ls2 := [(0, ov_r 58), (1, ov_i c), (2, ov_i way)]) (st2 := [ov_r 58, ov_i (Int.tmod c 6)]) (pc2 := 9) b_18_8_1 rfl rfl ?_
    refine ov_getf (v := ov_i (h 58 0)) d_18_9 fl_Town_46 (zb_58 I) (zs_58 I) rfl ?_
    have g7 := rg_58_0 I
    refine ov_blk (ls2 := [(0, ov_r 58), (1, ov_i c), (2, ov_i way)]) (st2 := [ov_i ((h 58 0) - 1), ov_i (Int.tmod c 6)]) (pc2 := 14) b_18_12_2 rfl rfl ?_
    refine ov_iclt (tgt := 21) d_18_14 (by decide) (by omega) (by omega) (fun c8 => ?_) (fun c8 => ?_)
    · skip
      refine ov_blk (ls2 := [(0, ov_r 58), (1, ov_i c), (2, ov_i way)]) (st2 := [ov_i 0]) (pc2 := 22) b_18_21_1 rfl rfl ?_
      refine ov_goto (tgt := 43) d_18_22 (by decide) ?_
      exact ov_retz (st := []) d_18_43 rfl (by omega) ⟨_, rfl, rfl, rfl, (by show (0 = 0 ∨ 0 = 1) ∧ (0 = 0 → (way = 0 → c % 6 < (h 58 0) - 1 ∧ (h 58 0) ≤ 6) ∧ (¬ way = 0 → c / 6 < (h 58 1) - 1 ∧ (h 58 1) ≤ 9)); omega)⟩
    · skip
      refine ov_blk (ls2 := [(0, ov_r 58), (1, ov_i c), (2, ov_i way)]) (st2 := [ov_i 1]) (pc2 := 18) b_18_17_1 rfl rfl ?_
      refine ov_goto (tgt := 43) d_18_18 (by decide) ?_
      exact ov_retz (st := []) d_18_43 rfl (by omega) ⟨_, rfl, rfl, rfl, (by show (1 = 0 ∨ 1 = 1) ∧ (1 = 0 → (way = 0 → c % 6 < (h 58 0) - 1 ∧ (h 58 0) ≤ 6) ∧ (¬ way = 0 → c / 6 < (h 58 1) - 1 ∧ (h 58 1) ≤ 9)); omega)⟩
abbrev P_Town_isBarred_58 (F : ov_H) (z : ov_Z) (h : ov_H) (c : Int) (way : Int) : Option ov_V → ov_Z → ov_H → Prop := fun r0 z' h' => ∃ r : Int, r0 = some (ov_i r) ∧ z = z' ∧ h = h' ∧ ((r = 0 ∨ r = 1))
set_option maxHeartbeats 4000000 in
theorem c_Town_isBarred_58 {u : ov_U} {F : ov_H} {z : ov_Z} {h : ov_H} (d : Nat) (hd : 0 ≤ d) (U : ov_cap u) (I : ov_I F z h) (c : Int) (way : Int) (g_c : ov_g c) (g_way : ov_g way) (p0 : 0 ≤ c ∧ c ≤ 53) : ov_T u d ov_m19 [ov_r 58, ov_i c, ov_i way] z h (P_Town_isBarred_58 F z h c way) := by
  refine ov_en rfl (Nat.le_of_ble_eq_true rfl) ?_
  show ov_R u d ov_m19 0 [(0, ov_r 58), (1, ov_i c), (2, ov_i way)] [] z h (P_Town_isBarred_58 F z h c way)
  refine ov_blk (ls2 := [(0, ov_r 58), (1, ov_i c), (2, ov_i way)]) (st2 := [ov_r 58]) (pc2 := 1) b_19_0_1 rfl rfl ?_
  refine ov_getf (v := ov_r 63) d_19_1 fl_Town_24 (zb_58 I) (zs_58 I) (congrArg ov_r (rg_58_6 I)) ?_
  refine ov_blk (ls2 := [(0, ov_r 58), (1, ov_i c), (2, ov_i way)]) (st2 := [ov_i c, ov_r 63]) (pc2 := 5) b_19_4_1 rfl rfl ?_
  refine ov_iald d_19_5 (zb_63 I) (zs_63 I) (by omega) ?_
  have g1 := ra_63 I c
  refine ov_blk (ls2 := [(0, ov_r 58), (1, ov_i c), (2, ov_i way)]) (st2 := [ov_i (ov_and (ov_shr (h 63 c) way) 1)]) (pc2 := 10) b_19_6_4 rfl rfl ?_
  have g2 := ov_shrg (h 63 c) way
  have g3 := ov_andg (ov_shr (h 63 c) way) 1
  have g4 := ov_and1 (ov_shr (h 63 c) way)
  refine ov_ifeq (tgt := 17) d_19_10 (by decide) (by omega) (fun c5 => ?_) (fun c5 => ?_)
  · skip
    refine ov_blk (ls2 := [(0, ov_r 58), (1, ov_i c), (2, ov_i way)]) (st2 := [ov_i 0]) (pc2 := 18) b_19_17_1 rfl rfl ?_
    exact ov_retz (st := []) d_19_18 rfl (by omega) ⟨_, rfl, rfl, rfl, (by show (0 = 0 ∨ 0 = 1); omega)⟩
  · skip
    refine ov_blk (ls2 := [(0, ov_r 58), (1, ov_i c), (2, ov_i way)]) (st2 := [ov_i 1]) (pc2 := 14) b_19_13_1 rfl rfl ?_
    refine ov_goto (tgt := 18) d_19_14 (by decide) ?_
    exact ov_retz (st := []) d_19_18 rfl (by omega) ⟨_, rfl, rfl, rfl, (by show (1 = 0 ∨ 1 = 1); omega)⟩
abbrev P_Town_isTimed_58 (F : ov_H) (z : ov_Z) (h : ov_H) (c : Int) : Option ov_V → ov_Z → ov_H → Prop := fun r0 z' h' => ∃ r : Int, r0 = some (ov_i r) ∧ z = z' ∧ h = h' ∧ ((r = 0 ∨ r = 1))
set_option maxHeartbeats 4000000 in
theorem c_Town_isTimed_58 {u : ov_U} {F : ov_H} {z : ov_Z} {h : ov_H} (d : Nat) (hd : 0 ≤ d) (U : ov_cap u) (I : ov_I F z h) (c : Int) (g_c : ov_g c) (p0 : 0 ≤ c ∧ c ≤ 53) : ov_T u d ov_m20 [ov_r 58, ov_i c] z h (P_Town_isTimed_58 F z h c) := by
  refine ov_en rfl (Nat.le_of_ble_eq_true rfl) ?_
  show ov_R u d ov_m20 0 [(0, ov_r 58), (1, ov_i c)] [] z h (P_Town_isTimed_58 F z h c)
  refine ov_blk (ls2 := [(0, ov_r 58), (1, ov_i c)]) (st2 := [ov_r 58]) (pc2 := 1) b_20_0_1 rfl rfl ?_
  refine ov_getf (v := ov_r 59) d_20_1 fl_Town_9 (zb_58 I) (zs_58 I) (congrArg ov_r (rg_58_2 I)) ?_
  refine ov_blk (ls2 := [(0, ov_r 58), (1, ov_i c)]) (st2 := [ov_i c, ov_r 59]) (pc2 := 5) b_20_4_1 rfl rfl ?_
  refine ov_iald d_20_5 (zb_59 I) (zs_59 I) (by omega) ?_
  have g1 := ra_59 I c
  refine ov_ifeq (tgt := 19) d_20_6 (by decide) (by omega) (fun c2 => ?_) (fun c2 => ?_)
  · skip
    refine ov_blk (ls2 := [(0, ov_r 58), (1, ov_i c)]) (st2 := [ov_i 1]) (pc2 := 20) b_20_19_1 rfl rfl ?_
    refine ov_goto (tgt := 24) d_20_20 (by decide) ?_
    exact ov_retz (st := []) d_20_24 rfl (by omega) ⟨_, rfl, rfl, rfl, (by show (1 = 0 ∨ 1 = 1); omega)⟩
  · skip
    refine ov_blk (ls2 := [(0, ov_r 58), (1, ov_i c)]) (st2 := [ov_r 58]) (pc2 := 10) b_20_9_1 rfl rfl ?_
    refine ov_getf (v := ov_r 59) d_20_10 fl_Town_9 (zb_58 I) (zs_58 I) (congrArg ov_r (rg_58_2 I)) ?_
    refine ov_blk (ls2 := [(0, ov_r 58), (1, ov_i c)]) (st2 := [ov_i c, ov_r 59]) (pc2 := 14) b_20_13_1 rfl rfl ?_
    refine ov_iald d_20_14 (zb_59 I) (zs_59 I) (by omega) ?_
    refine ov_blk (ls2 := [(0, ov_r 58), (1, ov_i c)]) (st2 := [ov_i 1, ov_i (h 59 c)]) (pc2 := 16) b_20_15_1 rfl rfl ?_
    refine ov_icne (tgt := 23) d_20_16 (by decide) (by omega) (by omega) (fun c4 => ?_) (fun c4 => ?_)
    · skip
      refine ov_blk (ls2 := [(0, ov_r 58), (1, ov_i c)]) (st2 := [ov_i 0]) (pc2 := 24) b_20_23_1 rfl rfl ?_
      exact ov_retz (st := []) d_20_24 rfl (by omega) ⟨_, rfl, rfl, rfl, (by show (0 = 0 ∨ 0 = 1); omega)⟩
    · skip
      refine ov_blk (ls2 := [(0, ov_r 58), (1, ov_i c)]) (st2 := [ov_i 1]) (pc2 := 20) b_20_19_1 rfl rfl ?_
      refine ov_goto (tgt := 24) d_20_20 (by decide) ?_
      exact ov_retz (st := []) d_20_24 rfl (by omega) ⟨_, rfl, rfl, rfl, (by show (1 = 0 ∨ 1 = 1); omega)⟩
abbrev P_Town_isOpen_58 (F : ov_H) (z : ov_Z) (h : ov_H) (c : Int) (way : Int) : Option ov_V → ov_Z → ov_H → Prop := fun r0 z' h' => ∃ r : Int, r0 = some (ov_i r) ∧ z = z' ∧ h = h' ∧ ((r = 0 ∨ r = 1) ∧ (r = 1 → (way = 0 ∧ c ≤ 52) ∨ (way = 1 ∧ c ≤ 47)))
set_option maxHeartbeats 4000000 in
theorem c_Town_isOpen_58 {u : ov_U} {F : ov_H} {z : ov_Z} {h : ov_H} (d : Nat) (hd : 0 ≤ d) (U : ov_cap u) (I : ov_I F z h) (c : Int) (way : Int) (g_c : ov_g c) (g_way : ov_g way) (p0 : 0 ≤ c ∧ c ≤ 53) : ov_T u d ov_m98 [ov_r 58, ov_i c, ov_i way] z h (P_Town_isOpen_58 F z h c way) := by
  refine ov_en rfl (Nat.le_of_ble_eq_true rfl) ?_
  show ov_R u d ov_m98 0 [(0, ov_r 58), (1, ov_i c), (2, ov_i way)] [] z h (P_Town_isOpen_58 F z h c way)
  refine ov_blk (ls2 := [(0, ov_r 58), (1, ov_i c), (2, ov_i way)]) (st2 := [ov_i way]) (pc2 := 1) b_98_0_1 rfl rfl ?_
  refine ov_ifeq (tgt := 9) d_98_1 (by decide) (by omega) (fun c1 => ?_) (fun c1 => ?_)
  · skip
    refine ov_blk (ls2 := [(0, ov_r 58), (1, ov_i c), (2, ov_i way)]) (st2 := [ov_r 58]) (pc2 := 10) b_98_9_1 rfl rfl ?_
    refine ov_getf (v := ov_r 65) d_98_10 fl_Town_30 (zb_58 I) (zs_58 I) (congrArg ov_r (rg_58_12 I)) ?_
    refine ov_blk (ls2 := [(0, ov_r 58), (1, ov_i c), (2, ov_i way)]) (st2 := [ov_i c, ov_r 65]) (pc2 := 14) b_98_13_1 rfl rfl ?_
    refine ov_iald d_98_14 (zb_65 I) (zs_65 I) (by omega) ?_
    have g2 := ra_65 I c
    refine ov_blk (ls2 := [(0, ov_r 58), (1, ov_i c), (2, ov_i way)]) (st2 := [ov_i 1, ov_i (ov_shr (h 65 c) way)]) (pc2 := 18) b_98_15_3 rfl rfl ?_
    have g3 := ov_shrg (h 65 c) way
    have fo := ov_op (x := (h 65 c)) (way := way) (by omega) (by omega)
    refine ov_blk (ls2 := [(0, ov_r 58), (1, ov_i c), (2, ov_i way)]) (st2 := [ov_i (ov_and (ov_shr (h 65 c) way) 1)]) (pc2 := 19) b_98_18_1 rfl rfl ?_
    have g4 := ov_andg (ov_shr (h 65 c) way) 1
    have g5 := ov_and1 (ov_shr (h 65 c) way)
    refine ov_ifeq (tgt := 26) d_98_19 (by decide) (by omega) (fun c6 => ?_) (fun c6 => ?_)
    · skip
      refine ov_blk (ls2 := [(0, ov_r 58), (1, ov_i c), (2, ov_i way)]) (st2 := [ov_i 0]) (pc2 := 27) b_98_26_1 rfl rfl ?_
      exact ov_retz (st := []) d_98_27 rfl (by omega) ⟨_, rfl, rfl, rfl, (by show (0 = 0 ∨ 0 = 1) ∧ (0 = 1 → (way = 0 ∧ c ≤ 52) ∨ (way = 1 ∧ c ≤ 47)); omega)⟩
    · skip
      refine ov_blk (ls2 := [(0, ov_r 58), (1, ov_i c), (2, ov_i way)]) (st2 := [ov_i 1]) (pc2 := 23) b_98_22_1 rfl rfl ?_
      refine ov_goto (tgt := 27) d_98_23 (by decide) ?_
      exact ov_retz (st := []) d_98_27 rfl (by omega) ⟨_, rfl, rfl, rfl, (by show (1 = 0 ∨ 1 = 1) ∧ (1 = 1 → (way = 0 ∧ c ≤ 52) ∨ (way = 1 ∧ c ≤ 47)); omega)⟩
  · skip
    refine ov_blk (ls2 := [(0, ov_r 58), (1, ov_i c), (2, ov_i way)]) (st2 := [ov_i 1, ov_i way]) (pc2 := 6) b_98_4_2 rfl rfl ?_
    refine ov_icne (tgt := 26) d_98_6 (by decide) (by omega) (by omega) (fun c7 => ?_) (fun c7 => ?_)
    · skip
      refine ov_blk (ls2 := [(0, ov_r 58), (1, ov_i c), (2, ov_i way)]) (st2 := [ov_i 0]) (pc2 := 27) b_98_26_1 rfl rfl ?_
      exact ov_retz (st := []) d_98_27 rfl (by omega) ⟨_, rfl, rfl, rfl, (by show (0 = 0 ∨ 0 = 1) ∧ (0 = 1 → (way = 0 ∧ c ≤ 52) ∨ (way = 1 ∧ c ≤ 47)); omega)⟩
    · skip
      refine ov_blk (ls2 := [(0, ov_r 58), (1, ov_i c), (2, ov_i way)]) (st2 := [ov_r 58]) (pc2 := 10) b_98_9_1 rfl rfl ?_
      refine ov_getf (v := ov_r 65) d_98_10 fl_Town_30 (zb_58 I) (zs_58 I) (congrArg ov_r (rg_58_12 I)) ?_
      refine ov_blk (ls2 := [(0, ov_r 58), (1, ov_i c), (2, ov_i way)]) (st2 := [ov_i c, ov_r 65]) (pc2 := 14) b_98_13_1 rfl rfl ?_
      refine ov_iald d_98_14 (zb_65 I) (zs_65 I) (by omega) ?_
      have g8 := ra_65 I c
      refine ov_blk (ls2 := [(0, ov_r 58), (1, ov_i c), (2, ov_i way)]) (st2 := [ov_i 1, ov_i (ov_shr (h 65 c) way)]) (pc2 := 18) b_98_15_3 rfl rfl ?_
      have g9 := ov_shrg (h 65 c) way
      have fo := ov_op (x := (h 65 c)) (way := way) (by omega) (by omega)
      refine ov_blk (ls2 := [(0, ov_r 58), (1, ov_i c), (2, ov_i way)]) (st2 := [ov_i (ov_and (ov_shr (h 65 c) way) 1)]) (pc2 := 19) b_98_18_1 rfl rfl ?_
      have g10 := ov_andg (ov_shr (h 65 c) way) 1
      have g11 := ov_and1 (ov_shr (h 65 c) way)
      refine ov_ifeq (tgt := 26) d_98_19 (by decide) (by omega) (fun c12 => ?_) (fun c12 => ?_)
      · skip
        refine ov_blk (ls2 := [(0, ov_r 58), (1, ov_i c), (2, ov_i way)]) (st2 := [ov_i 0]) (pc2 := 27) b_98_26_1 rfl rfl ?_
        exact ov_retz (st := []) d_98_27 rfl (by omega) ⟨_, rfl, rfl, rfl, (by show (0 = 0 ∨ 0 = 1) ∧ (0 = 1 → (way = 0 ∧ c ≤ 52) ∨ (way = 1 ∧ c ≤ 47)); omega)⟩
      · skip
        refine ov_blk (ls2 := [(0, ov_r 58), (1, ov_i c), (2, ov_i way)]) (st2 := [ov_i 1]) (pc2 := 23) b_98_22_1 rfl rfl ?_
        refine ov_goto (tgt := 27) d_98_23 (by decide) ?_
        exact ov_retz (st := []) d_98_27 rfl (by omega) ⟨_, rfl, rfl, rfl, (by show (1 = 0 ∨ 1 = 1) ∧ (1 = 1 → (way = 0 ∧ c ≤ 52) ∨ (way = 1 ∧ c ≤ 47)); omega)⟩
abbrev P_Town_waitFor_58 (F : ov_H) (z : ov_Z) (h : ov_H) (c : Int) (way : Int) (s : Int) : Option ov_V → ov_Z → ov_H → Prop := fun r0 z' h' => ∃ r : Int, r0 = some (ov_i r) ∧ z = z' ∧ h = h' ∧ (0 ≤ r ∧ r ≤ 60)
set_option maxHeartbeats 4000000 in
theorem c_Town_waitFor_58 {u : ov_U} {F : ov_H} {z : ov_Z} {h : ov_H} (d : Nat) (hd : 1 ≤ d) (U : ov_cap u) (I : ov_I F z h) (c : Int) (way : Int) (s : Int) (g_c : ov_g c) (g_way : ov_g way) (g_s : ov_g s) (p0 : 0 ≤ c ∧ c ≤ 53) : ov_T u d ov_m99 [ov_r 58, ov_i c, ov_i way, ov_i s] z h (P_Town_waitFor_58 F z h c way s) := by
  refine ov_en rfl (Nat.le_of_ble_eq_true rfl) ?_
  show ov_R u d ov_m99 0 [(0, ov_r 58), (1, ov_i c), (2, ov_i way), (3, ov_i s)] [] z h (P_Town_waitFor_58 F z h c way s)
  refine ov_blk (ls2 := [(0, ov_r 58), (1, ov_i c), (2, ov_i way), (3, ov_i s)]) (st2 := [ov_r 58]) (pc2 := 1) b_99_0_1 rfl rfl ?_
  refine ov_getf (v := ov_r 59) d_99_1 fl_Town_9 (zb_58 I) (zs_58 I) (congrArg ov_r (rg_58_2 I)) ?_
  refine ov_blk (ls2 := [(0, ov_r 58), (1, ov_i c), (2, ov_i way), (3, ov_i s)]) (st2 := [ov_i c, ov_r 59]) (pc2 := 5) b_99_4_1 rfl rfl ?_
  refine ov_iald d_99_5 (zb_59 I) (zs_59 I) (by omega) ?_
  have g1 := ra_59 I c
  refine ov_blk (ls2 := [(0, ov_r 58), (1, ov_i c), (2, ov_i way), (3, ov_i s)]) (st2 := [ov_i 2, ov_i (h 59 c)]) (pc2 := 7) b_99_6_1 rfl rfl ?_
  refine ov_icne (tgt := 25) d_99_7 (by decide) (by omega) (by omega) (fun c2 => ?_) (fun c2 => ?_)
  · skip
    refine ov_blk (ls2 := [(0, ov_r 58), (1, ov_i c), (2, ov_i way), (3, ov_i s)]) (st2 := [ov_i c, ov_r 58]) (pc2 := 27) b_99_25_2 rfl rfl ?_
    refine ov_cV (as := [ov_i c]) (st := []) (d2 := d - 1) d_99_27 lk_Town_89 rfl (Nat.le_of_ble_eq_true rfl) (c := 9) (zb_58 I) (zs_58 I) ⟨by decide, rfl⟩ (by omega) (c_Town_isTimed_58 (d - 1) (by omega) U I c (by omega) (by omega)) ?_
    rintro _ _ _ ⟨v4, rfl, rfl, rfl, f3⟩
    show ov_R u d ov_m99 30 [(0, ov_r 58), (1, ov_i c), (2, ov_i way), (3, ov_i s)] [ov_i v4] z h (P_Town_waitFor_58 F z h c way s)
    have f5 : (v4 = 0 ∨ v4 = 1) := f3
    clear f3
    refine ov_ifne (tgt := 35) d_99_30 (by decide) (by omega) (fun c6 => ?_) (fun c6 => ?_)
    · skip
      refine ov_blk (ls2 := [(0, ov_r 58), (1, ov_i c), (2, ov_i way), (3, ov_i s)]) (st2 := [ov_r 58]) (pc2 := 36) b_99_35_1 rfl rfl ?_
      refine ov_getf (v := ov_r 60) d_99_36 fl_Town_15 (zb_58 I) (zs_58 I) (congrArg ov_r (rg_58_3 I)) ?_
      refine ov_blk (ls2 := [(0, ov_r 58), (1, ov_i c), (2, ov_i way), (3, ov_i s)]) (st2 := [ov_i c, ov_r 60]) (pc2 := 40) b_99_39_1 rfl rfl ?_
      refine ov_iald d_99_40 (zb_60 I) (zs_60 I) (by omega) ?_
      have g7 := ra_60 I c
      refine ov_ifle (tgt := 64) d_99_41 (by decide) (by omega) (fun c8 => ?_) (fun c8 => ?_)
      · skip
        refine ov_blk (ls2 := [(0, ov_r 58), (1, ov_i c), (2, ov_i way), (3, ov_i s), (4, ov_i 0)]) (st2 := [ov_r 58, ov_i 0]) (pc2 := 70) b_99_64_4 rfl rfl ?_
        refine ov_getf (v := ov_r 62) d_99_70 fl_Town_21 (zb_58 I) (zs_58 I) (congrArg ov_r (rg_58_5 I)) ?_
        refine ov_blk (ls2 := [(0, ov_r 58), (1, ov_i c), (2, ov_i way), (3, ov_i s), (4, ov_i 0)]) (st2 := [ov_i c, ov_r 62, ov_i 0]) (pc2 := 74) b_99_73_1 rfl rfl ?_
        refine ov_iald d_99_74 (zb_62 I) (zs_62 I) (by omega) ?_
        have g9 := ra_62 I c
        refine ov_icge (tgt := 96) d_99_75 (by decide) (by omega) (by omega) (fun c10 => ?_) (fun c10 => ?_)
        · skip
          refine ov_blk (ls2 := [(0, ov_r 58), (1, ov_i c), (2, ov_i way), (3, ov_i s), (4, ov_i 0)]) (st2 := [ov_i way]) (pc2 := 97) b_99_96_1 rfl rfl ?_
          refine ov_ifne (tgt := 112) d_99_97 (by decide) (by omega) (fun c11 => ?_) (fun c11 => ?_)
          · skip
            refine ov_blk (ls2 := [(0, ov_r 58), (1, ov_i c), (2, ov_i way), (3, ov_i s), (4, ov_i 0)]) (st2 := [ov_i 0]) (pc2 := 113) b_99_112_1 rfl rfl ?_
            exact ov_reti (st := []) d_99_113 rfl ⟨_, rfl, rfl, rfl, (by show 0 ≤ 0 ∧ 0 ≤ 60; omega)⟩
          · skip
            refine ov_blk (ls2 := [(0, ov_r 58), (1, ov_i c), (2, ov_i way), (3, ov_i s), (4, ov_i 0)]) (st2 := [ov_r 58]) (pc2 := 101) b_99_100_1 rfl rfl ?_
            refine ov_getf (v := ov_r 60) d_99_101 fl_Town_15 (zb_58 I) (zs_58 I) (congrArg ov_r (rg_58_3 I)) ?_
            refine ov_blk (ls2 := [(0, ov_r 58), (1, ov_i c), (2, ov_i way), (3, ov_i s), (4, ov_i 0)]) (st2 := [ov_i c, ov_r 60]) (pc2 := 105) b_99_104_1 rfl rfl ?_
            refine ov_iald d_99_105 (zb_60 I) (zs_60 I) (by omega) ?_
            refine ov_blk (ls2 := [(0, ov_r 58), (1, ov_i c), (2, ov_i way), (3, ov_i s), (4, ov_i 0)]) (st2 := [ov_i ((h 60 c) - 0)]) (pc2 := 109) b_99_106_2 rfl rfl ?_
            refine ov_goto (tgt := 113) d_99_109 (by decide) ?_
            exact ov_reti (st := []) d_99_113 rfl ⟨_, rfl, rfl, rfl, (by show 0 ≤ ((h 60 c) - 0) ∧ ((h 60 c) - 0) ≤ 60; omega)⟩
        · skip
          refine ov_blk (ls2 := [(0, ov_r 58), (1, ov_i c), (2, ov_i way), (3, ov_i s), (4, ov_i 0)]) (st2 := [ov_i way]) (pc2 := 79) b_99_78_1 rfl rfl ?_
          refine ov_ifne (tgt := 86) d_99_79 (by decide) (by omega) (fun c13 => ?_) (fun c13 => ?_)
          · skip
            refine ov_blk (ls2 := [(0, ov_r 58), (1, ov_i c), (2, ov_i way), (3, ov_i s), (4, ov_i 0)]) (st2 := [ov_r 58]) (pc2 := 87) b_99_86_1 rfl rfl ?_
            refine ov_getf (v := ov_r 62) d_99_87 fl_Town_21 (zb_58 I) (zs_58 I) (congrArg ov_r (rg_58_5 I)) ?_
            refine ov_blk (ls2 := [(0, ov_r 58), (1, ov_i c), (2, ov_i way), (3, ov_i s), (4, ov_i 0)]) (st2 := [ov_i c, ov_r 62]) (pc2 := 91) b_99_90_1 rfl rfl ?_
            refine ov_iald d_99_91 (zb_62 I) (zs_62 I) (by omega) ?_
            refine ov_blk (ls2 := [(0, ov_r 58), (1, ov_i c), (2, ov_i way), (3, ov_i s), (4, ov_i 0)]) (st2 := [ov_i ((h 62 c) - 0)]) (pc2 := 95) b_99_92_2 rfl rfl ?_
            exact ov_reti (st := []) d_99_95 rfl ⟨_, rfl, rfl, rfl, (by show 0 ≤ ((h 62 c) - 0) ∧ ((h 62 c) - 0) ≤ 60; omega)⟩
          · skip
            refine ov_blk (ls2 := [(0, ov_r 58), (1, ov_i c), (2, ov_i way), (3, ov_i s), (4, ov_i 0)]) (st2 := [ov_i 0]) (pc2 := 83) b_99_82_1 rfl rfl ?_
            refine ov_goto (tgt := 95) d_99_83 (by decide) ?_
            exact ov_reti (st := []) d_99_95 rfl ⟨_, rfl, rfl, rfl, (by show 0 ≤ 0 ∧ 0 ≤ 60; omega)⟩
      · skip
        refine ov_blk (ls2 := [(0, ov_r 58), (1, ov_i c), (2, ov_i way), (3, ov_i s)]) (st2 := [ov_r 58, ov_i s]) (pc2 := 46) b_99_44_2 rfl rfl ?_
        refine ov_getf (v := ov_r 61) d_99_46 fl_Town_18 (zb_58 I) (zs_58 I) (congrArg ov_r (rg_58_4 I)) ?_
        refine ov_blk (ls2 := [(0, ov_r 58), (1, ov_i c), (2, ov_i way), (3, ov_i s)]) (st2 := [ov_i c, ov_r 61, ov_i s]) (pc2 := 50) b_99_49_1 rfl rfl ?_
        refine ov_iald d_99_50 (zb_61 I) (zs_61 I) (by omega) ?_
        have g15 := ra_61 I c
        refine ov_blk (ls2 := [(0, ov_r 58), (1, ov_i c), (2, ov_i way), (3, ov_i s)]) (st2 := [ov_i (s - (h 61 c))]) (pc2 := 52) b_99_51_1 rfl rfl ?_
        refine ov_havw (fun w16 gw16 qw16 => ?_)
        refine ov_blk (ls2 := [(0, ov_r 58), (1, ov_i c), (2, ov_i way), (3, ov_i s)]) (st2 := [ov_r 58, ov_i w16]) (pc2 := 53) b_99_52_1 rfl rfl ?_
        refine ov_getf (v := ov_r 60) d_99_53 fl_Town_15 (zb_58 I) (zs_58 I) (congrArg ov_r (rg_58_3 I)) ?_
        refine ov_blk (ls2 := [(0, ov_r 58), (1, ov_i c), (2, ov_i way), (3, ov_i s)]) (st2 := [ov_i c, ov_r 60, ov_i w16]) (pc2 := 57) b_99_56_1 rfl rfl ?_
        refine ov_iald d_99_57 (zb_60 I) (zs_60 I) (by omega) ?_
        refine ov_cS (as := [ov_i w16, ov_i (h 60 c)]) (st := []) (d2 := d - 1) d_99_58 lk_Town_103 rfl (Nat.le_of_ble_eq_true rfl) (by omega) (c_Math_floorMod_III (d - 1) (by omega) U I w16 (h 60 c) (by omega) (by omega) (by omega)) ?_
        rintro _ _ _ ⟨v19, rfl, rfl, rfl, f18⟩
        show ov_R u d ov_m99 61 [(0, ov_r 58), (1, ov_i c), (2, ov_i way), (3, ov_i s)] [ov_i v19] z h (P_Town_waitFor_58 F z h c way s)
        have f20 : 0 ≤ v19 ∧ v19 < (h 60 c) := f18
        clear f18
        refine ov_goto (tgt := 65) d_99_61 (by decide) ?_
        refine ov_blk (ls2 := [(0, ov_r 58), (1, ov_i c), (2, ov_i way), (3, ov_i s), (4, ov_i v19)]) (st2 := [ov_r 58, ov_i v19]) (pc2 := 70) b_99_65_3 rfl rfl ?_
        refine ov_getf (v := ov_r 62) d_99_70 fl_Town_21 (zb_58 I) (zs_58 I) (congrArg ov_r (rg_58_5 I)) ?_
        refine ov_blk (ls2 := [(0, ov_r 58), (1, ov_i c), (2, ov_i way), (3, ov_i s), (4, ov_i v19)]) (st2 := [ov_i c, ov_r 62, ov_i v19]) (pc2 := 74) b_99_73_1 rfl rfl ?_
        refine ov_iald d_99_74 (zb_62 I) (zs_62 I) (by omega) ?_
        have g21 := ra_62 I c
        refine ov_icge (tgt := 96) d_99_75 (by decide) (by omega) (by omega) (fun c22 => ?_) (fun c22 => ?_)
        · skip
          refine ov_blk (ls2 := [(0, ov_r 58), (1, ov_i c), (2, ov_i way), (3, ov_i s), (4, ov_i v19)]) (st2 := [ov_i way]) (pc2 := 97) b_99_96_1 rfl rfl ?_
          refine ov_ifne (tgt := 112) d_99_97 (by decide) (by omega) (fun c23 => ?_) (fun c23 => ?_)
          · skip
            refine ov_blk (ls2 := [(0, ov_r 58), (1, ov_i c), (2, ov_i way), (3, ov_i s), (4, ov_i v19)]) (st2 := [ov_i 0]) (pc2 := 113) b_99_112_1 rfl rfl ?_
            exact ov_reti (st := []) d_99_113 rfl ⟨_, rfl, rfl, rfl, (by show 0 ≤ 0 ∧ 0 ≤ 60; omega)⟩
          · skip
            refine ov_blk (ls2 := [(0, ov_r 58), (1, ov_i c), (2, ov_i way), (3, ov_i s), (4, ov_i v19)]) (st2 := [ov_r 58]) (pc2 := 101) b_99_100_1 rfl rfl ?_
            refine ov_getf (v := ov_r 60) d_99_101 fl_Town_15 (zb_58 I) (zs_58 I) (congrArg ov_r (rg_58_3 I)) ?_
            refine ov_blk (ls2 := [(0, ov_r 58), (1, ov_i c), (2, ov_i way), (3, ov_i s), (4, ov_i v19)]) (st2 := [ov_i c, ov_r 60]) (pc2 := 105) b_99_104_1 rfl rfl ?_
            refine ov_iald d_99_105 (zb_60 I) (zs_60 I) (by omega) ?_
            refine ov_blk (ls2 := [(0, ov_r 58), (1, ov_i c), (2, ov_i way), (3, ov_i s), (4, ov_i v19)]) (st2 := [ov_i ((h 60 c) - v19)]) (pc2 := 109) b_99_106_2 rfl rfl ?_
            refine ov_goto (tgt := 113) d_99_109 (by decide) ?_
            exact ov_reti (st := []) d_99_113 rfl ⟨_, rfl, rfl, rfl, (by show 0 ≤ ((h 60 c) - v19) ∧ ((h 60 c) - v19) ≤ 60; omega)⟩
        · skip
          refine ov_blk (ls2 := [(0, ov_r 58), (1, ov_i c), (2, ov_i way), (3, ov_i s), (4, ov_i v19)]) (st2 := [ov_i way]) (pc2 := 79) b_99_78_1 rfl rfl ?_
          refine ov_ifne (tgt := 86) d_99_79 (by decide) (by omega) (fun c25 => ?_) (fun c25 => ?_)
          · skip
            refine ov_blk (ls2 := [(0, ov_r 58), (1, ov_i c), (2, ov_i way), (3, ov_i s), (4, ov_i v19)]) (st2 := [ov_r 58]) (pc2 := 87) b_99_86_1 rfl rfl ?_
            refine ov_getf (v := ov_r 62) d_99_87 fl_Town_21 (zb_58 I) (zs_58 I) (congrArg ov_r (rg_58_5 I)) ?_
            refine ov_blk (ls2 := [(0, ov_r 58), (1, ov_i c), (2, ov_i way), (3, ov_i s), (4, ov_i v19)]) (st2 := [ov_i c, ov_r 62]) (pc2 := 91) b_99_90_1 rfl rfl ?_
            refine ov_iald d_99_91 (zb_62 I) (zs_62 I) (by omega) ?_
            refine ov_blk (ls2 := [(0, ov_r 58), (1, ov_i c), (2, ov_i way), (3, ov_i s), (4, ov_i v19)]) (st2 := [ov_i ((h 62 c) - v19)]) (pc2 := 95) b_99_92_2 rfl rfl ?_
            exact ov_reti (st := []) d_99_95 rfl ⟨_, rfl, rfl, rfl, (by show 0 ≤ ((h 62 c) - v19) ∧ ((h 62 c) - v19) ≤ 60; omega)⟩
          · skip
            refine ov_blk (ls2 := [(0, ov_r 58), (1, ov_i c), (2, ov_i way), (3, ov_i s), (4, ov_i v19)]) (st2 := [ov_i 0]) (pc2 := 83) b_99_82_1 rfl rfl ?_
            refine ov_goto (tgt := 95) d_99_83 (by decide) ?_
            exact ov_reti (st := []) d_99_95 rfl ⟨_, rfl, rfl, rfl, (by show 0 ≤ 0 ∧ 0 ≤ 60; omega)⟩
    · skip
      refine ov_blk (ls2 := [(0, ov_r 58), (1, ov_i c), (2, ov_i way), (3, ov_i s)]) (st2 := [ov_i 0]) (pc2 := 34) b_99_33_1 rfl rfl ?_
      exact ov_reti (st := []) d_99_34 rfl ⟨_, rfl, rfl, rfl, (by show 0 ≤ 0 ∧ 0 ≤ 60; omega)⟩
  · skip
    refine ov_blk (ls2 := [(0, ov_r 58), (1, ov_i c), (2, ov_i way), (3, ov_i s)]) (st2 := [ov_i way]) (pc2 := 11) b_99_10_1 rfl rfl ?_
    refine ov_ifne (tgt := 23) d_99_11 (by decide) (by omega) (fun c27 => ?_) (fun c27 => ?_)
    · skip
      refine ov_blk (ls2 := [(0, ov_r 58), (1, ov_i c), (2, ov_i way), (3, ov_i s)]) (st2 := [ov_i 0]) (pc2 := 24) b_99_23_1 rfl rfl ?_
      exact ov_reti (st := []) d_99_24 rfl ⟨_, rfl, rfl, rfl, (by show 0 ≤ 0 ∧ 0 ≤ 60; omega)⟩
    · skip
      refine ov_blk (ls2 := [(0, ov_r 58), (1, ov_i c), (2, ov_i way), (3, ov_i s)]) (st2 := [ov_r 58]) (pc2 := 15) b_99_14_1 rfl rfl ?_
      refine ov_getf (v := ov_r 61) d_99_15 fl_Town_18 (zb_58 I) (zs_58 I) (congrArg ov_r (rg_58_4 I)) ?_
      refine ov_blk (ls2 := [(0, ov_r 58), (1, ov_i c), (2, ov_i way), (3, ov_i s)]) (st2 := [ov_i c, ov_r 61]) (pc2 := 19) b_99_18_1 rfl rfl ?_
      refine ov_iald d_99_19 (zb_61 I) (zs_61 I) (by omega) ?_
      have g28 := ra_61 I c
      refine ov_goto (tgt := 24) d_99_20 (by decide) ?_
      exact ov_reti (st := []) d_99_24 rfl ⟨_, rfl, rfl, rfl, (by show 0 ≤ (h 61 c) ∧ (h 61 c) ≤ 60; omega)⟩
abbrev P_Town_shareRound_58 (F : ov_H) (z : ov_Z) (h : ov_H) (c : Int) (many : Int) : Option ov_V → ov_Z → ov_H → Prop := fun r0 z' h' => ∃ r : Int, r0 = some (ov_i r) ∧ z = z' ∧ h = h' ∧ ((r = 0 ∨ r = 1))
set_option maxHeartbeats 4000000 in
theorem c_Town_shareRound_58 {u : ov_U} {F : ov_H} {z : ov_Z} {h : ov_H} (d : Nat) (hd : 1 ≤ d) (U : ov_cap u) (I : ov_I F z h) (c : Int) (many : Int) (g_c : ov_g c) (g_many : ov_g many) (p0 : 0 ≤ c ∧ c ≤ 53) (p1 : many ≤ 4) : ov_T u d ov_m177 [ov_r 58, ov_i c, ov_i many] z h (P_Town_shareRound_58 F z h c many) := by
  refine ov_en rfl (Nat.le_of_ble_eq_true rfl) ?_
  show ov_R u d ov_m177 0 [(0, ov_r 58), (1, ov_i c), (2, ov_i many)] [] z h (P_Town_shareRound_58 F z h c many)
  refine ov_blk (ls2 := [(0, ov_r 58), (1, ov_i c), (2, ov_i many), (3, ov_i 0)]) (st2 := []) (pc2 := 2) b_177_0_2 rfl rfl ?_
  have L4 : ∀ (n1 : Nat) (x3 : Int) (q3 : 0 ≤ x3 ∧ (x3 ≤ 4)), 4 - x3 < (n1 : Int) → ov_R u d ov_m177 2 [(0, ov_r 58), (1, ov_i c), (2, ov_i many), (3, ov_i x3)] [] z h (P_Town_shareRound_58 F z h c many) := by
    intro n1
    induction n1 with
    | zero =>
      intro x3 q3 hn5
      exact absurd hn5 (by omega)
    | succ n1 ih2 =>
      intro x3 q3 hn5
      refine ov_blk (ls2 := [(0, ov_r 58), (1, ov_i c), (2, ov_i many), (3, ov_i x3)]) (st2 := [ov_i many, ov_i x3]) (pc2 := 4) b_177_2_2 rfl rfl ?_
      refine ov_icge (tgt := 55) d_177_4 (by decide) (by omega) (by omega) (fun c6 => ?_) (fun c6 => ?_)
      · skip
        refine ov_blk (ls2 := [(0, ov_r 58), (1, ov_i c), (2, ov_i many), (3, ov_i x3)]) (st2 := [ov_i 1]) (pc2 := 56) b_177_55_1 rfl rfl ?_
        exact ov_retz (st := []) d_177_56 rfl (by omega) ⟨_, rfl, rfl, rfl, (by show (1 = 0 ∨ 1 = 1); omega)⟩
      · skip
        refine ov_blk (ls2 := [(0, ov_r 58), (1, ov_i c), (2, ov_i many), (3, ov_i x3), (4, ov_i (c + (x3 * 6)))]) (st2 := [ov_i 54, ov_i (c + (x3 * 6))]) (pc2 := 19) b_177_7_8 rfl rfl ?_
        refine ov_icge (tgt := 47) d_177_19 (by decide) (by omega) (by omega) (fun c7 => ?_) (fun c7 => ?_)
        · skip
          refine ov_blk (ls2 := [(0, ov_r 58), (1, ov_i c), (2, ov_i many), (3, ov_i x3), (4, ov_i (c + (x3 * 6)))]) (st2 := [ov_i 0]) (pc2 := 48) b_177_47_1 rfl rfl ?_
          exact ov_retz (st := []) d_177_48 rfl (by omega) ⟨_, rfl, rfl, rfl, (by show (0 = 0 ∨ 0 = 1); omega)⟩
        · skip
          refine ov_blk (ls2 := [(0, ov_r 58), (1, ov_i c), (2, ov_i many), (3, ov_i x3), (4, ov_i (c + (x3 * 6)))]) (st2 := [ov_i (c + (x3 * 6)), ov_r 58]) (pc2 := 25) b_177_22_2 rfl rfl ?_
          refine ov_cV (as := [ov_i (c + (x3 * 6))]) (st := []) (d2 := d - 1) d_177_25 lk_Town_89 rfl (Nat.le_of_ble_eq_true rfl) (c := 9) (zb_58 I) (zs_58 I) ⟨by decide, rfl⟩ (by omega) (c_Town_isTimed_58 (d - 1) (by omega) U I (c + (x3 * 6)) (by omega) (by omega)) ?_
          rintro _ _ _ ⟨v9, rfl, rfl, rfl, f8⟩
          show ov_R u d ov_m177 28 [(0, ov_r 58), (1, ov_i c), (2, ov_i many), (3, ov_i x3), (4, ov_i (c + (x3 * 6)))] [ov_i v9] z h (P_Town_shareRound_58 F z h c many)
          have f10 : (v9 = 0 ∨ v9 = 1) := f8
          clear f8
          refine ov_ifeq (tgt := 47) d_177_28 (by decide) (by omega) (fun c11 => ?_) (fun c11 => ?_)
          · skip
            refine ov_blk (ls2 := [(0, ov_r 58), (1, ov_i c), (2, ov_i many), (3, ov_i x3), (4, ov_i (c + (x3 * 6)))]) (st2 := [ov_i 0]) (pc2 := 48) b_177_47_1 rfl rfl ?_
            exact ov_retz (st := []) d_177_48 rfl (by omega) ⟨_, rfl, rfl, rfl, (by show (0 = 0 ∨ 0 = 1); omega)⟩
          · skip
            refine ov_blk (ls2 := [(0, ov_r 58), (1, ov_i c), (2, ov_i many), (3, ov_i x3), (4, ov_i (c + (x3 * 6)))]) (st2 := [ov_r 58]) (pc2 := 32) b_177_31_1 rfl rfl ?_
            refine ov_getf (v := ov_r 60) d_177_32 fl_Town_15 (zb_58 I) (zs_58 I) (congrArg ov_r (rg_58_3 I)) ?_
            refine ov_blk (ls2 := [(0, ov_r 58), (1, ov_i c), (2, ov_i many), (3, ov_i x3), (4, ov_i (c + (x3 * 6)))]) (st2 := [ov_i (c + (x3 * 6)), ov_r 60]) (pc2 := 37) b_177_35_1 rfl rfl ?_
            refine ov_iald d_177_37 (zb_60 I) (zs_60 I) (by omega) ?_
            have g12 := ra_60 I (c + (x3 * 6))
            refine ov_blk (ls2 := [(0, ov_r 58), (1, ov_i c), (2, ov_i many), (3, ov_i x3), (4, ov_i (c + (x3 * 6)))]) (st2 := [ov_r 58, ov_i (h 60 (c + (x3 * 6)))]) (pc2 := 39) b_177_38_1 rfl rfl ?_
            refine ov_getf (v := ov_r 60) d_177_39 fl_Town_15 (zb_58 I) (zs_58 I) (congrArg ov_r (rg_58_3 I)) ?_
            refine ov_blk (ls2 := [(0, ov_r 58), (1, ov_i c), (2, ov_i many), (3, ov_i x3), (4, ov_i (c + (x3 * 6)))]) (st2 := [ov_i c, ov_r 60, ov_i (h 60 (c + (x3 * 6)))]) (pc2 := 43) b_177_42_1 rfl rfl ?_
            refine ov_iald d_177_43 (zb_60 I) (zs_60 I) (by omega) ?_
            have g13 := ra_60 I c
            refine ov_iceq (tgt := 49) d_177_44 (by decide) (by omega) (by omega) (fun c14 => ?_) (fun c14 => ?_)
            · skip
              refine ov_blk (ls2 := [(0, ov_r 58), (1, ov_i c), (2, ov_i many), (3, ov_i (x3 + 1)), (4, ov_i (c + (x3 * 6)))]) (st2 := []) (pc2 := 52) b_177_49_1 rfl rfl ?_
              refine ov_goto (tgt := 2) d_177_52 (by decide) ?_
              refine ov_sub (ls2 := [(0, ov_r 58), (1, ov_i c), (2, ov_i many), (3, ov_i (x3 + 1))]) (List.Sublist.subset (by repeat (first | exact List.Sublist.refl _ | apply List.Sublist.cons_cons | apply List.Sublist.cons))) ?_
              exact ih2 (x3 + 1) (by show 0 ≤ (x3 + 1) ∧ ((x3 + 1) ≤ 4); omega) (by omega)
            · skip
              refine ov_blk (ls2 := [(0, ov_r 58), (1, ov_i c), (2, ov_i many), (3, ov_i x3), (4, ov_i (c + (x3 * 6)))]) (st2 := [ov_i 0]) (pc2 := 48) b_177_47_1 rfl rfl ?_
              exact ov_retz (st := []) d_177_48 rfl (by omega) ⟨_, rfl, rfl, rfl, (by show (0 = 0 ∨ 0 = 1); omega)⟩
  exact L4 5 0 (by show 0 ≤ 0 ∧ (0 ≤ 4); omega) (by omega)
abbrev P_Town_hasRule_58 (F : ov_H) (z : ov_Z) (h : ov_H) (n : Int) : Option ov_V → ov_Z → ov_H → Prop := fun r0 z' h' => ∃ r : Int, r0 = some (ov_i r) ∧ z = z' ∧ h = h' ∧ ((r = 0 ∨ r = 1))
set_option maxHeartbeats 4000000 in
theorem c_Town_hasRule_58 {u : ov_U} {F : ov_H} {z : ov_Z} {h : ov_H} (d : Nat) (hd : 0 ≤ d) (U : ov_cap u) (I : ov_I F z h) (n : Int) : ov_T u d ov_m68 [ov_r 58, ov_l n] z h (P_Town_hasRule_58 F z h n) := by
  refine ov_en rfl (Nat.le_of_ble_eq_true rfl) ?_
  show ov_R u d ov_m68 0 [(0, ov_r 58), (1, ov_l n)] [] z h (P_Town_hasRule_58 F z h n)
  refine ov_blk (ls2 := [(0, ov_r 58), (1, ov_l n), (3, ov_i 0)]) (st2 := []) (pc2 := 2) b_68_0_2 rfl rfl ?_
  have L4 : ∀ (n1 : Nat) (x3 : Int) (q3 : 0 ≤ x3 ∧ x3 ≤ 4), 4 - x3 < (n1 : Int) → ov_R u d ov_m68 2 [(0, ov_r 58), (1, ov_l n), (3, ov_i x3)] [] z h (P_Town_hasRule_58 F z h n) := by
    intro n1
    induction n1 with
    | zero =>
      intro x3 q3 hn5
      exact absurd hn5 (by omega)
    | succ n1 ih2 =>
      intro x3 q3 hn5
      refine ov_blk (ls2 := [(0, ov_r 58), (1, ov_l n), (3, ov_i x3)]) (st2 := [ov_r 58, ov_i x3]) (pc2 := 4) b_68_2_2 rfl rfl ?_
      refine ov_getf (v := ov_i (h 58 11)) d_68_4 fl_Town_69 (zb_58 I) (zs_58 I) rfl ?_
      have g6 := rg_58_11 I
      refine ov_icge (tgt := 29) d_68_7 (by decide) (by omega) (by omega) (fun c7 => ?_) (fun c7 => ?_)
      · skip
        refine ov_blk (ls2 := [(0, ov_r 58), (1, ov_l n), (3, ov_i x3)]) (st2 := [ov_i 0]) (pc2 := 30) b_68_29_1 rfl rfl ?_
        exact ov_retz (st := []) d_68_30 rfl (by omega) ⟨_, rfl, rfl, rfl, (by show (0 = 0 ∨ 0 = 1); omega)⟩
      · skip
        refine ov_blk (ls2 := [(0, ov_r 58), (1, ov_l n), (3, ov_i x3)]) (st2 := [ov_r 58]) (pc2 := 11) b_68_10_1 rfl rfl ?_
        refine ov_getf (v := ov_r 66) d_68_11 fl_Town_33 (zb_58 I) (zs_58 I) (congrArg ov_r (rg_58_13 I)) ?_
        refine ov_blk (ls2 := [(0, ov_r 58), (1, ov_l n), (3, ov_i x3)]) (st2 := [ov_i x3, ov_r 66]) (pc2 := 15) b_68_14_1 rfl rfl ?_
        refine ov_lald d_68_15 (zb_66 I) (zs_66 I) (by omega) ?_
        refine ov_blk (ls2 := [(0, ov_r 58), (1, ov_l n), (3, ov_i x3)]) (st2 := [ov_i (ov_lcmp (h 66 x3) n)]) (pc2 := 18) b_68_16_2 rfl rfl ?_
        have g8 := ov_lcg (h 66 x3) n
        refine ov_ifne (tgt := 23) d_68_18 (by decide) (by omega) (fun c9 => ?_) (fun c9 => ?_)
        · skip
          refine ov_blk (ls2 := [(0, ov_r 58), (1, ov_l n), (3, ov_i (x3 + 1))]) (st2 := []) (pc2 := 26) b_68_23_1 rfl rfl ?_
          refine ov_goto (tgt := 2) d_68_26 (by decide) ?_
          exact ih2 (x3 + 1) (by show 0 ≤ (x3 + 1) ∧ (x3 + 1) ≤ 4; omega) (by omega)
        · skip
          refine ov_blk (ls2 := [(0, ov_r 58), (1, ov_l n), (3, ov_i x3)]) (st2 := [ov_i 1]) (pc2 := 22) b_68_21_1 rfl rfl ?_
          exact ov_retz (st := []) d_68_22 rfl (by omega) ⟨_, rfl, rfl, rfl, (by show (1 = 0 ∨ 1 = 1); omega)⟩
  exact L4 5 0 (by show 0 ≤ 0 ∧ 0 ≤ 4; omega) (by omega)
abbrev P_Town_addCode_58 (F : ov_H) (z : ov_Z) (h : ov_H) (one : Int) : Option ov_V → ov_Z → ov_H → Prop := fun r0 z' h' => r0 = none ∧ ov_I F z' h' ∧ ((h' 3 2) = (h 3 2) ∧ (h' 36 7) = (h 36 7) ∧ (h' 1 1) = (h 1 1) ∧ (h' 90 2) = (h 90 2) ∧ (h' 0 10) = (h 0 10) ∧ (h' 0 11) = (h 0 11) ∧ (h' 0 12) = (h 0 12) ∧ (h' 0 13) = (h 0 13) ∧ (h' 3 1) = (h 3 1) ∧ (h' 36 8) = (h 36 8) ∧ (h' 46 3) = (h 46 3) ∧ (h' 46 4) = (h 46 4) ∧ (h' 49 4) = (h 49 4) ∧ (h' 49 5) = (h 49 5) ∧ (h' 64 0) = (h 64 0) ∧ (h' 76 0) = (h 76 0))
set_option maxHeartbeats 4000000 in
theorem c_Town_addCode_58 {u : ov_U} {F : ov_H} {z : ov_Z} {h : ov_H} (d : Nat) (hd : 0 ≤ d) (U : ov_cap u) (I : ov_I F z h) (hw : ov_kw 295436135555504537600 F) (one : Int) (g_one : ov_g one) : ov_T u d ov_m75 [ov_r 58, ov_i one] z h (P_Town_addCode_58 F z h one) := by
  refine ov_en rfl (Nat.le_of_ble_eq_true rfl) ?_
  show ov_R u d ov_m75 0 [(0, ov_r 58), (1, ov_i one)] [] z h (P_Town_addCode_58 F z h one)
  refine ov_blk (ls2 := [(0, ov_r 58), (1, ov_i one)]) (st2 := [ov_r 58]) (pc2 := 1) b_75_0_1 rfl rfl ?_
  refine ov_getf (v := ov_i (h 58 16)) d_75_1 fl_Town_72 (zb_58 I) (zs_58 I) rfl ?_
  have g1 := rg_58_16 I
  refine ov_blk (ls2 := [(0, ov_r 58), (1, ov_i one)]) (st2 := [ov_i 1000, ov_i (h 58 16)]) (pc2 := 7) b_75_4_1 rfl rfl ?_
  refine ov_icge (tgt := 30) d_75_7 (by decide) (by omega) (by omega) (fun c2 => ?_) (fun c2 => ?_)
  · skip
    exact ov_retv (st := []) d_75_30 rfl ⟨rfl, I, (by show (h 3 2) = (h 3 2) ∧ (h 36 7) = (h 36 7) ∧ (h 1 1) = (h 1 1) ∧ (h 90 2) = (h 90 2) ∧ (h 0 10) = (h 0 10) ∧ (h 0 11) = (h 0 11) ∧ (h 0 12) = (h 0 12) ∧ (h 0 13) = (h 0 13) ∧ (h 3 1) = (h 3 1) ∧ (h 36 8) = (h 36 8) ∧ (h 46 3) = (h 46 3) ∧ (h 46 4) = (h 46 4) ∧ (h 49 4) = (h 49 4) ∧ (h 49 5) = (h 49 5) ∧ (h 64 0) = (h 64 0) ∧ (h 76 0) = (h 76 0); omega)⟩
  · skip
    refine ov_blk (ls2 := [(0, ov_r 58), (1, ov_i one)]) (st2 := [ov_r 58]) (pc2 := 11) b_75_10_1 rfl rfl ?_
    refine ov_getf (v := ov_r 68) d_75_11 fl_Town_40 (zb_58 I) (zs_58 I) (congrArg ov_r (rg_58_15 I)) ?_
    refine ov_blk (ls2 := [(0, ov_r 58), (1, ov_i one)]) (st2 := [ov_r 58, ov_r 68]) (pc2 := 15) b_75_14_1 rfl rfl ?_
    refine ov_getf (v := ov_i (h 58 16)) d_75_15 fl_Town_72 (zb_58 I) (zs_58 I) rfl ?_
    refine ov_blk (ls2 := [(0, ov_r 58), (1, ov_i one)]) (st2 := [ov_i one, ov_i (h 58 16), ov_r 68]) (pc2 := 19) b_75_18_1 rfl rfl ?_
    refine ov_iast d_75_19 (zb_68 I) (zs_68 I) (by omega) ?_
    have I4 := ua_68 (k := (h 58 16)) (x := one) I (by omega) (hw 68 (by decide +kernel))
    refine ov_blk (ls2 := [(0, ov_r 58), (1, ov_i one)]) (st2 := [ov_r 58, ov_r 58]) (pc2 := 22) b_75_20_2 rfl rfl ?_
    refine ov_getf (v := ov_i (h 58 16)) d_75_22 fl_Town_72 (zb_58 I4) (zs_58 I4) rfl ?_
    refine ov_blk (ls2 := [(0, ov_r 58), (1, ov_i one)]) (st2 := [ov_i ((h 58 16) + 1), ov_r 58]) (pc2 := 27) b_75_25_2 rfl rfl ?_
    refine ov_putf (x := ((h 58 16) + 1)) d_75_27 fl_Town_72 (zb_58 I4) (zs_58 I4) rfl nk_0 rfl ?_
    have I6 := up_58_16 (x := ((h 58 16) + 1)) I4 (by omega) (hw 58 (by decide +kernel))
    exact ov_retv (st := []) d_75_30 rfl ⟨rfl, I6, (by show (h 3 2) = (h 3 2) ∧ (h 36 7) = (h 36 7) ∧ (h 1 1) = (h 1 1) ∧ (h 90 2) = (h 90 2) ∧ (h 0 10) = (h 0 10) ∧ (h 0 11) = (h 0 11) ∧ (h 0 12) = (h 0 12) ∧ (h 0 13) = (h 0 13) ∧ (h 3 1) = (h 3 1) ∧ (h 36 8) = (h 36 8) ∧ (h 46 3) = (h 46 3) ∧ (h 46 4) = (h 46 4) ∧ (h 49 4) = (h 49 4) ∧ (h 49 5) = (h 49 5) ∧ (h 64 0) = (h 64 0) ∧ (h 76 0) = (h 76 0); omega)⟩
abbrev P_Town_addRule_58 (F : ov_H) (z : ov_Z) (h : ov_H) (n : Int) : Option ov_V → ov_Z → ov_H → Prop := fun r0 z' h' => r0 = none ∧ ov_I F z' h' ∧ ((h' 36 7) = (h 36 7) ∧ (h' 1 1) = (h 1 1) ∧ (h' 90 2) = (h 90 2) ∧ (h' 0 10) = (h 0 10) ∧ (h' 0 11) = (h 0 11) ∧ (h' 0 12) = (h 0 12) ∧ (h' 0 13) = (h 0 13) ∧ (h' 3 1) = (h 3 1) ∧ (h' 36 8) = (h 36 8) ∧ (h' 46 3) = (h 46 3) ∧ (h' 46 4) = (h 46 4) ∧ (h' 49 4) = (h 49 4) ∧ (h' 49 5) = (h 49 5) ∧ (h' 64 0) = (h 64 0) ∧ (h' 76 0) = (h 76 0))
set_option maxHeartbeats 4000000 in
theorem c_Town_addRule_58 {u : ov_U} {F : ov_H} {z : ov_Z} {h : ov_H} (d : Nat) (hd : 0 ≤ d) (U : ov_cap u) (I : ov_I F z h) (hw : ov_kw 221649159260666331136 F) (n : Int) : ov_T u d ov_m76 [ov_r 58, ov_l n] z h (P_Town_addRule_58 F z h n) := by
  refine ov_en rfl (Nat.le_of_ble_eq_true rfl) ?_
  show ov_R u d ov_m76 0 [(0, ov_r 58), (1, ov_l n)] [] z h (P_Town_addRule_58 F z h n)
  refine ov_blk (ls2 := [(0, ov_r 58), (1, ov_l n)]) (st2 := [ov_r 58]) (pc2 := 1) b_76_0_1 rfl rfl ?_
  refine ov_getf (v := ov_i (h 58 11)) d_76_1 fl_Town_69 (zb_58 I) (zs_58 I) rfl ?_
  have g1 := rg_58_11 I
  refine ov_blk (ls2 := [(0, ov_r 58), (1, ov_l n)]) (st2 := [ov_i 4, ov_i (h 58 11)]) (pc2 := 5) b_76_4_1 rfl rfl ?_
  refine ov_icge (tgt := 41) d_76_5 (by decide) (by omega) (by omega) (fun c2 => ?_) (fun c2 => ?_)
  · skip
    exact ov_retv (st := []) d_76_41 rfl ⟨rfl, I, (by show (h 36 7) = (h 36 7) ∧ (h 1 1) = (h 1 1) ∧ (h 90 2) = (h 90 2) ∧ (h 0 10) = (h 0 10) ∧ (h 0 11) = (h 0 11) ∧ (h 0 12) = (h 0 12) ∧ (h 0 13) = (h 0 13) ∧ (h 3 1) = (h 3 1) ∧ (h 36 8) = (h 36 8) ∧ (h 46 3) = (h 46 3) ∧ (h 46 4) = (h 46 4) ∧ (h 49 4) = (h 49 4) ∧ (h 49 5) = (h 49 5) ∧ (h 64 0) = (h 64 0) ∧ (h 76 0) = (h 76 0); omega)⟩
  · skip
    refine ov_blk (ls2 := [(0, ov_r 58), (1, ov_l n)]) (st2 := [ov_r 58]) (pc2 := 9) b_76_8_1 rfl rfl ?_
    refine ov_getf (v := ov_r 66) d_76_9 fl_Town_33 (zb_58 I) (zs_58 I) (congrArg ov_r (rg_58_13 I)) ?_
    refine ov_blk (ls2 := [(0, ov_r 58), (1, ov_l n)]) (st2 := [ov_r 58, ov_r 66]) (pc2 := 13) b_76_12_1 rfl rfl ?_
    refine ov_getf (v := ov_i (h 58 11)) d_76_13 fl_Town_69 (zb_58 I) (zs_58 I) rfl ?_
    refine ov_blk (ls2 := [(0, ov_r 58), (1, ov_l n)]) (st2 := [ov_l n, ov_i (h 58 11), ov_r 66]) (pc2 := 17) b_76_16_1 rfl rfl ?_
    refine ov_last d_76_17 (zb_66 I) (zs_66 I) (by omega) ?_
    have I4 := ua_66 (k := (h 58 11)) (x := n) I (hw 66 (by decide +kernel))
    refine ov_blk (ls2 := [(0, ov_r 58), (1, ov_l n)]) (st2 := [ov_r 58]) (pc2 := 19) b_76_18_1 rfl rfl ?_
    refine ov_getf (v := ov_r 67) d_76_19 fl_Town_37 (zb_58 I4) (zs_58 I4) (congrArg ov_r (rg_58_14 I4)) ?_
    refine ov_blk (ls2 := [(0, ov_r 58), (1, ov_l n)]) (st2 := [ov_r 58, ov_r 67]) (pc2 := 23) b_76_22_1 rfl rfl ?_
    refine ov_getf (v := ov_i (h 58 11)) d_76_23 fl_Town_69 (zb_58 I4) (zs_58 I4) rfl ?_
    refine ov_blk (ls2 := [(0, ov_r 58), (1, ov_l n)]) (st2 := [ov_r 58, ov_i (h 58 11), ov_r 67]) (pc2 := 27) b_76_26_1 rfl rfl ?_
    refine ov_getf (v := ov_i (h 58 16)) d_76_27 fl_Town_72 (zb_58 I4) (zs_58 I4) rfl ?_
    have g6 := rg_58_16 I
    refine ov_iast d_76_30 (zb_67 I4) (zs_67 I4) (by omega) ?_
    have I7 := ua_67 (k := (h 58 11)) (x := (h 58 16)) I4 (by omega) (hw 67 (by decide +kernel))
    refine ov_blk (ls2 := [(0, ov_r 58), (1, ov_l n)]) (st2 := [ov_r 58, ov_r 58]) (pc2 := 33) b_76_31_2 rfl rfl ?_
    refine ov_getf (v := ov_i (h 58 11)) d_76_33 fl_Town_69 (zb_58 I7) (zs_58 I7) rfl ?_
    refine ov_blk (ls2 := [(0, ov_r 58), (1, ov_l n)]) (st2 := [ov_i ((h 58 11) + 1), ov_r 58]) (pc2 := 38) b_76_36_2 rfl rfl ?_
    refine ov_putf (x := ((h 58 11) + 1)) d_76_38 fl_Town_69 (zb_58 I7) (zs_58 I7) rfl nk_0 rfl ?_
    have I9 := up_58_11 (x := ((h 58 11) + 1)) I7 (by omega) (hw 58 (by decide +kernel))
    exact ov_retv (st := []) d_76_41 rfl ⟨rfl, I9, (by show (h 36 7) = (h 36 7) ∧ (h 1 1) = (h 1 1) ∧ (h 90 2) = (h 90 2) ∧ (h 0 10) = (h 0 10) ∧ (h 0 11) = (h 0 11) ∧ (h 0 12) = (h 0 12) ∧ (h 0 13) = (h 0 13) ∧ (h 3 1) = (h 3 1) ∧ (h 36 8) = (h 36 8) ∧ (h 46 3) = (h 46 3) ∧ (h 46 4) = (h 46 4) ∧ (h 49 4) = (h 49 4) ∧ (h 49 5) = (h 49 5) ∧ (h 64 0) = (h 64 0) ∧ (h 76 0) = (h 76 0); omega)⟩
abbrev P_Town_placeOrNumber_58 (F : ov_H) (z : ov_Z) (h : ov_H) (one : Int) (c : Int) : Option ov_V → ov_Z → ov_H → Prop := fun r0 z' h' => ∃ r : Int, r0 = some (ov_i r) ∧ z = z' ∧ h = h' ∧ (-2147483648 ≤ r ∧ r ≤ 2147483647)
set_option maxHeartbeats 4000000 in
theorem c_Town_placeOrNumber_58 {u : ov_U} {F : ov_H} {z : ov_Z} {h : ov_H} (d : Nat) (hd : 0 ≤ d) (U : ov_cap u) (I : ov_I F z h) (one : Int) (c : Int) (g_one : ov_g one) (g_c : ov_g c) (p0 : 0 ≤ c ∧ c ≤ 53) (p1 : 8 ≤ one) : ov_T u d ov_m139 [ov_r 58, ov_i one, ov_i c] z h (P_Town_placeOrNumber_58 F z h one c) := by
  refine ov_en rfl (Nat.le_of_ble_eq_true rfl) ?_
  show ov_R u d ov_m139 0 [(0, ov_r 58), (1, ov_i one), (2, ov_i c)] [] z h (P_Town_placeOrNumber_58 F z h one c)
  refine ov_blk (ls2 := [(0, ov_r 58), (1, ov_i one), (2, ov_i c)]) (st2 := [ov_i 10, ov_i one]) (pc2 := 3) b_139_0_2 rfl rfl ?_
  refine ov_icne (tgt := 18) d_139_3 (by decide) (by omega) (by omega) (fun c1 => ?_) (fun c1 => ?_)
  · skip
    refine ov_blk (ls2 := [(0, ov_r 58), (1, ov_i one), (2, ov_i c)]) (st2 := [ov_i 11, ov_i one]) (pc2 := 21) b_139_18_2 rfl rfl ?_
    refine ov_icne (tgt := 38) d_139_21 (by decide) (by omega) (by omega) (fun c2 => ?_) (fun c2 => ?_)
    · skip
      refine ov_blk (ls2 := [(0, ov_r 58), (1, ov_i one), (2, ov_i c)]) (st2 := [ov_i (one - 16)]) (pc2 := 42) b_139_38_3 rfl rfl ?_
      exact ov_reti (st := []) d_139_42 rfl ⟨_, rfl, rfl, rfl, (by show -2147483648 ≤ (one - 16) ∧ (one - 16) ≤ 2147483647; omega)⟩
    · skip
      refine ov_blk (ls2 := [(0, ov_r 58), (1, ov_i one), (2, ov_i c)]) (st2 := [ov_r 58]) (pc2 := 25) b_139_24_1 rfl rfl ?_
      refine ov_getf (v := ov_i (h 58 1)) d_139_25 fl_Town_50 (zb_58 I) (zs_58 I) rfl ?_
      have g3 := rg_58_1 I
      refine ov_blk (ls2 := [(0, ov_r 58), (1, ov_i one), (2, ov_i c)]) (st2 := [ov_i 6, ov_i c, ov_i ((h 58 1) - 1)]) (pc2 := 33) b_139_28_4 rfl rfl ?_
      refine ov_idiv d_139_33 (by omega) (by omega) (by omega) ?_
      have g4 := ov_td (a := c) (b := 6) (by omega)
      refine ov_blk (ls2 := [(0, ov_r 58), (1, ov_i one), (2, ov_i c)]) (st2 := [ov_i (((h 58 1) - 1) - (Int.tdiv c 6))]) (pc2 := 35) b_139_34_1 rfl rfl ?_
      refine ov_goto (tgt := 42) d_139_35 (by decide) ?_
      exact ov_reti (st := []) d_139_42 rfl ⟨_, rfl, rfl, rfl, (by show -2147483648 ≤ (((h 58 1) - 1) - (Int.tdiv c 6)) ∧ (((h 58 1) - 1) - (Int.tdiv c 6)) ≤ 2147483647; omega)⟩
  · skip
    refine ov_blk (ls2 := [(0, ov_r 58), (1, ov_i one), (2, ov_i c)]) (st2 := [ov_r 58]) (pc2 := 7) b_139_6_1 rfl rfl ?_
    refine ov_getf (v := ov_i (h 58 0)) d_139_7 fl_Town_46 (zb_58 I) (zs_58 I) rfl ?_
    have g5 := rg_58_0 I
    refine ov_blk (ls2 := [(0, ov_r 58), (1, ov_i one), (2, ov_i c)]) (st2 := [ov_i 6, ov_i c, ov_i ((h 58 0) - 1)]) (pc2 := 15) b_139_10_4 rfl rfl ?_
    refine ov_irem d_139_15 (by omega) (by omega) (by omega) ?_
    have g6 := ov_tm (a := c) (b := 6) (by omega)
    have g7 := ov_tmg (a := c) (b := 6) (by omega) (by omega)
    refine ov_blk (ls2 := [(0, ov_r 58), (1, ov_i one), (2, ov_i c)]) (st2 := [ov_i (((h 58 0) - 1) - (Int.tmod c 6))]) (pc2 := 17) b_139_16_1 rfl rfl ?_
    exact ov_reti (st := []) d_139_17 rfl ⟨_, rfl, rfl, rfl, (by show -2147483648 ≤ (((h 58 0) - 1) - (Int.tmod c 6)) ∧ (((h 58 0) - 1) - (Int.tmod c 6)) ≤ 2147483647; omega)⟩
abbrev P_Town_joined (F : ov_H) (z : ov_Z) (h : ov_H) (one : Int) (a : Int) (b : Int) : Option ov_V → ov_Z → ov_H → Prop := fun r0 z' h' => ∃ r : Int, r0 = some (ov_i r) ∧ z = z' ∧ h = h' ∧ (-2147483648 ≤ r ∧ r ≤ 2147483647)
set_option maxHeartbeats 4000000 in
theorem c_Town_joined {u : ov_U} {F : ov_H} {z : ov_Z} {h : ov_H} (d : Nat) (hd : 0 ≤ d) (U : ov_cap u) (I : ov_I F z h) (one : Int) (a : Int) (b : Int) (g_one : ov_g one) (g_a : ov_g a) (g_b : ov_g b) : ov_T u d ov_m140 [ov_i one, ov_i a, ov_i b] z h (P_Town_joined F z h one a b) := by
  refine ov_en rfl (Nat.le_of_ble_eq_true rfl) ?_
  show ov_R u d ov_m140 0 [(0, ov_i one), (1, ov_i a), (2, ov_i b)] [] z h (P_Town_joined F z h one a b)
  refine ov_blk (ls2 := [(0, ov_i one), (1, ov_i a), (2, ov_i b)]) (st2 := [ov_i one]) (pc2 := 1) b_140_0_1 rfl rfl ?_
  by_cases q1 : one = 1
  · refine ov_tin (off := 39) (tgt := 40) d_140_1 (by omega) (by omega) (by rw [q1]; rfl) (by decide) ?_
    refine ov_blk (ls2 := [(0, ov_i one), (1, ov_i a), (2, ov_i b)]) (st2 := [ov_i a]) (pc2 := 41) b_140_40_1 rfl rfl ?_
    refine ov_ifeq (tgt := 52) d_140_41 (by decide) (by omega) (fun c2 => ?_) (fun c2 => ?_)
    · skip
      refine ov_blk (ls2 := [(0, ov_i one), (1, ov_i a), (2, ov_i b)]) (st2 := [ov_i 0]) (pc2 := 53) b_140_52_1 rfl rfl ?_
      exact ov_reti (st := []) d_140_53 rfl ⟨_, rfl, rfl, rfl, (by show -2147483648 ≤ 0 ∧ 0 ≤ 2147483647; omega)⟩
    · skip
      refine ov_blk (ls2 := [(0, ov_i one), (1, ov_i a), (2, ov_i b)]) (st2 := [ov_i b]) (pc2 := 45) b_140_44_1 rfl rfl ?_
      refine ov_ifeq (tgt := 52) d_140_45 (by decide) (by omega) (fun c3 => ?_) (fun c3 => ?_)
      · skip
        refine ov_blk (ls2 := [(0, ov_i one), (1, ov_i a), (2, ov_i b)]) (st2 := [ov_i 0]) (pc2 := 53) b_140_52_1 rfl rfl ?_
        exact ov_reti (st := []) d_140_53 rfl ⟨_, rfl, rfl, rfl, (by show -2147483648 ≤ 0 ∧ 0 ≤ 2147483647; omega)⟩
      · skip
        refine ov_blk (ls2 := [(0, ov_i one), (1, ov_i a), (2, ov_i b)]) (st2 := [ov_i 1]) (pc2 := 49) b_140_48_1 rfl rfl ?_
        refine ov_goto (tgt := 53) d_140_49 (by decide) ?_
        exact ov_reti (st := []) d_140_53 rfl ⟨_, rfl, rfl, rfl, (by show -2147483648 ≤ 1 ∧ 1 ≤ 2147483647; omega)⟩
  by_cases q4 : one = 2
  · refine ov_tin (off := 53) (tgt := 54) d_140_1 (by omega) (by omega) (by rw [q4]; rfl) (by decide) ?_
    refine ov_blk (ls2 := [(0, ov_i one), (1, ov_i a), (2, ov_i b)]) (st2 := [ov_i a]) (pc2 := 55) b_140_54_1 rfl rfl ?_
    refine ov_ifne (tgt := 62) d_140_55 (by decide) (by omega) (fun c5 => ?_) (fun c5 => ?_)
    · skip
      refine ov_blk (ls2 := [(0, ov_i one), (1, ov_i a), (2, ov_i b)]) (st2 := [ov_i 1]) (pc2 := 63) b_140_62_1 rfl rfl ?_
      refine ov_goto (tgt := 67) d_140_63 (by decide) ?_
      exact ov_reti (st := []) d_140_67 rfl ⟨_, rfl, rfl, rfl, (by show -2147483648 ≤ 1 ∧ 1 ≤ 2147483647; omega)⟩
    · skip
      refine ov_blk (ls2 := [(0, ov_i one), (1, ov_i a), (2, ov_i b)]) (st2 := [ov_i b]) (pc2 := 59) b_140_58_1 rfl rfl ?_
      refine ov_ifeq (tgt := 66) d_140_59 (by decide) (by omega) (fun c6 => ?_) (fun c6 => ?_)
      · skip
        refine ov_blk (ls2 := [(0, ov_i one), (1, ov_i a), (2, ov_i b)]) (st2 := [ov_i 0]) (pc2 := 67) b_140_66_1 rfl rfl ?_
        exact ov_reti (st := []) d_140_67 rfl ⟨_, rfl, rfl, rfl, (by show -2147483648 ≤ 0 ∧ 0 ≤ 2147483647; omega)⟩
      · skip
        refine ov_blk (ls2 := [(0, ov_i one), (1, ov_i a), (2, ov_i b)]) (st2 := [ov_i 1]) (pc2 := 63) b_140_62_1 rfl rfl ?_
        refine ov_goto (tgt := 67) d_140_63 (by decide) ?_
        exact ov_reti (st := []) d_140_67 rfl ⟨_, rfl, rfl, rfl, (by show -2147483648 ≤ 1 ∧ 1 ≤ 2147483647; omega)⟩
  by_cases q7 : one = 3
  · refine ov_tin (off := 67) (tgt := 68) d_140_1 (by omega) (by omega) (by rw [q7]; rfl) (by decide) ?_
    refine ov_blk (ls2 := [(0, ov_i one), (1, ov_i a), (2, ov_i b)]) (st2 := [ov_i b, ov_i a]) (pc2 := 70) b_140_68_2 rfl rfl ?_
    refine ov_icge (tgt := 77) d_140_70 (by decide) (by omega) (by omega) (fun c8 => ?_) (fun c8 => ?_)
    · skip
      refine ov_blk (ls2 := [(0, ov_i one), (1, ov_i a), (2, ov_i b)]) (st2 := [ov_i 0]) (pc2 := 78) b_140_77_1 rfl rfl ?_
      exact ov_reti (st := []) d_140_78 rfl ⟨_, rfl, rfl, rfl, (by show -2147483648 ≤ 0 ∧ 0 ≤ 2147483647; omega)⟩
    · skip
      refine ov_blk (ls2 := [(0, ov_i one), (1, ov_i a), (2, ov_i b)]) (st2 := [ov_i 1]) (pc2 := 74) b_140_73_1 rfl rfl ?_
      refine ov_goto (tgt := 78) d_140_74 (by decide) ?_
      exact ov_reti (st := []) d_140_78 rfl ⟨_, rfl, rfl, rfl, (by show -2147483648 ≤ 1 ∧ 1 ≤ 2147483647; omega)⟩
  by_cases q9 : one = 4
  · refine ov_tin (off := 78) (tgt := 79) d_140_1 (by omega) (by omega) (by rw [q9]; rfl) (by decide) ?_
    refine ov_blk (ls2 := [(0, ov_i one), (1, ov_i a), (2, ov_i b)]) (st2 := [ov_i b, ov_i a]) (pc2 := 81) b_140_79_2 rfl rfl ?_
    refine ov_icne (tgt := 88) d_140_81 (by decide) (by omega) (by omega) (fun c10 => ?_) (fun c10 => ?_)
    · skip
      refine ov_blk (ls2 := [(0, ov_i one), (1, ov_i a), (2, ov_i b)]) (st2 := [ov_i 0]) (pc2 := 89) b_140_88_1 rfl rfl ?_
      exact ov_reti (st := []) d_140_89 rfl ⟨_, rfl, rfl, rfl, (by show -2147483648 ≤ 0 ∧ 0 ≤ 2147483647; omega)⟩
    · skip
      refine ov_blk (ls2 := [(0, ov_i one), (1, ov_i a), (2, ov_i b)]) (st2 := [ov_i 1]) (pc2 := 85) b_140_84_1 rfl rfl ?_
      refine ov_goto (tgt := 89) d_140_85 (by decide) ?_
      exact ov_reti (st := []) d_140_89 rfl ⟨_, rfl, rfl, rfl, (by show -2147483648 ≤ 1 ∧ 1 ≤ 2147483647; omega)⟩
  by_cases q11 : one = 5
  · refine ov_tin (off := 89) (tgt := 90) d_140_1 (by omega) (by omega) (by rw [q11]; rfl) (by decide) ?_
    refine ov_blk (ls2 := [(0, ov_i one), (1, ov_i a), (2, ov_i b)]) (st2 := [ov_i (a + b)]) (pc2 := 93) b_140_90_3 rfl rfl ?_
    refine ov_havw (fun w12 gw12 qw12 => ?_)
    exact ov_reti (st := []) d_140_93 rfl ⟨_, rfl, rfl, rfl, (by show -2147483648 ≤ w12 ∧ w12 ≤ 2147483647; omega)⟩
  by_cases q13 : one = 6
  · refine ov_tin (off := 93) (tgt := 94) d_140_1 (by omega) (by omega) (by rw [q13]; rfl) (by decide) ?_
    refine ov_blk (ls2 := [(0, ov_i one), (1, ov_i a), (2, ov_i b)]) (st2 := [ov_i (a - b)]) (pc2 := 97) b_140_94_3 rfl rfl ?_
    refine ov_havw (fun w14 gw14 qw14 => ?_)
    exact ov_reti (st := []) d_140_97 rfl ⟨_, rfl, rfl, rfl, (by show -2147483648 ≤ w14 ∧ w14 ≤ 2147483647; omega)⟩
  refine ov_tout (tgt := 98) d_140_1 (by omega) (by omega) (by decide) ?_
  refine ov_blk (ls2 := [(0, ov_i one), (1, ov_i a), (2, ov_i b)]) (st2 := [ov_i (a * b)]) (pc2 := 101) b_140_98_3 rfl rfl ?_
  refine ov_havw (fun w15 gw15 qw15 => ?_)
  exact ov_reti (st := []) d_140_101 rfl ⟨_, rfl, rfl, rfl, (by show -2147483648 ≤ w15 ∧ w15 ≤ 2147483647; omega)⟩
abbrev P_Town_ruleSaysOver_58 (F : ov_H) (z : ov_Z) (h : ov_H) (rule : Int) (c : Int) (ow : Int) (nw : Int) : Option ov_V → ov_Z → ov_H → Prop := fun r0 z' h' => ∃ r : Int, r0 = some (ov_i r) ∧ ov_I F z' h' ∧ ((r = 0 ∨ r = 1) ∧ (h' 36 7) = (h 36 7) ∧ (h' 1 1) = (h 1 1) ∧ (h' 90 2) = (h 90 2) ∧ (h' 0 10) = (h 0 10) ∧ (h' 0 11) = (h 0 11) ∧ (h' 0 12) = (h 0 12) ∧ (h' 0 13) = (h 0 13) ∧ (h' 3 1) = (h 3 1) ∧ (h' 36 8) = (h 36 8) ∧ (h' 46 3) = (h 46 3) ∧ (h' 46 4) = (h 46 4) ∧ (h' 49 4) = (h 49 4) ∧ (h' 49 5) = (h 49 5) ∧ (h' 64 0) = (h 64 0) ∧ (h' 76 0) = (h 76 0))
set_option maxHeartbeats 4000000 in
theorem c_Town_ruleSaysOver_58 {u : ov_U} {F : ov_H} {z : ov_Z} {h : ov_H} (d : Nat) (hd : 1 ≤ d) (U : ov_cap u) (I : ov_I F z h) (hw : ov_kw 590295810358705651712 F) (rule : Int) (c : Int) (ow : Int) (nw : Int) (g_rule : ov_g rule) (g_c : ov_g c) (g_ow : ov_g ow) (g_nw : ov_g nw) (p0 : 0 ≤ c ∧ c ≤ 53) : ov_T u d ov_m138 [ov_r 58, ov_i rule, ov_i c, ov_i ow, ov_i nw] z h (P_Town_ruleSaysOver_58 F z h rule c ow nw) := by
  refine ov_en rfl (Nat.le_of_ble_eq_true rfl) ?_
  show ov_R u d ov_m138 0 [(0, ov_r 58), (1, ov_i rule), (2, ov_i c), (3, ov_i ow), (4, ov_i nw)] [] z h (P_Town_ruleSaysOver_58 F z h rule c ow nw)
  refine ov_blk (ls2 := [(0, ov_r 58), (1, ov_i rule), (2, ov_i c), (3, ov_i ow), (4, ov_i nw)]) (st2 := [ov_i rule]) (pc2 := 1) b_138_0_1 rfl rfl ?_
  refine ov_iflt (tgt := 12) d_138_1 (by decide) (by omega) (fun c1 => ?_) (fun c1 => ?_)
  · skip
    refine ov_blk (ls2 := [(0, ov_r 58), (1, ov_i rule), (2, ov_i c), (3, ov_i ow), (4, ov_i nw)]) (st2 := [ov_i 0]) (pc2 := 13) b_138_12_1 rfl rfl ?_
    exact ov_retz (st := []) d_138_13 rfl (by omega) ⟨_, rfl, I, (by show (0 = 0 ∨ 0 = 1) ∧ (h 36 7) = (h 36 7) ∧ (h 1 1) = (h 1 1) ∧ (h 90 2) = (h 90 2) ∧ (h 0 10) = (h 0 10) ∧ (h 0 11) = (h 0 11) ∧ (h 0 12) = (h 0 12) ∧ (h 0 13) = (h 0 13) ∧ (h 3 1) = (h 3 1) ∧ (h 36 8) = (h 36 8) ∧ (h 46 3) = (h 46 3) ∧ (h 46 4) = (h 46 4) ∧ (h 49 4) = (h 49 4) ∧ (h 49 5) = (h 49 5) ∧ (h 64 0) = (h 64 0) ∧ (h 76 0) = (h 76 0); omega)⟩
  · skip
    refine ov_blk (ls2 := [(0, ov_r 58), (1, ov_i rule), (2, ov_i c), (3, ov_i ow), (4, ov_i nw)]) (st2 := [ov_r 58, ov_i rule]) (pc2 := 6) b_138_4_2 rfl rfl ?_
    refine ov_getf (v := ov_i (h 58 11)) d_138_6 fl_Town_69 (zb_58 I) (zs_58 I) rfl ?_
    have g2 := rg_58_11 I
    refine ov_iclt (tgt := 14) d_138_9 (by decide) (by omega) (by omega) (fun c3 => ?_) (fun c3 => ?_)
    · skip
      refine ov_blk (ls2 := [(0, ov_r 58), (1, ov_i rule), (2, ov_i c), (3, ov_i ow), (4, ov_i nw), (5, ov_i 0)]) (st2 := [ov_i rule]) (pc2 := 18) b_138_14_3 rfl rfl ?_
      refine ov_ifne (tgt := 25) d_138_18 (by decide) (by omega) (fun c4 => ?_) (fun c4 => ?_)
      · skip
        refine ov_blk (ls2 := [(0, ov_r 58), (1, ov_i rule), (2, ov_i c), (3, ov_i ow), (4, ov_i nw), (5, ov_i 0)]) (st2 := [ov_r 58]) (pc2 := 26) b_138_25_1 rfl rfl ?_
        refine ov_getf (v := ov_r 67) d_138_26 fl_Town_37 (zb_58 I) (zs_58 I) (congrArg ov_r (rg_58_14 I)) ?_
        refine ov_blk (ls2 := [(0, ov_r 58), (1, ov_i rule), (2, ov_i c), (3, ov_i ow), (4, ov_i nw), (5, ov_i 0)]) (st2 := [ov_i (rule - 1), ov_r 67]) (pc2 := 32) b_138_29_3 rfl rfl ?_
        refine ov_iald d_138_32 (zb_67 I) (zs_67 I) (by omega) ?_
        have g5 := ra_67 I (rule - 1)
        refine ov_blk (ls2 := [(0, ov_r 58), (1, ov_i rule), (2, ov_i c), (3, ov_i ow), (4, ov_i nw), (5, ov_i 0), (6, ov_i (h 67 (rule - 1)))]) (st2 := []) (pc2 := 35) b_138_33_1 rfl rfl ?_
        have L9 : ∀ (n6 : Nat) (x5 : Int) (x6 : Int) (z10 : ov_Z) (h11 : ov_H) (I12 : ov_I F z10 h11) (q8 : 0 ≤ x5 ∧ x5 ≤ 64 ∧ 0 ≤ x6 ∧ x6 ≤ 1000 ∧ 0 ≤ rule ∧ rule ≤ 3 ∧ (h11 36 7) = (h 36 7) ∧ (h11 1 1) = (h 1 1) ∧ (h11 90 2) = (h 90 2) ∧ (h11 0 10) = (h 0 10) ∧ (h11 0 11) = (h 0 11) ∧ (h11 0 12) = (h 0 12) ∧ (h11 0 13) = (h 0 13) ∧ (h11 3 1) = (h 3 1) ∧ (h11 36 8) = (h 36 8) ∧ (h11 46 3) = (h 46 3) ∧ (h11 46 4) = (h 46 4) ∧ (h11 49 4) = (h 49 4) ∧ (h11 49 5) = (h 49 5) ∧ (h11 64 0) = (h 64 0) ∧ (h11 76 0) = (h 76 0)), 1000 - x6 < (n6 : Int) → ov_R u d ov_m138 35 [(0, ov_r 58), (1, ov_i rule), (2, ov_i c), (3, ov_i ow), (4, ov_i nw), (5, ov_i x5), (6, ov_i x6)] [] z10 h11 (P_Town_ruleSaysOver_58 F z h rule c ow nw) := by
          intro n6
          induction n6 with
          | zero =>
            intro x5 x6 z10 h11 I12 q8 hn13
            exact absurd hn13 (by omega)
          | succ n6 ih7 =>
            intro x5 x6 z10 h11 I12 q8 hn13
            refine ov_blk (ls2 := [(0, ov_r 58), (1, ov_i rule), (2, ov_i c), (3, ov_i ow), (4, ov_i nw), (5, ov_i x5), (6, ov_i x6)]) (st2 := [ov_r 58, ov_i x6]) (pc2 := 38) b_138_35_2 rfl rfl ?_
            refine ov_getf (v := ov_r 67) d_138_38 fl_Town_37 (zb_58 I12) (zs_58 I12) (congrArg ov_r (rg_58_14 I12)) ?_
            refine ov_blk (ls2 := [(0, ov_r 58), (1, ov_i rule), (2, ov_i c), (3, ov_i ow), (4, ov_i nw), (5, ov_i x5), (6, ov_i x6)]) (st2 := [ov_i rule, ov_r 67, ov_i x6]) (pc2 := 42) b_138_41_1 rfl rfl ?_
            refine ov_iald d_138_42 (zb_67 I12) (zs_67 I12) (by omega) ?_
            have g14 := ra_67 I12 rule
            refine ov_icge (tgt := 197) d_138_43 (by decide) (by omega) (by omega) (fun c15 => ?_) (fun c15 => ?_)
            · skip
              refine ov_blk (ls2 := [(0, ov_r 58), (1, ov_i rule), (2, ov_i c), (3, ov_i ow), (4, ov_i nw), (5, ov_i x5), (6, ov_i x6)]) (st2 := [ov_r 58]) (pc2 := 198) b_138_197_1 rfl rfl ?_
              refine ov_getf (v := ov_r 69) d_138_198 fl_Town_43 (zb_58 I12) (zs_58 I12) (congrArg ov_r (rg_58_17 I12)) ?_
              refine ov_blk (ls2 := [(0, ov_r 58), (1, ov_i rule), (2, ov_i c), (3, ov_i ow), (4, ov_i nw), (5, ov_i x5), (6, ov_i x6)]) (st2 := [ov_i 0, ov_r 69]) (pc2 := 202) b_138_201_1 rfl rfl ?_
              refine ov_iald d_138_202 (zb_69 I12) (zs_69 I12) (by omega) ?_
              have g16 := ra_69 I12 0
              refine ov_ifeq (tgt := 210) d_138_203 (by decide) (by omega) (fun c17 => ?_) (fun c17 => ?_)
              · skip
                refine ov_blk (ls2 := [(0, ov_r 58), (1, ov_i rule), (2, ov_i c), (3, ov_i ow), (4, ov_i nw), (5, ov_i x5), (6, ov_i x6)]) (st2 := [ov_i 0]) (pc2 := 211) b_138_210_1 rfl rfl ?_
                exact ov_retz (st := []) d_138_211 rfl (by omega) ⟨_, rfl, I12, (by show (0 = 0 ∨ 0 = 1) ∧ (h11 36 7) = (h 36 7) ∧ (h11 1 1) = (h 1 1) ∧ (h11 90 2) = (h 90 2) ∧ (h11 0 10) = (h 0 10) ∧ (h11 0 11) = (h 0 11) ∧ (h11 0 12) = (h 0 12) ∧ (h11 0 13) = (h 0 13) ∧ (h11 3 1) = (h 3 1) ∧ (h11 36 8) = (h 36 8) ∧ (h11 46 3) = (h 46 3) ∧ (h11 46 4) = (h 46 4) ∧ (h11 49 4) = (h 49 4) ∧ (h11 49 5) = (h 49 5) ∧ (h11 64 0) = (h 64 0) ∧ (h11 76 0) = (h 76 0); omega)⟩
              · skip
                refine ov_blk (ls2 := [(0, ov_r 58), (1, ov_i rule), (2, ov_i c), (3, ov_i ow), (4, ov_i nw), (5, ov_i x5), (6, ov_i x6)]) (st2 := [ov_i 1]) (pc2 := 207) b_138_206_1 rfl rfl ?_
                refine ov_goto (tgt := 211) d_138_207 (by decide) ?_
                exact ov_retz (st := []) d_138_211 rfl (by omega) ⟨_, rfl, I12, (by show (1 = 0 ∨ 1 = 1) ∧ (h11 36 7) = (h 36 7) ∧ (h11 1 1) = (h 1 1) ∧ (h11 90 2) = (h 90 2) ∧ (h11 0 10) = (h 0 10) ∧ (h11 0 11) = (h 0 11) ∧ (h11 0 12) = (h 0 12) ∧ (h11 0 13) = (h 0 13) ∧ (h11 3 1) = (h 3 1) ∧ (h11 36 8) = (h 36 8) ∧ (h11 46 3) = (h 46 3) ∧ (h11 46 4) = (h 46 4) ∧ (h11 49 4) = (h 49 4) ∧ (h11 49 5) = (h 49 5) ∧ (h11 64 0) = (h 64 0) ∧ (h11 76 0) = (h 76 0); omega)⟩
            · skip
              refine ov_blk (ls2 := [(0, ov_r 58), (1, ov_i rule), (2, ov_i c), (3, ov_i ow), (4, ov_i nw), (5, ov_i x5), (6, ov_i x6)]) (st2 := [ov_r 58]) (pc2 := 47) b_138_46_1 rfl rfl ?_
              refine ov_getf (v := ov_r 68) d_138_47 fl_Town_40 (zb_58 I12) (zs_58 I12) (congrArg ov_r (rg_58_15 I12)) ?_
              refine ov_blk (ls2 := [(0, ov_r 58), (1, ov_i rule), (2, ov_i c), (3, ov_i ow), (4, ov_i nw), (5, ov_i x5), (6, ov_i x6)]) (st2 := [ov_i x6, ov_r 68]) (pc2 := 52) b_138_50_1 rfl rfl ?_
              refine ov_iald d_138_52 (zb_68 I12) (zs_68 I12) (by omega) ?_
              have g18 := ra_68 I12 x6
              refine ov_blk (ls2 := [(0, ov_r 58), (1, ov_i rule), (2, ov_i c), (3, ov_i ow), (4, ov_i nw), (5, ov_i x5), (6, ov_i x6), (7, ov_i (h11 68 x6))]) (st2 := [ov_i (h11 68 x6)]) (pc2 := 57) b_138_53_2 rfl rfl ?_
              refine ov_ifne (tgt := 95) d_138_57 (by decide) (by omega) (fun c19 => ?_) (fun c19 => ?_)
              · skip
                refine ov_blk (ls2 := [(0, ov_r 58), (1, ov_i rule), (2, ov_i c), (3, ov_i ow), (4, ov_i nw), (5, ov_i x5), (6, ov_i x6), (7, ov_i (h11 68 x6))]) (st2 := [ov_i 8, ov_i (h11 68 x6)]) (pc2 := 99) b_138_95_2 rfl rfl ?_
                refine ov_iclt (tgt := 152) d_138_99 (by decide) (by omega) (by omega) (fun c20 => ?_) (fun c20 => ?_)
                · skip
                  refine ov_blk (ls2 := [(0, ov_r 58), (1, ov_i rule), (2, ov_i c), (3, ov_i ow), (4, ov_i nw), (5, ov_i x5), (6, ov_i x6), (7, ov_i (h11 68 x6))]) (st2 := [ov_i 2, ov_i x5]) (pc2 := 155) b_138_152_2 rfl rfl ?_
                  refine ov_iclt (tgt := 191) d_138_155 (by decide) (by omega) (by omega) (fun c21 => ?_) (fun c21 => ?_)
                  · skip
                    refine ov_blk (ls2 := [(0, ov_r 58), (1, ov_i rule), (2, ov_i c), (3, ov_i ow), (4, ov_i nw), (5, ov_i x5), (6, ov_i (x6 + 1)), (7, ov_i (h11 68 x6))]) (st2 := []) (pc2 := 194) b_138_191_1 rfl rfl ?_
                    refine ov_goto (tgt := 35) d_138_194 (by decide) ?_
                    refine ov_sub (ls2 := [(0, ov_r 58), (1, ov_i rule), (2, ov_i c), (3, ov_i ow), (4, ov_i nw), (5, ov_i x5), (6, ov_i (x6 + 1))]) (List.Sublist.subset (by repeat (first | exact List.Sublist.refl _ | apply List.Sublist.cons_cons | apply List.Sublist.cons))) ?_
                    exact ih7 x5 (x6 + 1) _ _ I12 (by show 0 ≤ x5 ∧ x5 ≤ 64 ∧ 0 ≤ (x6 + 1) ∧ (x6 + 1) ≤ 1000 ∧ 0 ≤ rule ∧ rule ≤ 3 ∧ (h11 36 7) = (h 36 7) ∧ (h11 1 1) = (h 1 1) ∧ (h11 90 2) = (h 90 2) ∧ (h11 0 10) = (h 0 10) ∧ (h11 0 11) = (h 0 11) ∧ (h11 0 12) = (h 0 12) ∧ (h11 0 13) = (h 0 13) ∧ (h11 3 1) = (h 3 1) ∧ (h11 36 8) = (h 36 8) ∧ (h11 46 3) = (h 46 3) ∧ (h11 46 4) = (h 46 4) ∧ (h11 49 4) = (h 49 4) ∧ (h11 49 5) = (h 49 5) ∧ (h11 64 0) = (h 64 0) ∧ (h11 76 0) = (h 76 0); omega) (by omega)
                  · skip
                    refine ov_blk (ls2 := [(0, ov_r 58), (1, ov_i rule), (2, ov_i c), (3, ov_i ow), (4, ov_i nw), (5, ov_i (x5 + (-1))), (6, ov_i x6), (7, ov_i (h11 68 x6))]) (st2 := [ov_r 58]) (pc2 := 162) b_138_158_2 rfl rfl ?_
                    refine ov_getf (v := ov_r 69) d_138_162 fl_Town_43 (zb_58 I12) (zs_58 I12) (congrArg ov_r (rg_58_17 I12)) ?_
                    refine ov_blk (ls2 := [(0, ov_r 58), (1, ov_i rule), (2, ov_i c), (3, ov_i ow), (4, ov_i nw), (5, ov_i (x5 + (-1))), (6, ov_i x6), (7, ov_i (h11 68 x6))]) (st2 := [ov_r 58, ov_i (h11 68 x6), ov_i ((x5 + (-1)) - 1), ov_r 69]) (pc2 := 172) b_138_165_5 rfl rfl ?_
                    refine ov_getf (v := ov_r 69) d_138_172 fl_Town_43 (zb_58 I12) (zs_58 I12) (congrArg ov_r (rg_58_17 I12)) ?_
                    refine ov_blk (ls2 := [(0, ov_r 58), (1, ov_i rule), (2, ov_i c), (3, ov_i ow), (4, ov_i nw), (5, ov_i (x5 + (-1))), (6, ov_i x6), (7, ov_i (h11 68 x6))]) (st2 := [ov_i ((x5 + (-1)) - 1), ov_r 69, ov_i (h11 68 x6), ov_i ((x5 + (-1)) - 1), ov_r 69]) (pc2 := 179) b_138_175_3 rfl rfl ?_
                    refine ov_iald d_138_179 (zb_69 I12) (zs_69 I12) (by omega) ?_
                    have g22 := ra_69 I12 ((x5 + (-1)) - 1)
                    refine ov_blk (ls2 := [(0, ov_r 58), (1, ov_i rule), (2, ov_i c), (3, ov_i ow), (4, ov_i nw), (5, ov_i (x5 + (-1))), (6, ov_i x6), (7, ov_i (h11 68 x6))]) (st2 := [ov_r 58, ov_i (h11 69 ((x5 + (-1)) - 1)), ov_i (h11 68 x6), ov_i ((x5 + (-1)) - 1), ov_r 69]) (pc2 := 181) b_138_180_1 rfl rfl ?_
                    refine ov_getf (v := ov_r 69) d_138_181 fl_Town_43 (zb_58 I12) (zs_58 I12) (congrArg ov_r (rg_58_17 I12)) ?_
                    refine ov_blk (ls2 := [(0, ov_r 58), (1, ov_i rule), (2, ov_i c), (3, ov_i ow), (4, ov_i nw), (5, ov_i (x5 + (-1))), (6, ov_i x6), (7, ov_i (h11 68 x6))]) (st2 := [ov_i (x5 + (-1)), ov_r 69, ov_i (h11 69 ((x5 + (-1)) - 1)), ov_i (h11 68 x6), ov_i ((x5 + (-1)) - 1), ov_r 69]) (pc2 := 186) b_138_184_1 rfl rfl ?_
                    refine ov_iald d_138_186 (zb_69 I12) (zs_69 I12) (by omega) ?_
                    have g23 := ra_69 I12 (x5 + (-1))
                    refine ov_cS (as := [ov_i (h11 68 x6), ov_i (h11 69 ((x5 + (-1)) - 1)), ov_i (h11 69 (x5 + (-1)))]) (st := [ov_i ((x5 + (-1)) - 1), ov_r 69]) (d2 := d - 1) d_138_187 lk_Town_109 rfl (Nat.le_of_ble_eq_true rfl) (by omega) (c_Town_joined (d - 1) (by omega) U I12 (h11 68 x6) (h11 69 ((x5 + (-1)) - 1)) (h11 69 (x5 + (-1))) (by omega) (by omega) (by omega)) ?_
                    rintro _ _ _ ⟨v25, rfl, rfl, rfl, f24⟩
                    show ov_R u d ov_m138 190 [(0, ov_r 58), (1, ov_i rule), (2, ov_i c), (3, ov_i ow), (4, ov_i nw), (5, ov_i (x5 + (-1))), (6, ov_i x6), (7, ov_i (h11 68 x6))] [ov_i v25, ov_i ((x5 + (-1)) - 1), ov_r 69] z10 h11 (P_Town_ruleSaysOver_58 F z h rule c ow nw)
                    have f26 : -2147483648 ≤ v25 ∧ v25 ≤ 2147483647 := f24
                    clear f24
                    refine ov_iast d_138_190 (zb_69 I12) (zs_69 I12) (by omega) ?_
                    have I27 := ua_69 (k := ((x5 + (-1)) - 1)) (x := v25) I12 (by omega) (hw 69 (by decide +kernel))
                    refine ov_blk (ls2 := [(0, ov_r 58), (1, ov_i rule), (2, ov_i c), (3, ov_i ow), (4, ov_i nw), (5, ov_i (x5 + (-1))), (6, ov_i (x6 + 1)), (7, ov_i (h11 68 x6))]) (st2 := []) (pc2 := 194) b_138_191_1 rfl rfl ?_
                    refine ov_goto (tgt := 35) d_138_194 (by decide) ?_
                    refine ov_sub (ls2 := [(0, ov_r 58), (1, ov_i rule), (2, ov_i c), (3, ov_i ow), (4, ov_i nw), (5, ov_i (x5 + (-1))), (6, ov_i (x6 + 1))]) (List.Sublist.subset (by repeat (first | exact List.Sublist.refl _ | apply List.Sublist.cons_cons | apply List.Sublist.cons))) ?_
                    exact ih7 (x5 + (-1)) (x6 + 1) _ _ I27 (by show 0 ≤ (x5 + (-1)) ∧ (x5 + (-1)) ≤ 64 ∧ 0 ≤ (x6 + 1) ∧ (x6 + 1) ≤ 1000 ∧ 0 ≤ rule ∧ rule ≤ 3 ∧ (h11 36 7) = (h 36 7) ∧ (h11 1 1) = (h 1 1) ∧ (h11 90 2) = (h 90 2) ∧ (h11 0 10) = (h 0 10) ∧ (h11 0 11) = (h 0 11) ∧ (h11 0 12) = (h 0 12) ∧ (h11 0 13) = (h 0 13) ∧ (h11 3 1) = (h 3 1) ∧ (h11 36 8) = (h 36 8) ∧ (h11 46 3) = (h 46 3) ∧ (h11 46 4) = (h 46 4) ∧ (h11 49 4) = (h 49 4) ∧ (h11 49 5) = (h 49 5) ∧ (h11 64 0) = (h 64 0) ∧ (h11 76 0) = (h 76 0); omega) (by omega)
                · skip
                  refine ov_blk (ls2 := [(0, ov_r 58), (1, ov_i rule), (2, ov_i c), (3, ov_i ow), (4, ov_i nw), (5, ov_i x5), (6, ov_i x6), (7, ov_i (h11 68 x6))]) (st2 := [ov_i 64, ov_i x5]) (pc2 := 106) b_138_102_2 rfl rfl ?_
                  refine ov_icge (tgt := 152) d_138_106 (by decide) (by omega) (by omega) (fun c28 => ?_) (fun c28 => ?_)
                  · skip
                    refine ov_blk (ls2 := [(0, ov_r 58), (1, ov_i rule), (2, ov_i c), (3, ov_i ow), (4, ov_i nw), (5, ov_i x5), (6, ov_i x6), (7, ov_i (h11 68 x6))]) (st2 := [ov_i 2, ov_i x5]) (pc2 := 155) b_138_152_2 rfl rfl ?_
                    refine ov_iclt (tgt := 191) d_138_155 (by decide) (by omega) (by omega) (fun c29 => ?_) (fun c29 => ?_)
                    · skip
                      refine ov_blk (ls2 := [(0, ov_r 58), (1, ov_i rule), (2, ov_i c), (3, ov_i ow), (4, ov_i nw), (5, ov_i x5), (6, ov_i (x6 + 1)), (7, ov_i (h11 68 x6))]) (st2 := []) (pc2 := 194) b_138_191_1 rfl rfl ?_
                      refine ov_goto (tgt := 35) d_138_194 (by decide) ?_
                      refine ov_sub (ls2 := [(0, ov_r 58), (1, ov_i rule), (2, ov_i c), (3, ov_i ow), (4, ov_i nw), (5, ov_i x5), (6, ov_i (x6 + 1))]) (List.Sublist.subset (by repeat (first | exact List.Sublist.refl _ | apply List.Sublist.cons_cons | apply List.Sublist.cons))) ?_
                      exact ih7 x5 (x6 + 1) _ _ I12 (by show 0 ≤ x5 ∧ x5 ≤ 64 ∧ 0 ≤ (x6 + 1) ∧ (x6 + 1) ≤ 1000 ∧ 0 ≤ rule ∧ rule ≤ 3 ∧ (h11 36 7) = (h 36 7) ∧ (h11 1 1) = (h 1 1) ∧ (h11 90 2) = (h 90 2) ∧ (h11 0 10) = (h 0 10) ∧ (h11 0 11) = (h 0 11) ∧ (h11 0 12) = (h 0 12) ∧ (h11 0 13) = (h 0 13) ∧ (h11 3 1) = (h 3 1) ∧ (h11 36 8) = (h 36 8) ∧ (h11 46 3) = (h 46 3) ∧ (h11 46 4) = (h 46 4) ∧ (h11 49 4) = (h 49 4) ∧ (h11 49 5) = (h 49 5) ∧ (h11 64 0) = (h 64 0) ∧ (h11 76 0) = (h 76 0); omega) (by omega)
                    · skip
                      refine ov_blk (ls2 := [(0, ov_r 58), (1, ov_i rule), (2, ov_i c), (3, ov_i ow), (4, ov_i nw), (5, ov_i (x5 + (-1))), (6, ov_i x6), (7, ov_i (h11 68 x6))]) (st2 := [ov_r 58]) (pc2 := 162) b_138_158_2 rfl rfl ?_
                      refine ov_getf (v := ov_r 69) d_138_162 fl_Town_43 (zb_58 I12) (zs_58 I12) (congrArg ov_r (rg_58_17 I12)) ?_
                      refine ov_blk (ls2 := [(0, ov_r 58), (1, ov_i rule), (2, ov_i c), (3, ov_i ow), (4, ov_i nw), (5, ov_i (x5 + (-1))), (6, ov_i x6), (7, ov_i (h11 68 x6))]) (st2 := [ov_r 58, ov_i (h11 68 x6), ov_i ((x5 + (-1)) - 1), ov_r 69]) (pc2 := 172) b_138_165_5 rfl rfl ?_
                      refine ov_getf (v := ov_r 69) d_138_172 fl_Town_43 (zb_58 I12) (zs_58 I12) (congrArg ov_r (rg_58_17 I12)) ?_
                      refine ov_blk (ls2 := [(0, ov_r 58), (1, ov_i rule), (2, ov_i c), (3, ov_i ow), (4, ov_i nw), (5, ov_i (x5 + (-1))), (6, ov_i x6), (7, ov_i (h11 68 x6))]) (st2 := [ov_i ((x5 + (-1)) - 1), ov_r 69, ov_i (h11 68 x6), ov_i ((x5 + (-1)) - 1), ov_r 69]) (pc2 := 179) b_138_175_3 rfl rfl ?_
                      refine ov_iald d_138_179 (zb_69 I12) (zs_69 I12) (by omega) ?_
                      have g30 := ra_69 I12 ((x5 + (-1)) - 1)
                      refine ov_blk (ls2 := [(0, ov_r 58), (1, ov_i rule), (2, ov_i c), (3, ov_i ow), (4, ov_i nw), (5, ov_i (x5 + (-1))), (6, ov_i x6), (7, ov_i (h11 68 x6))]) (st2 := [ov_r 58, ov_i (h11 69 ((x5 + (-1)) - 1)), ov_i (h11 68 x6), ov_i ((x5 + (-1)) - 1), ov_r 69]) (pc2 := 181) b_138_180_1 rfl rfl ?_
                      refine ov_getf (v := ov_r 69) d_138_181 fl_Town_43 (zb_58 I12) (zs_58 I12) (congrArg ov_r (rg_58_17 I12)) ?_
                      refine ov_blk (ls2 := [(0, ov_r 58), (1, ov_i rule), (2, ov_i c), (3, ov_i ow), (4, ov_i nw), (5, ov_i (x5 + (-1))), (6, ov_i x6), (7, ov_i (h11 68 x6))]) (st2 := [ov_i (x5 + (-1)), ov_r 69, ov_i (h11 69 ((x5 + (-1)) - 1)), ov_i (h11 68 x6), ov_i ((x5 + (-1)) - 1), ov_r 69]) (pc2 := 186) b_138_184_1 rfl rfl ?_
                      refine ov_iald d_138_186 (zb_69 I12) (zs_69 I12) (by omega) ?_
                      have g31 := ra_69 I12 (x5 + (-1))
                      refine ov_cS (as := [ov_i (h11 68 x6), ov_i (h11 69 ((x5 + (-1)) - 1)), ov_i (h11 69 (x5 + (-1)))]) (st := [ov_i ((x5 + (-1)) - 1), ov_r 69]) (d2 := d - 1) d_138_187 lk_Town_109 rfl (Nat.le_of_ble_eq_true rfl) (by omega) (c_Town_joined (d - 1) (by omega) U I12 (h11 68 x6) (h11 69 ((x5 + (-1)) - 1)) (h11 69 (x5 + (-1))) (by omega) (by omega) (by omega)) ?_
                      rintro _ _ _ ⟨v33, rfl, rfl, rfl, f32⟩
                      show ov_R u d ov_m138 190 [(0, ov_r 58), (1, ov_i rule), (2, ov_i c), (3, ov_i ow), (4, ov_i nw), (5, ov_i (x5 + (-1))), (6, ov_i x6), (7, ov_i (h11 68 x6))] [ov_i v33, ov_i ((x5 + (-1)) - 1), ov_r 69] z10 h11 (P_Town_ruleSaysOver_58 F z h rule c ow nw)
                      have f34 : -2147483648 ≤ v33 ∧ v33 ≤ 2147483647 := f32
                      clear f32
                      refine ov_iast d_138_190 (zb_69 I12) (zs_69 I12) (by omega) ?_
                      have I35 := ua_69 (k := ((x5 + (-1)) - 1)) (x := v33) I12 (by omega) (hw 69 (by decide +kernel))
                      refine ov_blk (ls2 := [(0, ov_r 58), (1, ov_i rule), (2, ov_i c), (3, ov_i ow), (4, ov_i nw), (5, ov_i (x5 + (-1))), (6, ov_i (x6 + 1)), (7, ov_i (h11 68 x6))]) (st2 := []) (pc2 := 194) b_138_191_1 rfl rfl ?_
                      refine ov_goto (tgt := 35) d_138_194 (by decide) ?_
                      refine ov_sub (ls2 := [(0, ov_r 58), (1, ov_i rule), (2, ov_i c), (3, ov_i ow), (4, ov_i nw), (5, ov_i (x5 + (-1))), (6, ov_i (x6 + 1))]) (List.Sublist.subset (by repeat (first | exact List.Sublist.refl _ | apply List.Sublist.cons_cons | apply List.Sublist.cons))) ?_
                      exact ih7 (x5 + (-1)) (x6 + 1) _ _ I35 (by show 0 ≤ (x5 + (-1)) ∧ (x5 + (-1)) ≤ 64 ∧ 0 ≤ (x6 + 1) ∧ (x6 + 1) ≤ 1000 ∧ 0 ≤ rule ∧ rule ≤ 3 ∧ (h11 36 7) = (h 36 7) ∧ (h11 1 1) = (h 1 1) ∧ (h11 90 2) = (h 90 2) ∧ (h11 0 10) = (h 0 10) ∧ (h11 0 11) = (h 0 11) ∧ (h11 0 12) = (h 0 12) ∧ (h11 0 13) = (h 0 13) ∧ (h11 3 1) = (h 3 1) ∧ (h11 36 8) = (h 36 8) ∧ (h11 46 3) = (h 46 3) ∧ (h11 46 4) = (h 46 4) ∧ (h11 49 4) = (h 49 4) ∧ (h11 49 5) = (h 49 5) ∧ (h11 64 0) = (h 64 0) ∧ (h11 76 0) = (h 76 0); omega) (by omega)
                  · skip
                    refine ov_blk (ls2 := [(0, ov_r 58), (1, ov_i rule), (2, ov_i c), (3, ov_i ow), (4, ov_i nw), (5, ov_i x5), (6, ov_i x6), (7, ov_i (h11 68 x6))]) (st2 := [ov_r 58]) (pc2 := 110) b_138_109_1 rfl rfl ?_
                    refine ov_getf (v := ov_r 69) d_138_110 fl_Town_43 (zb_58 I12) (zs_58 I12) (congrArg ov_r (rg_58_17 I12)) ?_
                    refine ov_blk (ls2 := [(0, ov_r 58), (1, ov_i rule), (2, ov_i c), (3, ov_i ow), (4, ov_i nw), (5, ov_i x5), (6, ov_i x6), (7, ov_i (h11 68 x6))]) (st2 := [ov_i 8, ov_i (h11 68 x6), ov_i x5, ov_r 69]) (pc2 := 119) b_138_113_3 rfl rfl ?_
                    refine ov_icne (tgt := 126) d_138_119 (by decide) (by omega) (by omega) (fun c36 => ?_) (fun c36 => ?_)
                    · skip
                      refine ov_blk (ls2 := [(0, ov_r 58), (1, ov_i rule), (2, ov_i c), (3, ov_i ow), (4, ov_i nw), (5, ov_i x5), (6, ov_i x6), (7, ov_i (h11 68 x6))]) (st2 := [ov_i 9, ov_i (h11 68 x6), ov_i x5, ov_r 69]) (pc2 := 130) b_138_126_2 rfl rfl ?_
                      refine ov_icne (tgt := 138) d_138_130 (by decide) (by omega) (by omega) (fun c37 => ?_) (fun c37 => ?_)
                      · skip
                        refine ov_blk (ls2 := [(0, ov_r 58), (1, ov_i rule), (2, ov_i c), (3, ov_i ow), (4, ov_i nw), (5, ov_i x5), (6, ov_i x6), (7, ov_i (h11 68 x6))]) (st2 := [ov_i c, ov_i (h11 68 x6), ov_r 58, ov_i x5, ov_r 69]) (pc2 := 142) b_138_138_3 rfl rfl ?_
                        refine ov_cV (as := [ov_i (h11 68 x6), ov_i c]) (st := [ov_i x5, ov_r 69]) (d2 := d - 1) d_138_142 lk_Town_106 rfl (Nat.le_of_ble_eq_true rfl) (c := 9) (zb_58 I12) (zs_58 I12) ⟨by decide, rfl⟩ (by omega) (c_Town_placeOrNumber_58 (d - 1) (by omega) U I12 (h11 68 x6) c (by omega) (by omega) (by omega) (by omega)) ?_
                        rintro _ _ _ ⟨v39, rfl, rfl, rfl, f38⟩
                        show ov_R u d ov_m138 145 [(0, ov_r 58), (1, ov_i rule), (2, ov_i c), (3, ov_i ow), (4, ov_i nw), (5, ov_i x5), (6, ov_i x6), (7, ov_i (h11 68 x6))] [ov_i v39, ov_i x5, ov_r 69] z10 h11 (P_Town_ruleSaysOver_58 F z h rule c ow nw)
                        have f40 : -2147483648 ≤ v39 ∧ v39 ≤ 2147483647 := f38
                        clear f38
                        refine ov_iast d_138_145 (zb_69 I12) (zs_69 I12) (by omega) ?_
                        have I41 := ua_69 (k := x5) (x := v39) I12 (by omega) (hw 69 (by decide +kernel))
                        refine ov_blk (ls2 := [(0, ov_r 58), (1, ov_i rule), (2, ov_i c), (3, ov_i ow), (4, ov_i nw), (5, ov_i (x5 + 1)), (6, ov_i x6), (7, ov_i (h11 68 x6))]) (st2 := []) (pc2 := 149) b_138_146_1 rfl rfl ?_
                        refine ov_goto (tgt := 191) d_138_149 (by decide) ?_
                        refine ov_blk (ls2 := [(0, ov_r 58), (1, ov_i rule), (2, ov_i c), (3, ov_i ow), (4, ov_i nw), (5, ov_i (x5 + 1)), (6, ov_i (x6 + 1)), (7, ov_i (h11 68 x6))]) (st2 := []) (pc2 := 194) b_138_191_1 rfl rfl ?_
                        refine ov_goto (tgt := 35) d_138_194 (by decide) ?_
                        refine ov_sub (ls2 := [(0, ov_r 58), (1, ov_i rule), (2, ov_i c), (3, ov_i ow), (4, ov_i nw), (5, ov_i (x5 + 1)), (6, ov_i (x6 + 1))]) (List.Sublist.subset (by repeat (first | exact List.Sublist.refl _ | apply List.Sublist.cons_cons | apply List.Sublist.cons))) ?_
                        exact ih7 (x5 + 1) (x6 + 1) _ _ I41 (by show 0 ≤ (x5 + 1) ∧ (x5 + 1) ≤ 64 ∧ 0 ≤ (x6 + 1) ∧ (x6 + 1) ≤ 1000 ∧ 0 ≤ rule ∧ rule ≤ 3 ∧ (h11 36 7) = (h 36 7) ∧ (h11 1 1) = (h 1 1) ∧ (h11 90 2) = (h 90 2) ∧ (h11 0 10) = (h 0 10) ∧ (h11 0 11) = (h 0 11) ∧ (h11 0 12) = (h 0 12) ∧ (h11 0 13) = (h 0 13) ∧ (h11 3 1) = (h 3 1) ∧ (h11 36 8) = (h 36 8) ∧ (h11 46 3) = (h 46 3) ∧ (h11 46 4) = (h 46 4) ∧ (h11 49 4) = (h 49 4) ∧ (h11 49 5) = (h 49 5) ∧ (h11 64 0) = (h 64 0) ∧ (h11 76 0) = (h 76 0); omega) (by omega)
                      · skip
                        refine ov_blk (ls2 := [(0, ov_r 58), (1, ov_i rule), (2, ov_i c), (3, ov_i ow), (4, ov_i nw), (5, ov_i x5), (6, ov_i x6), (7, ov_i (h11 68 x6))]) (st2 := [ov_i nw, ov_i x5, ov_r 69]) (pc2 := 135) b_138_133_1 rfl rfl ?_
                        refine ov_goto (tgt := 145) d_138_135 (by decide) ?_
                        refine ov_iast d_138_145 (zb_69 I12) (zs_69 I12) (by omega) ?_
                        have I42 := ua_69 (k := x5) (x := nw) I12 (by omega) (hw 69 (by decide +kernel))
                        refine ov_blk (ls2 := [(0, ov_r 58), (1, ov_i rule), (2, ov_i c), (3, ov_i ow), (4, ov_i nw), (5, ov_i (x5 + 1)), (6, ov_i x6), (7, ov_i (h11 68 x6))]) (st2 := []) (pc2 := 149) b_138_146_1 rfl rfl ?_
                        refine ov_goto (tgt := 191) d_138_149 (by decide) ?_
                        refine ov_blk (ls2 := [(0, ov_r 58), (1, ov_i rule), (2, ov_i c), (3, ov_i ow), (4, ov_i nw), (5, ov_i (x5 + 1)), (6, ov_i (x6 + 1)), (7, ov_i (h11 68 x6))]) (st2 := []) (pc2 := 194) b_138_191_1 rfl rfl ?_
                        refine ov_goto (tgt := 35) d_138_194 (by decide) ?_
                        refine ov_sub (ls2 := [(0, ov_r 58), (1, ov_i rule), (2, ov_i c), (3, ov_i ow), (4, ov_i nw), (5, ov_i (x5 + 1)), (6, ov_i (x6 + 1))]) (List.Sublist.subset (by repeat (first | exact List.Sublist.refl _ | apply List.Sublist.cons_cons | apply List.Sublist.cons))) ?_
                        exact ih7 (x5 + 1) (x6 + 1) _ _ I42 (by show 0 ≤ (x5 + 1) ∧ (x5 + 1) ≤ 64 ∧ 0 ≤ (x6 + 1) ∧ (x6 + 1) ≤ 1000 ∧ 0 ≤ rule ∧ rule ≤ 3 ∧ (h11 36 7) = (h 36 7) ∧ (h11 1 1) = (h 1 1) ∧ (h11 90 2) = (h 90 2) ∧ (h11 0 10) = (h 0 10) ∧ (h11 0 11) = (h 0 11) ∧ (h11 0 12) = (h 0 12) ∧ (h11 0 13) = (h 0 13) ∧ (h11 3 1) = (h 3 1) ∧ (h11 36 8) = (h 36 8) ∧ (h11 46 3) = (h 46 3) ∧ (h11 46 4) = (h 46 4) ∧ (h11 49 4) = (h 49 4) ∧ (h11 49 5) = (h 49 5) ∧ (h11 64 0) = (h 64 0) ∧ (h11 76 0) = (h 76 0); omega) (by omega)
                    · skip
                      refine ov_blk (ls2 := [(0, ov_r 58), (1, ov_i rule), (2, ov_i c), (3, ov_i ow), (4, ov_i nw), (5, ov_i x5), (6, ov_i x6), (7, ov_i (h11 68 x6))]) (st2 := [ov_i ow, ov_i x5, ov_r 69]) (pc2 := 123) b_138_122_1 rfl rfl ?_
                      refine ov_goto (tgt := 145) d_138_123 (by decide) ?_
                      refine ov_iast d_138_145 (zb_69 I12) (zs_69 I12) (by omega) ?_
                      have I43 := ua_69 (k := x5) (x := ow) I12 (by omega) (hw 69 (by decide +kernel))
                      refine ov_blk (ls2 := [(0, ov_r 58), (1, ov_i rule), (2, ov_i c), (3, ov_i ow), (4, ov_i nw), (5, ov_i (x5 + 1)), (6, ov_i x6), (7, ov_i (h11 68 x6))]) (st2 := []) (pc2 := 149) b_138_146_1 rfl rfl ?_
                      refine ov_goto (tgt := 191) d_138_149 (by decide) ?_
                      refine ov_blk (ls2 := [(0, ov_r 58), (1, ov_i rule), (2, ov_i c), (3, ov_i ow), (4, ov_i nw), (5, ov_i (x5 + 1)), (6, ov_i (x6 + 1)), (7, ov_i (h11 68 x6))]) (st2 := []) (pc2 := 194) b_138_191_1 rfl rfl ?_
                      refine ov_goto (tgt := 35) d_138_194 (by decide) ?_
                      refine ov_sub (ls2 := [(0, ov_r 58), (1, ov_i rule), (2, ov_i c), (3, ov_i ow), (4, ov_i nw), (5, ov_i (x5 + 1)), (6, ov_i (x6 + 1))]) (List.Sublist.subset (by repeat (first | exact List.Sublist.refl _ | apply List.Sublist.cons_cons | apply List.Sublist.cons))) ?_
                      exact ih7 (x5 + 1) (x6 + 1) _ _ I43 (by show 0 ≤ (x5 + 1) ∧ (x5 + 1) ≤ 64 ∧ 0 ≤ (x6 + 1) ∧ (x6 + 1) ≤ 1000 ∧ 0 ≤ rule ∧ rule ≤ 3 ∧ (h11 36 7) = (h 36 7) ∧ (h11 1 1) = (h 1 1) ∧ (h11 90 2) = (h 90 2) ∧ (h11 0 10) = (h 0 10) ∧ (h11 0 11) = (h 0 11) ∧ (h11 0 12) = (h 0 12) ∧ (h11 0 13) = (h 0 13) ∧ (h11 3 1) = (h 3 1) ∧ (h11 36 8) = (h 36 8) ∧ (h11 46 3) = (h 46 3) ∧ (h11 46 4) = (h 46 4) ∧ (h11 49 4) = (h 49 4) ∧ (h11 49 5) = (h 49 5) ∧ (h11 64 0) = (h 64 0) ∧ (h11 76 0) = (h 76 0); omega) (by omega)
              · skip
                refine ov_blk (ls2 := [(0, ov_r 58), (1, ov_i rule), (2, ov_i c), (3, ov_i ow), (4, ov_i nw), (5, ov_i x5), (6, ov_i x6), (7, ov_i (h11 68 x6))]) (st2 := [ov_i 1, ov_i x5]) (pc2 := 63) b_138_60_2 rfl rfl ?_
                refine ov_iclt (tgt := 95) d_138_63 (by decide) (by omega) (by omega) (fun c44 => ?_) (fun c44 => ?_)
                · skip
                  refine ov_blk (ls2 := [(0, ov_r 58), (1, ov_i rule), (2, ov_i c), (3, ov_i ow), (4, ov_i nw), (5, ov_i x5), (6, ov_i x6), (7, ov_i (h11 68 x6))]) (st2 := [ov_i 8, ov_i (h11 68 x6)]) (pc2 := 99) b_138_95_2 rfl rfl ?_
                  refine ov_iclt (tgt := 152) d_138_99 (by decide) (by omega) (by omega) (fun c45 => ?_) (fun c45 => ?_)
                  · skip
                    refine ov_blk (ls2 := [(0, ov_r 58), (1, ov_i rule), (2, ov_i c), (3, ov_i ow), (4, ov_i nw), (5, ov_i x5), (6, ov_i x6), (7, ov_i (h11 68 x6))]) (st2 := [ov_i 2, ov_i x5]) (pc2 := 155) b_138_152_2 rfl rfl ?_
                    refine ov_iclt (tgt := 191) d_138_155 (by decide) (by omega) (by omega) (fun c46 => ?_) (fun c46 => ?_)
                    · skip
                      refine ov_blk (ls2 := [(0, ov_r 58), (1, ov_i rule), (2, ov_i c), (3, ov_i ow), (4, ov_i nw), (5, ov_i x5), (6, ov_i (x6 + 1)), (7, ov_i (h11 68 x6))]) (st2 := []) (pc2 := 194) b_138_191_1 rfl rfl ?_
                      refine ov_goto (tgt := 35) d_138_194 (by decide) ?_
                      refine ov_sub (ls2 := [(0, ov_r 58), (1, ov_i rule), (2, ov_i c), (3, ov_i ow), (4, ov_i nw), (5, ov_i x5), (6, ov_i (x6 + 1))]) (List.Sublist.subset (by repeat (first | exact List.Sublist.refl _ | apply List.Sublist.cons_cons | apply List.Sublist.cons))) ?_
                      exact ih7 x5 (x6 + 1) _ _ I12 (by show 0 ≤ x5 ∧ x5 ≤ 64 ∧ 0 ≤ (x6 + 1) ∧ (x6 + 1) ≤ 1000 ∧ 0 ≤ rule ∧ rule ≤ 3 ∧ (h11 36 7) = (h 36 7) ∧ (h11 1 1) = (h 1 1) ∧ (h11 90 2) = (h 90 2) ∧ (h11 0 10) = (h 0 10) ∧ (h11 0 11) = (h 0 11) ∧ (h11 0 12) = (h 0 12) ∧ (h11 0 13) = (h 0 13) ∧ (h11 3 1) = (h 3 1) ∧ (h11 36 8) = (h 36 8) ∧ (h11 46 3) = (h 46 3) ∧ (h11 46 4) = (h 46 4) ∧ (h11 49 4) = (h 49 4) ∧ (h11 49 5) = (h 49 5) ∧ (h11 64 0) = (h 64 0) ∧ (h11 76 0) = (h 76 0); omega) (by omega)
                    · skip
                      refine ov_blk (ls2 := [(0, ov_r 58), (1, ov_i rule), (2, ov_i c), (3, ov_i ow), (4, ov_i nw), (5, ov_i (x5 + (-1))), (6, ov_i x6), (7, ov_i (h11 68 x6))]) (st2 := [ov_r 58]) (pc2 := 162) b_138_158_2 rfl rfl ?_
                      refine ov_getf (v := ov_r 69) d_138_162 fl_Town_43 (zb_58 I12) (zs_58 I12) (congrArg ov_r (rg_58_17 I12)) ?_
                      refine ov_blk (ls2 := [(0, ov_r 58), (1, ov_i rule), (2, ov_i c), (3, ov_i ow), (4, ov_i nw), (5, ov_i (x5 + (-1))), (6, ov_i x6), (7, ov_i (h11 68 x6))]) (st2 := [ov_r 58, ov_i (h11 68 x6), ov_i ((x5 + (-1)) - 1), ov_r 69]) (pc2 := 172) b_138_165_5 rfl rfl ?_
                      refine ov_getf (v := ov_r 69) d_138_172 fl_Town_43 (zb_58 I12) (zs_58 I12) (congrArg ov_r (rg_58_17 I12)) ?_
                      refine ov_blk (ls2 := [(0, ov_r 58), (1, ov_i rule), (2, ov_i c), (3, ov_i ow), (4, ov_i nw), (5, ov_i (x5 + (-1))), (6, ov_i x6), (7, ov_i (h11 68 x6))]) (st2 := [ov_i ((x5 + (-1)) - 1), ov_r 69, ov_i (h11 68 x6), ov_i ((x5 + (-1)) - 1), ov_r 69]) (pc2 := 179) b_138_175_3 rfl rfl ?_
                      refine ov_iald d_138_179 (zb_69 I12) (zs_69 I12) (by omega) ?_
                      have g47 := ra_69 I12 ((x5 + (-1)) - 1)
                      refine ov_blk (ls2 := [(0, ov_r 58), (1, ov_i rule), (2, ov_i c), (3, ov_i ow), (4, ov_i nw), (5, ov_i (x5 + (-1))), (6, ov_i x6), (7, ov_i (h11 68 x6))]) (st2 := [ov_r 58, ov_i (h11 69 ((x5 + (-1)) - 1)), ov_i (h11 68 x6), ov_i ((x5 + (-1)) - 1), ov_r 69]) (pc2 := 181) b_138_180_1 rfl rfl ?_
                      refine ov_getf (v := ov_r 69) d_138_181 fl_Town_43 (zb_58 I12) (zs_58 I12) (congrArg ov_r (rg_58_17 I12)) ?_
                      refine ov_blk (ls2 := [(0, ov_r 58), (1, ov_i rule), (2, ov_i c), (3, ov_i ow), (4, ov_i nw), (5, ov_i (x5 + (-1))), (6, ov_i x6), (7, ov_i (h11 68 x6))]) (st2 := [ov_i (x5 + (-1)), ov_r 69, ov_i (h11 69 ((x5 + (-1)) - 1)), ov_i (h11 68 x6), ov_i ((x5 + (-1)) - 1), ov_r 69]) (pc2 := 186) b_138_184_1 rfl rfl ?_
                      refine ov_iald d_138_186 (zb_69 I12) (zs_69 I12) (by omega) ?_
                      have g48 := ra_69 I12 (x5 + (-1))
                      refine ov_cS (as := [ov_i (h11 68 x6), ov_i (h11 69 ((x5 + (-1)) - 1)), ov_i (h11 69 (x5 + (-1)))]) (st := [ov_i ((x5 + (-1)) - 1), ov_r 69]) (d2 := d - 1) d_138_187 lk_Town_109 rfl (Nat.le_of_ble_eq_true rfl) (by omega) (c_Town_joined (d - 1) (by omega) U I12 (h11 68 x6) (h11 69 ((x5 + (-1)) - 1)) (h11 69 (x5 + (-1))) (by omega) (by omega) (by omega)) ?_
                      rintro _ _ _ ⟨v50, rfl, rfl, rfl, f49⟩
                      show ov_R u d ov_m138 190 [(0, ov_r 58), (1, ov_i rule), (2, ov_i c), (3, ov_i ow), (4, ov_i nw), (5, ov_i (x5 + (-1))), (6, ov_i x6), (7, ov_i (h11 68 x6))] [ov_i v50, ov_i ((x5 + (-1)) - 1), ov_r 69] z10 h11 (P_Town_ruleSaysOver_58 F z h rule c ow nw)
                      have f51 : -2147483648 ≤ v50 ∧ v50 ≤ 2147483647 := f49
                      clear f49
                      refine ov_iast d_138_190 (zb_69 I12) (zs_69 I12) (by omega) ?_
                      have I52 := ua_69 (k := ((x5 + (-1)) - 1)) (x := v50) I12 (by omega) (hw 69 (by decide +kernel))
                      refine ov_blk (ls2 := [(0, ov_r 58), (1, ov_i rule), (2, ov_i c), (3, ov_i ow), (4, ov_i nw), (5, ov_i (x5 + (-1))), (6, ov_i (x6 + 1)), (7, ov_i (h11 68 x6))]) (st2 := []) (pc2 := 194) b_138_191_1 rfl rfl ?_
                      refine ov_goto (tgt := 35) d_138_194 (by decide) ?_
                      refine ov_sub (ls2 := [(0, ov_r 58), (1, ov_i rule), (2, ov_i c), (3, ov_i ow), (4, ov_i nw), (5, ov_i (x5 + (-1))), (6, ov_i (x6 + 1))]) (List.Sublist.subset (by repeat (first | exact List.Sublist.refl _ | apply List.Sublist.cons_cons | apply List.Sublist.cons))) ?_
                      exact ih7 (x5 + (-1)) (x6 + 1) _ _ I52 (by show 0 ≤ (x5 + (-1)) ∧ (x5 + (-1)) ≤ 64 ∧ 0 ≤ (x6 + 1) ∧ (x6 + 1) ≤ 1000 ∧ 0 ≤ rule ∧ rule ≤ 3 ∧ (h11 36 7) = (h 36 7) ∧ (h11 1 1) = (h 1 1) ∧ (h11 90 2) = (h 90 2) ∧ (h11 0 10) = (h 0 10) ∧ (h11 0 11) = (h 0 11) ∧ (h11 0 12) = (h 0 12) ∧ (h11 0 13) = (h 0 13) ∧ (h11 3 1) = (h 3 1) ∧ (h11 36 8) = (h 36 8) ∧ (h11 46 3) = (h 46 3) ∧ (h11 46 4) = (h 46 4) ∧ (h11 49 4) = (h 49 4) ∧ (h11 49 5) = (h 49 5) ∧ (h11 64 0) = (h 64 0) ∧ (h11 76 0) = (h 76 0); omega) (by omega)
                  · skip
                    refine ov_blk (ls2 := [(0, ov_r 58), (1, ov_i rule), (2, ov_i c), (3, ov_i ow), (4, ov_i nw), (5, ov_i x5), (6, ov_i x6), (7, ov_i (h11 68 x6))]) (st2 := [ov_i 64, ov_i x5]) (pc2 := 106) b_138_102_2 rfl rfl ?_
                    refine ov_icge (tgt := 152) d_138_106 (by decide) (by omega) (by omega) (fun c53 => ?_) (fun c53 => ?_)
                    · skip
                      refine ov_blk (ls2 := [(0, ov_r 58), (1, ov_i rule), (2, ov_i c), (3, ov_i ow), (4, ov_i nw), (5, ov_i x5), (6, ov_i x6), (7, ov_i (h11 68 x6))]) (st2 := [ov_i 2, ov_i x5]) (pc2 := 155) b_138_152_2 rfl rfl ?_
                      refine ov_iclt (tgt := 191) d_138_155 (by decide) (by omega) (by omega) (fun c54 => ?_) (fun c54 => ?_)
                      · skip
                        refine ov_blk (ls2 := [(0, ov_r 58), (1, ov_i rule), (2, ov_i c), (3, ov_i ow), (4, ov_i nw), (5, ov_i x5), (6, ov_i (x6 + 1)), (7, ov_i (h11 68 x6))]) (st2 := []) (pc2 := 194) b_138_191_1 rfl rfl ?_
                        refine ov_goto (tgt := 35) d_138_194 (by decide) ?_
                        refine ov_sub (ls2 := [(0, ov_r 58), (1, ov_i rule), (2, ov_i c), (3, ov_i ow), (4, ov_i nw), (5, ov_i x5), (6, ov_i (x6 + 1))]) (List.Sublist.subset (by repeat (first | exact List.Sublist.refl _ | apply List.Sublist.cons_cons | apply List.Sublist.cons))) ?_
                        exact ih7 x5 (x6 + 1) _ _ I12 (by show 0 ≤ x5 ∧ x5 ≤ 64 ∧ 0 ≤ (x6 + 1) ∧ (x6 + 1) ≤ 1000 ∧ 0 ≤ rule ∧ rule ≤ 3 ∧ (h11 36 7) = (h 36 7) ∧ (h11 1 1) = (h 1 1) ∧ (h11 90 2) = (h 90 2) ∧ (h11 0 10) = (h 0 10) ∧ (h11 0 11) = (h 0 11) ∧ (h11 0 12) = (h 0 12) ∧ (h11 0 13) = (h 0 13) ∧ (h11 3 1) = (h 3 1) ∧ (h11 36 8) = (h 36 8) ∧ (h11 46 3) = (h 46 3) ∧ (h11 46 4) = (h 46 4) ∧ (h11 49 4) = (h 49 4) ∧ (h11 49 5) = (h 49 5) ∧ (h11 64 0) = (h 64 0) ∧ (h11 76 0) = (h 76 0); omega) (by omega)
                      · skip
                        refine ov_blk (ls2 := [(0, ov_r 58), (1, ov_i rule), (2, ov_i c), (3, ov_i ow), (4, ov_i nw), (5, ov_i (x5 + (-1))), (6, ov_i x6), (7, ov_i (h11 68 x6))]) (st2 := [ov_r 58]) (pc2 := 162) b_138_158_2 rfl rfl ?_
                        refine ov_getf (v := ov_r 69) d_138_162 fl_Town_43 (zb_58 I12) (zs_58 I12) (congrArg ov_r (rg_58_17 I12)) ?_
                        refine ov_blk (ls2 := [(0, ov_r 58), (1, ov_i rule), (2, ov_i c), (3, ov_i ow), (4, ov_i nw), (5, ov_i (x5 + (-1))), (6, ov_i x6), (7, ov_i (h11 68 x6))]) (st2 := [ov_r 58, ov_i (h11 68 x6), ov_i ((x5 + (-1)) - 1), ov_r 69]) (pc2 := 172) b_138_165_5 rfl rfl ?_
                        refine ov_getf (v := ov_r 69) d_138_172 fl_Town_43 (zb_58 I12) (zs_58 I12) (congrArg ov_r (rg_58_17 I12)) ?_
                        refine ov_blk (ls2 := [(0, ov_r 58), (1, ov_i rule), (2, ov_i c), (3, ov_i ow), (4, ov_i nw), (5, ov_i (x5 + (-1))), (6, ov_i x6), (7, ov_i (h11 68 x6))]) (st2 := [ov_i ((x5 + (-1)) - 1), ov_r 69, ov_i (h11 68 x6), ov_i ((x5 + (-1)) - 1), ov_r 69]) (pc2 := 179) b_138_175_3 rfl rfl ?_
                        refine ov_iald d_138_179 (zb_69 I12) (zs_69 I12) (by omega) ?_
                        have g55 := ra_69 I12 ((x5 + (-1)) - 1)
                        refine ov_blk (ls2 := [(0, ov_r 58), (1, ov_i rule), (2, ov_i c), (3, ov_i ow), (4, ov_i nw), (5, ov_i (x5 + (-1))), (6, ov_i x6), (7, ov_i (h11 68 x6))]) (st2 := [ov_r 58, ov_i (h11 69 ((x5 + (-1)) - 1)), ov_i (h11 68 x6), ov_i ((x5 + (-1)) - 1), ov_r 69]) (pc2 := 181) b_138_180_1 rfl rfl ?_
                        refine ov_getf (v := ov_r 69) d_138_181 fl_Town_43 (zb_58 I12) (zs_58 I12) (congrArg ov_r (rg_58_17 I12)) ?_
                        refine ov_blk (ls2 := [(0, ov_r 58), (1, ov_i rule), (2, ov_i c), (3, ov_i ow), (4, ov_i nw), (5, ov_i (x5 + (-1))), (6, ov_i x6), (7, ov_i (h11 68 x6))]) (st2 := [ov_i (x5 + (-1)), ov_r 69, ov_i (h11 69 ((x5 + (-1)) - 1)), ov_i (h11 68 x6), ov_i ((x5 + (-1)) - 1), ov_r 69]) (pc2 := 186) b_138_184_1 rfl rfl ?_
                        refine ov_iald d_138_186 (zb_69 I12) (zs_69 I12) (by omega) ?_
                        have g56 := ra_69 I12 (x5 + (-1))
                        refine ov_cS (as := [ov_i (h11 68 x6), ov_i (h11 69 ((x5 + (-1)) - 1)), ov_i (h11 69 (x5 + (-1)))]) (st := [ov_i ((x5 + (-1)) - 1), ov_r 69]) (d2 := d - 1) d_138_187 lk_Town_109 rfl (Nat.le_of_ble_eq_true rfl) (by omega) (c_Town_joined (d - 1) (by omega) U I12 (h11 68 x6) (h11 69 ((x5 + (-1)) - 1)) (h11 69 (x5 + (-1))) (by omega) (by omega) (by omega)) ?_
                        rintro _ _ _ ⟨v58, rfl, rfl, rfl, f57⟩
                        show ov_R u d ov_m138 190 [(0, ov_r 58), (1, ov_i rule), (2, ov_i c), (3, ov_i ow), (4, ov_i nw), (5, ov_i (x5 + (-1))), (6, ov_i x6), (7, ov_i (h11 68 x6))] [ov_i v58, ov_i ((x5 + (-1)) - 1), ov_r 69] z10 h11 (P_Town_ruleSaysOver_58 F z h rule c ow nw)
                        have f59 : -2147483648 ≤ v58 ∧ v58 ≤ 2147483647 := f57
                        clear f57
                        refine ov_iast d_138_190 (zb_69 I12) (zs_69 I12) (by omega) ?_
                        have I60 := ua_69 (k := ((x5 + (-1)) - 1)) (x := v58) I12 (by omega) (hw 69 (by decide +kernel))
                        refine ov_blk (ls2 := [(0, ov_r 58), (1, ov_i rule), (2, ov_i c), (3, ov_i ow), (4, ov_i nw), (5, ov_i (x5 + (-1))), (6, ov_i (x6 + 1)), (7, ov_i (h11 68 x6))]) (st2 := []) (pc2 := 194) b_138_191_1 rfl rfl ?_
                        refine ov_goto (tgt := 35) d_138_194 (by decide) ?_
                        refine ov_sub (ls2 := [(0, ov_r 58), (1, ov_i rule), (2, ov_i c), (3, ov_i ow), (4, ov_i nw), (5, ov_i (x5 + (-1))), (6, ov_i (x6 + 1))]) (List.Sublist.subset (by repeat (first | exact List.Sublist.refl _ | apply List.Sublist.cons_cons | apply List.Sublist.cons))) ?_
                        exact ih7 (x5 + (-1)) (x6 + 1) _ _ I60 (by show 0 ≤ (x5 + (-1)) ∧ (x5 + (-1)) ≤ 64 ∧ 0 ≤ (x6 + 1) ∧ (x6 + 1) ≤ 1000 ∧ 0 ≤ rule ∧ rule ≤ 3 ∧ (h11 36 7) = (h 36 7) ∧ (h11 1 1) = (h 1 1) ∧ (h11 90 2) = (h 90 2) ∧ (h11 0 10) = (h 0 10) ∧ (h11 0 11) = (h 0 11) ∧ (h11 0 12) = (h 0 12) ∧ (h11 0 13) = (h 0 13) ∧ (h11 3 1) = (h 3 1) ∧ (h11 36 8) = (h 36 8) ∧ (h11 46 3) = (h 46 3) ∧ (h11 46 4) = (h 46 4) ∧ (h11 49 4) = (h 49 4) ∧ (h11 49 5) = (h 49 5) ∧ (h11 64 0) = (h 64 0) ∧ (h11 76 0) = (h 76 0); omega) (by omega)
                    · skip
                      refine ov_blk (ls2 := [(0, ov_r 58), (1, ov_i rule), (2, ov_i c), (3, ov_i ow), (4, ov_i nw), (5, ov_i x5), (6, ov_i x6), (7, ov_i (h11 68 x6))]) (st2 := [ov_r 58]) (pc2 := 110) b_138_109_1 rfl rfl ?_
                      refine ov_getf (v := ov_r 69) d_138_110 fl_Town_43 (zb_58 I12) (zs_58 I12) (congrArg ov_r (rg_58_17 I12)) ?_
                      refine ov_blk (ls2 := [(0, ov_r 58), (1, ov_i rule), (2, ov_i c), (3, ov_i ow), (4, ov_i nw), (5, ov_i x5), (6, ov_i x6), (7, ov_i (h11 68 x6))]) (st2 := [ov_i 8, ov_i (h11 68 x6), ov_i x5, ov_r 69]) (pc2 := 119) b_138_113_3 rfl rfl ?_
                      refine ov_icne (tgt := 126) d_138_119 (by decide) (by omega) (by omega) (fun c61 => ?_) (fun c61 => ?_)
                      · skip
                        refine ov_blk (ls2 := [(0, ov_r 58), (1, ov_i rule), (2, ov_i c), (3, ov_i ow), (4, ov_i nw), (5, ov_i x5), (6, ov_i x6), (7, ov_i (h11 68 x6))]) (st2 := [ov_i 9, ov_i (h11 68 x6), ov_i x5, ov_r 69]) (pc2 := 130) b_138_126_2 rfl rfl ?_
                        refine ov_icne (tgt := 138) d_138_130 (by decide) (by omega) (by omega) (fun c62 => ?_) (fun c62 => ?_)
                        · skip
                          refine ov_blk (ls2 := [(0, ov_r 58), (1, ov_i rule), (2, ov_i c), (3, ov_i ow), (4, ov_i nw), (5, ov_i x5), (6, ov_i x6), (7, ov_i (h11 68 x6))]) (st2 := [ov_i c, ov_i (h11 68 x6), ov_r 58, ov_i x5, ov_r 69]) (pc2 := 142) b_138_138_3 rfl rfl ?_
                          refine ov_cV (as := [ov_i (h11 68 x6), ov_i c]) (st := [ov_i x5, ov_r 69]) (d2 := d - 1) d_138_142 lk_Town_106 rfl (Nat.le_of_ble_eq_true rfl) (c := 9) (zb_58 I12) (zs_58 I12) ⟨by decide, rfl⟩ (by omega) (c_Town_placeOrNumber_58 (d - 1) (by omega) U I12 (h11 68 x6) c (by omega) (by omega) (by omega) (by omega)) ?_
                          rintro _ _ _ ⟨v64, rfl, rfl, rfl, f63⟩
                          show ov_R u d ov_m138 145 [(0, ov_r 58), (1, ov_i rule), (2, ov_i c), (3, ov_i ow), (4, ov_i nw), (5, ov_i x5), (6, ov_i x6), (7, ov_i (h11 68 x6))] [ov_i v64, ov_i x5, ov_r 69] z10 h11 (P_Town_ruleSaysOver_58 F z h rule c ow nw)
                          have f65 : -2147483648 ≤ v64 ∧ v64 ≤ 2147483647 := f63
                          clear f63
                          refine ov_iast d_138_145 (zb_69 I12) (zs_69 I12) (by omega) ?_
                          have I66 := ua_69 (k := x5) (x := v64) I12 (by omega) (hw 69 (by decide +kernel))
                          refine ov_blk (ls2 := [(0, ov_r 58), (1, ov_i rule), (2, ov_i c), (3, ov_i ow), (4, ov_i nw), (5, ov_i (x5 + 1)), (6, ov_i x6), (7, ov_i (h11 68 x6))]) (st2 := []) (pc2 := 149) b_138_146_1 rfl rfl ?_
                          refine ov_goto (tgt := 191) d_138_149 (by decide) ?_
                          refine ov_blk (ls2 := [(0, ov_r 58), (1, ov_i rule), (2, ov_i c), (3, ov_i ow), (4, ov_i nw), (5, ov_i (x5 + 1)), (6, ov_i (x6 + 1)), (7, ov_i (h11 68 x6))]) (st2 := []) (pc2 := 194) b_138_191_1 rfl rfl ?_
                          refine ov_goto (tgt := 35) d_138_194 (by decide) ?_
                          refine ov_sub (ls2 := [(0, ov_r 58), (1, ov_i rule), (2, ov_i c), (3, ov_i ow), (4, ov_i nw), (5, ov_i (x5 + 1)), (6, ov_i (x6 + 1))]) (List.Sublist.subset (by repeat (first | exact List.Sublist.refl _ | apply List.Sublist.cons_cons | apply List.Sublist.cons))) ?_
                          exact ih7 (x5 + 1) (x6 + 1) _ _ I66 (by show 0 ≤ (x5 + 1) ∧ (x5 + 1) ≤ 64 ∧ 0 ≤ (x6 + 1) ∧ (x6 + 1) ≤ 1000 ∧ 0 ≤ rule ∧ rule ≤ 3 ∧ (h11 36 7) = (h 36 7) ∧ (h11 1 1) = (h 1 1) ∧ (h11 90 2) = (h 90 2) ∧ (h11 0 10) = (h 0 10) ∧ (h11 0 11) = (h 0 11) ∧ (h11 0 12) = (h 0 12) ∧ (h11 0 13) = (h 0 13) ∧ (h11 3 1) = (h 3 1) ∧ (h11 36 8) = (h 36 8) ∧ (h11 46 3) = (h 46 3) ∧ (h11 46 4) = (h 46 4) ∧ (h11 49 4) = (h 49 4) ∧ (h11 49 5) = (h 49 5) ∧ (h11 64 0) = (h 64 0) ∧ (h11 76 0) = (h 76 0); omega) (by omega)
                        · skip
                          refine ov_blk (ls2 := [(0, ov_r 58), (1, ov_i rule), (2, ov_i c), (3, ov_i ow), (4, ov_i nw), (5, ov_i x5), (6, ov_i x6), (7, ov_i (h11 68 x6))]) (st2 := [ov_i nw, ov_i x5, ov_r 69]) (pc2 := 135) b_138_133_1 rfl rfl ?_
                          refine ov_goto (tgt := 145) d_138_135 (by decide) ?_
                          refine ov_iast d_138_145 (zb_69 I12) (zs_69 I12) (by omega) ?_
                          have I67 := ua_69 (k := x5) (x := nw) I12 (by omega) (hw 69 (by decide +kernel))
                          refine ov_blk (ls2 := [(0, ov_r 58), (1, ov_i rule), (2, ov_i c), (3, ov_i ow), (4, ov_i nw), (5, ov_i (x5 + 1)), (6, ov_i x6), (7, ov_i (h11 68 x6))]) (st2 := []) (pc2 := 149) b_138_146_1 rfl rfl ?_
                          refine ov_goto (tgt := 191) d_138_149 (by decide) ?_
                          refine ov_blk (ls2 := [(0, ov_r 58), (1, ov_i rule), (2, ov_i c), (3, ov_i ow), (4, ov_i nw), (5, ov_i (x5 + 1)), (6, ov_i (x6 + 1)), (7, ov_i (h11 68 x6))]) (st2 := []) (pc2 := 194) b_138_191_1 rfl rfl ?_
                          refine ov_goto (tgt := 35) d_138_194 (by decide) ?_
                          refine ov_sub (ls2 := [(0, ov_r 58), (1, ov_i rule), (2, ov_i c), (3, ov_i ow), (4, ov_i nw), (5, ov_i (x5 + 1)), (6, ov_i (x6 + 1))]) (List.Sublist.subset (by repeat (first | exact List.Sublist.refl _ | apply List.Sublist.cons_cons | apply List.Sublist.cons))) ?_
                          exact ih7 (x5 + 1) (x6 + 1) _ _ I67 (by show 0 ≤ (x5 + 1) ∧ (x5 + 1) ≤ 64 ∧ 0 ≤ (x6 + 1) ∧ (x6 + 1) ≤ 1000 ∧ 0 ≤ rule ∧ rule ≤ 3 ∧ (h11 36 7) = (h 36 7) ∧ (h11 1 1) = (h 1 1) ∧ (h11 90 2) = (h 90 2) ∧ (h11 0 10) = (h 0 10) ∧ (h11 0 11) = (h 0 11) ∧ (h11 0 12) = (h 0 12) ∧ (h11 0 13) = (h 0 13) ∧ (h11 3 1) = (h 3 1) ∧ (h11 36 8) = (h 36 8) ∧ (h11 46 3) = (h 46 3) ∧ (h11 46 4) = (h 46 4) ∧ (h11 49 4) = (h 49 4) ∧ (h11 49 5) = (h 49 5) ∧ (h11 64 0) = (h 64 0) ∧ (h11 76 0) = (h 76 0); omega) (by omega)
                      · skip
                        refine ov_blk (ls2 := [(0, ov_r 58), (1, ov_i rule), (2, ov_i c), (3, ov_i ow), (4, ov_i nw), (5, ov_i x5), (6, ov_i x6), (7, ov_i (h11 68 x6))]) (st2 := [ov_i ow, ov_i x5, ov_r 69]) (pc2 := 123) b_138_122_1 rfl rfl ?_
                        refine ov_goto (tgt := 145) d_138_123 (by decide) ?_
                        refine ov_iast d_138_145 (zb_69 I12) (zs_69 I12) (by omega) ?_
                        have I68 := ua_69 (k := x5) (x := ow) I12 (by omega) (hw 69 (by decide +kernel))
                        refine ov_blk (ls2 := [(0, ov_r 58), (1, ov_i rule), (2, ov_i c), (3, ov_i ow), (4, ov_i nw), (5, ov_i (x5 + 1)), (6, ov_i x6), (7, ov_i (h11 68 x6))]) (st2 := []) (pc2 := 149) b_138_146_1 rfl rfl ?_
                        refine ov_goto (tgt := 191) d_138_149 (by decide) ?_
                        refine ov_blk (ls2 := [(0, ov_r 58), (1, ov_i rule), (2, ov_i c), (3, ov_i ow), (4, ov_i nw), (5, ov_i (x5 + 1)), (6, ov_i (x6 + 1)), (7, ov_i (h11 68 x6))]) (st2 := []) (pc2 := 194) b_138_191_1 rfl rfl ?_
                        refine ov_goto (tgt := 35) d_138_194 (by decide) ?_
                        refine ov_sub (ls2 := [(0, ov_r 58), (1, ov_i rule), (2, ov_i c), (3, ov_i ow), (4, ov_i nw), (5, ov_i (x5 + 1)), (6, ov_i (x6 + 1))]) (List.Sublist.subset (by repeat (first | exact List.Sublist.refl _ | apply List.Sublist.cons_cons | apply List.Sublist.cons))) ?_
                        exact ih7 (x5 + 1) (x6 + 1) _ _ I68 (by show 0 ≤ (x5 + 1) ∧ (x5 + 1) ≤ 64 ∧ 0 ≤ (x6 + 1) ∧ (x6 + 1) ≤ 1000 ∧ 0 ≤ rule ∧ rule ≤ 3 ∧ (h11 36 7) = (h 36 7) ∧ (h11 1 1) = (h 1 1) ∧ (h11 90 2) = (h 90 2) ∧ (h11 0 10) = (h 0 10) ∧ (h11 0 11) = (h 0 11) ∧ (h11 0 12) = (h 0 12) ∧ (h11 0 13) = (h 0 13) ∧ (h11 3 1) = (h 3 1) ∧ (h11 36 8) = (h 36 8) ∧ (h11 46 3) = (h 46 3) ∧ (h11 46 4) = (h 46 4) ∧ (h11 49 4) = (h 49 4) ∧ (h11 49 5) = (h 49 5) ∧ (h11 64 0) = (h 64 0) ∧ (h11 76 0) = (h 76 0); omega) (by omega)
                · skip
                  refine ov_blk (ls2 := [(0, ov_r 58), (1, ov_i rule), (2, ov_i c), (3, ov_i ow), (4, ov_i nw), (5, ov_i x5), (6, ov_i x6), (7, ov_i (h11 68 x6))]) (st2 := [ov_r 58]) (pc2 := 67) b_138_66_1 rfl rfl ?_
                  refine ov_getf (v := ov_r 69) d_138_67 fl_Town_43 (zb_58 I12) (zs_58 I12) (congrArg ov_r (rg_58_17 I12)) ?_
                  refine ov_blk (ls2 := [(0, ov_r 58), (1, ov_i rule), (2, ov_i c), (3, ov_i ow), (4, ov_i nw), (5, ov_i x5), (6, ov_i x6), (7, ov_i (h11 68 x6))]) (st2 := [ov_r 58, ov_i (x5 - 1), ov_r 69]) (pc2 := 75) b_138_70_4 rfl rfl ?_
                  refine ov_getf (v := ov_r 69) d_138_75 fl_Town_43 (zb_58 I12) (zs_58 I12) (congrArg ov_r (rg_58_17 I12)) ?_
                  refine ov_blk (ls2 := [(0, ov_r 58), (1, ov_i rule), (2, ov_i c), (3, ov_i ow), (4, ov_i nw), (5, ov_i x5), (6, ov_i x6), (7, ov_i (h11 68 x6))]) (st2 := [ov_i (x5 - 1), ov_r 69, ov_i (x5 - 1), ov_r 69]) (pc2 := 82) b_138_78_3 rfl rfl ?_
                  refine ov_iald d_138_82 (zb_69 I12) (zs_69 I12) (by omega) ?_
                  have g69 := ra_69 I12 (x5 - 1)
                  refine ov_ifne (tgt := 90) d_138_83 (by decide) (by omega) (fun c70 => ?_) (fun c70 => ?_)
                  · skip
                    refine ov_blk (ls2 := [(0, ov_r 58), (1, ov_i rule), (2, ov_i c), (3, ov_i ow), (4, ov_i nw), (5, ov_i x5), (6, ov_i x6), (7, ov_i (h11 68 x6))]) (st2 := [ov_i 0, ov_i (x5 - 1), ov_r 69]) (pc2 := 91) b_138_90_1 rfl rfl ?_
                    refine ov_iast d_138_91 (zb_69 I12) (zs_69 I12) (by omega) ?_
                    have I71 := ua_69 (k := (x5 - 1)) (x := 0) I12 (by omega) (hw 69 (by decide +kernel))
                    refine ov_goto (tgt := 191) d_138_92 (by decide) ?_
                    refine ov_blk (ls2 := [(0, ov_r 58), (1, ov_i rule), (2, ov_i c), (3, ov_i ow), (4, ov_i nw), (5, ov_i x5), (6, ov_i (x6 + 1)), (7, ov_i (h11 68 x6))]) (st2 := []) (pc2 := 194) b_138_191_1 rfl rfl ?_
                    refine ov_goto (tgt := 35) d_138_194 (by decide) ?_
                    refine ov_sub (ls2 := [(0, ov_r 58), (1, ov_i rule), (2, ov_i c), (3, ov_i ow), (4, ov_i nw), (5, ov_i x5), (6, ov_i (x6 + 1))]) (List.Sublist.subset (by repeat (first | exact List.Sublist.refl _ | apply List.Sublist.cons_cons | apply List.Sublist.cons))) ?_
                    exact ih7 x5 (x6 + 1) _ _ I71 (by show 0 ≤ x5 ∧ x5 ≤ 64 ∧ 0 ≤ (x6 + 1) ∧ (x6 + 1) ≤ 1000 ∧ 0 ≤ rule ∧ rule ≤ 3 ∧ (h11 36 7) = (h 36 7) ∧ (h11 1 1) = (h 1 1) ∧ (h11 90 2) = (h 90 2) ∧ (h11 0 10) = (h 0 10) ∧ (h11 0 11) = (h 0 11) ∧ (h11 0 12) = (h 0 12) ∧ (h11 0 13) = (h 0 13) ∧ (h11 3 1) = (h 3 1) ∧ (h11 36 8) = (h 36 8) ∧ (h11 46 3) = (h 46 3) ∧ (h11 46 4) = (h 46 4) ∧ (h11 49 4) = (h 49 4) ∧ (h11 49 5) = (h 49 5) ∧ (h11 64 0) = (h 64 0) ∧ (h11 76 0) = (h 76 0); omega) (by omega)
                  · skip
                    refine ov_blk (ls2 := [(0, ov_r 58), (1, ov_i rule), (2, ov_i c), (3, ov_i ow), (4, ov_i nw), (5, ov_i x5), (6, ov_i x6), (7, ov_i (h11 68 x6))]) (st2 := [ov_i 1, ov_i (x5 - 1), ov_r 69]) (pc2 := 87) b_138_86_1 rfl rfl ?_
                    refine ov_goto (tgt := 91) d_138_87 (by decide) ?_
                    refine ov_iast d_138_91 (zb_69 I12) (zs_69 I12) (by omega) ?_
                    have I72 := ua_69 (k := (x5 - 1)) (x := 1) I12 (by omega) (hw 69 (by decide +kernel))
                    refine ov_goto (tgt := 191) d_138_92 (by decide) ?_
                    refine ov_blk (ls2 := [(0, ov_r 58), (1, ov_i rule), (2, ov_i c), (3, ov_i ow), (4, ov_i nw), (5, ov_i x5), (6, ov_i (x6 + 1)), (7, ov_i (h11 68 x6))]) (st2 := []) (pc2 := 194) b_138_191_1 rfl rfl ?_
                    refine ov_goto (tgt := 35) d_138_194 (by decide) ?_
                    refine ov_sub (ls2 := [(0, ov_r 58), (1, ov_i rule), (2, ov_i c), (3, ov_i ow), (4, ov_i nw), (5, ov_i x5), (6, ov_i (x6 + 1))]) (List.Sublist.subset (by repeat (first | exact List.Sublist.refl _ | apply List.Sublist.cons_cons | apply List.Sublist.cons))) ?_
                    exact ih7 x5 (x6 + 1) _ _ I72 (by show 0 ≤ x5 ∧ x5 ≤ 64 ∧ 0 ≤ (x6 + 1) ∧ (x6 + 1) ≤ 1000 ∧ 0 ≤ rule ∧ rule ≤ 3 ∧ (h11 36 7) = (h 36 7) ∧ (h11 1 1) = (h 1 1) ∧ (h11 90 2) = (h 90 2) ∧ (h11 0 10) = (h 0 10) ∧ (h11 0 11) = (h 0 11) ∧ (h11 0 12) = (h 0 12) ∧ (h11 0 13) = (h 0 13) ∧ (h11 3 1) = (h 3 1) ∧ (h11 36 8) = (h 36 8) ∧ (h11 46 3) = (h 46 3) ∧ (h11 46 4) = (h 46 4) ∧ (h11 49 4) = (h 49 4) ∧ (h11 49 5) = (h 49 5) ∧ (h11 64 0) = (h 64 0) ∧ (h11 76 0) = (h 76 0); omega) (by omega)
        exact L9 1001 0 (h 67 (rule - 1)) _ _ I (by show 0 ≤ 0 ∧ 0 ≤ 64 ∧ 0 ≤ (h 67 (rule - 1)) ∧ (h 67 (rule - 1)) ≤ 1000 ∧ 0 ≤ rule ∧ rule ≤ 3 ∧ (h 36 7) = (h 36 7) ∧ (h 1 1) = (h 1 1) ∧ (h 90 2) = (h 90 2) ∧ (h 0 10) = (h 0 10) ∧ (h 0 11) = (h 0 11) ∧ (h 0 12) = (h 0 12) ∧ (h 0 13) = (h 0 13) ∧ (h 3 1) = (h 3 1) ∧ (h 36 8) = (h 36 8) ∧ (h 46 3) = (h 46 3) ∧ (h 46 4) = (h 46 4) ∧ (h 49 4) = (h 49 4) ∧ (h 49 5) = (h 49 5) ∧ (h 64 0) = (h 64 0) ∧ (h 76 0) = (h 76 0); omega) (by omega)
      · skip
        refine ov_blk (ls2 := [(0, ov_r 58), (1, ov_i rule), (2, ov_i c), (3, ov_i ow), (4, ov_i nw), (5, ov_i 0)]) (st2 := [ov_i 0]) (pc2 := 22) b_138_21_1 rfl rfl ?_
        refine ov_goto (tgt := 33) d_138_22 (by decide) ?_
        refine ov_blk (ls2 := [(0, ov_r 58), (1, ov_i rule), (2, ov_i c), (3, ov_i ow), (4, ov_i nw), (5, ov_i 0), (6, ov_i 0)]) (st2 := []) (pc2 := 35) b_138_33_1 rfl rfl ?_
        have L76 : ∀ (n73 : Nat) (x5_ : Int) (x6_ : Int) (z77 : ov_Z) (h78 : ov_H) (I79 : ov_I F z77 h78) (q75 : 0 ≤ x5_ ∧ x5_ ≤ 64 ∧ 0 ≤ x6_ ∧ x6_ ≤ 1000 ∧ 0 ≤ rule ∧ rule ≤ 3 ∧ (h78 36 7) = (h 36 7) ∧ (h78 1 1) = (h 1 1) ∧ (h78 90 2) = (h 90 2) ∧ (h78 0 10) = (h 0 10) ∧ (h78 0 11) = (h 0 11) ∧ (h78 0 12) = (h 0 12) ∧ (h78 0 13) = (h 0 13) ∧ (h78 3 1) = (h 3 1) ∧ (h78 36 8) = (h 36 8) ∧ (h78 46 3) = (h 46 3) ∧ (h78 46 4) = (h 46 4) ∧ (h78 49 4) = (h 49 4) ∧ (h78 49 5) = (h 49 5) ∧ (h78 64 0) = (h 64 0) ∧ (h78 76 0) = (h 76 0)), 1000 - x6_ < (n73 : Int) → ov_R u d ov_m138 35 [(0, ov_r 58), (1, ov_i rule), (2, ov_i c), (3, ov_i ow), (4, ov_i nw), (5, ov_i x5_), (6, ov_i x6_)] [] z77 h78 (P_Town_ruleSaysOver_58 F z h rule c ow nw) := by
          intro n73
          induction n73 with
          | zero =>
            intro x5_ x6_ z77 h78 I79 q75 hn80
            exact absurd hn80 (by omega)
          | succ n73 ih74 =>
            intro x5_ x6_ z77 h78 I79 q75 hn80
            refine ov_blk (ls2 := [(0, ov_r 58), (1, ov_i rule), (2, ov_i c), (3, ov_i ow), (4, ov_i nw), (5, ov_i x5_), (6, ov_i x6_)]) (st2 := [ov_r 58, ov_i x6_]) (pc2 := 38) b_138_35_2 rfl rfl ?_
            refine ov_getf (v := ov_r 67) d_138_38 fl_Town_37 (zb_58 I79) (zs_58 I79) (congrArg ov_r (rg_58_14 I79)) ?_
            refine ov_blk (ls2 := [(0, ov_r 58), (1, ov_i rule), (2, ov_i c), (3, ov_i ow), (4, ov_i nw), (5, ov_i x5_), (6, ov_i x6_)]) (st2 := [ov_i rule, ov_r 67, ov_i x6_]) (pc2 := 42) b_138_41_1 rfl rfl ?_
            refine ov_iald d_138_42 (zb_67 I79) (zs_67 I79) (by omega) ?_
            have g81 := ra_67 I79 rule
            refine ov_icge (tgt := 197) d_138_43 (by decide) (by omega) (by omega) (fun c82 => ?_) (fun c82 => ?_)
            · skip
              refine ov_blk (ls2 := [(0, ov_r 58), (1, ov_i rule), (2, ov_i c), (3, ov_i ow), (4, ov_i nw), (5, ov_i x5_), (6, ov_i x6_)]) (st2 := [ov_r 58]) (pc2 := 198) b_138_197_1 rfl rfl ?_
              refine ov_getf (v := ov_r 69) d_138_198 fl_Town_43 (zb_58 I79) (zs_58 I79) (congrArg ov_r (rg_58_17 I79)) ?_
              refine ov_blk (ls2 := [(0, ov_r 58), (1, ov_i rule), (2, ov_i c), (3, ov_i ow), (4, ov_i nw), (5, ov_i x5_), (6, ov_i x6_)]) (st2 := [ov_i 0, ov_r 69]) (pc2 := 202) b_138_201_1 rfl rfl ?_
              refine ov_iald d_138_202 (zb_69 I79) (zs_69 I79) (by omega) ?_
              have g83 := ra_69 I79 0
              refine ov_ifeq (tgt := 210) d_138_203 (by decide) (by omega) (fun c84 => ?_) (fun c84 => ?_)
              · skip
                refine ov_blk (ls2 := [(0, ov_r 58), (1, ov_i rule), (2, ov_i c), (3, ov_i ow), (4, ov_i nw), (5, ov_i x5_), (6, ov_i x6_)]) (st2 := [ov_i 0]) (pc2 := 211) b_138_210_1 rfl rfl ?_
                exact ov_retz (st := []) d_138_211 rfl (by omega) ⟨_, rfl, I79, (by show (0 = 0 ∨ 0 = 1) ∧ (h78 36 7) = (h 36 7) ∧ (h78 1 1) = (h 1 1) ∧ (h78 90 2) = (h 90 2) ∧ (h78 0 10) = (h 0 10) ∧ (h78 0 11) = (h 0 11) ∧ (h78 0 12) = (h 0 12) ∧ (h78 0 13) = (h 0 13) ∧ (h78 3 1) = (h 3 1) ∧ (h78 36 8) = (h 36 8) ∧ (h78 46 3) = (h 46 3) ∧ (h78 46 4) = (h 46 4) ∧ (h78 49 4) = (h 49 4) ∧ (h78 49 5) = (h 49 5) ∧ (h78 64 0) = (h 64 0) ∧ (h78 76 0) = (h 76 0); omega)⟩
              · skip
                refine ov_blk (ls2 := [(0, ov_r 58), (1, ov_i rule), (2, ov_i c), (3, ov_i ow), (4, ov_i nw), (5, ov_i x5_), (6, ov_i x6_)]) (st2 := [ov_i 1]) (pc2 := 207) b_138_206_1 rfl rfl ?_
                refine ov_goto (tgt := 211) d_138_207 (by decide) ?_
                exact ov_retz (st := []) d_138_211 rfl (by omega) ⟨_, rfl, I79, (by show (1 = 0 ∨ 1 = 1) ∧ (h78 36 7) = (h 36 7) ∧ (h78 1 1) = (h 1 1) ∧ (h78 90 2) = (h 90 2) ∧ (h78 0 10) = (h 0 10) ∧ (h78 0 11) = (h 0 11) ∧ (h78 0 12) = (h 0 12) ∧ (h78 0 13) = (h 0 13) ∧ (h78 3 1) = (h 3 1) ∧ (h78 36 8) = (h 36 8) ∧ (h78 46 3) = (h 46 3) ∧ (h78 46 4) = (h 46 4) ∧ (h78 49 4) = (h 49 4) ∧ (h78 49 5) = (h 49 5) ∧ (h78 64 0) = (h 64 0) ∧ (h78 76 0) = (h 76 0); omega)⟩
            · skip
              refine ov_blk (ls2 := [(0, ov_r 58), (1, ov_i rule), (2, ov_i c), (3, ov_i ow), (4, ov_i nw), (5, ov_i x5_), (6, ov_i x6_)]) (st2 := [ov_r 58]) (pc2 := 47) b_138_46_1 rfl rfl ?_
              refine ov_getf (v := ov_r 68) d_138_47 fl_Town_40 (zb_58 I79) (zs_58 I79) (congrArg ov_r (rg_58_15 I79)) ?_
              refine ov_blk (ls2 := [(0, ov_r 58), (1, ov_i rule), (2, ov_i c), (3, ov_i ow), (4, ov_i nw), (5, ov_i x5_), (6, ov_i x6_)]) (st2 := [ov_i x6_, ov_r 68]) (pc2 := 52) b_138_50_1 rfl rfl ?_
              refine ov_iald d_138_52 (zb_68 I79) (zs_68 I79) (by omega) ?_
              have g85 := ra_68 I79 x6_
              refine ov_blk (ls2 := [(0, ov_r 58), (1, ov_i rule), (2, ov_i c), (3, ov_i ow), (4, ov_i nw), (5, ov_i x5_), (6, ov_i x6_), (7, ov_i (h78 68 x6_))]) (st2 := [ov_i (h78 68 x6_)]) (pc2 := 57) b_138_53_2 rfl rfl ?_
              refine ov_ifne (tgt := 95) d_138_57 (by decide) (by omega) (fun c86 => ?_) (fun c86 => ?_)
              · skip
                refine ov_blk (ls2 := [(0, ov_r 58), (1, ov_i rule), (2, ov_i c), (3, ov_i ow), (4, ov_i nw), (5, ov_i x5_), (6, ov_i x6_), (7, ov_i (h78 68 x6_))]) (st2 := [ov_i 8, ov_i (h78 68 x6_)]) (pc2 := 99) b_138_95_2 rfl rfl ?_
                refine ov_iclt (tgt := 152) d_138_99 (by decide) (by omega) (by omega) (fun c87 => ?_) (fun c87 => ?_)
                · skip
                  refine ov_blk (ls2 := [(0, ov_r 58), (1, ov_i rule), (2, ov_i c), (3, ov_i ow), (4, ov_i nw), (5, ov_i x5_), (6, ov_i x6_), (7, ov_i (h78 68 x6_))]) (st2 := [ov_i 2, ov_i x5_]) (pc2 := 155) b_138_152_2 rfl rfl ?_
                  refine ov_iclt (tgt := 191) d_138_155 (by decide) (by omega) (by omega) (fun c88 => ?_) (fun c88 => ?_)
                  · skip
                    refine ov_blk (ls2 := [(0, ov_r 58), (1, ov_i rule), (2, ov_i c), (3, ov_i ow), (4, ov_i nw), (5, ov_i x5_), (6, ov_i (x6_ + 1)), (7, ov_i (h78 68 x6_))]) (st2 := []) (pc2 := 194) b_138_191_1 rfl rfl ?_
                    refine ov_goto (tgt := 35) d_138_194 (by decide) ?_
                    refine ov_sub (ls2 := [(0, ov_r 58), (1, ov_i rule), (2, ov_i c), (3, ov_i ow), (4, ov_i nw), (5, ov_i x5_), (6, ov_i (x6_ + 1))]) (List.Sublist.subset (by repeat (first | exact List.Sublist.refl _ | apply List.Sublist.cons_cons | apply List.Sublist.cons))) ?_
                    exact ih74 x5_ (x6_ + 1) _ _ I79 (by show 0 ≤ x5_ ∧ x5_ ≤ 64 ∧ 0 ≤ (x6_ + 1) ∧ (x6_ + 1) ≤ 1000 ∧ 0 ≤ rule ∧ rule ≤ 3 ∧ (h78 36 7) = (h 36 7) ∧ (h78 1 1) = (h 1 1) ∧ (h78 90 2) = (h 90 2) ∧ (h78 0 10) = (h 0 10) ∧ (h78 0 11) = (h 0 11) ∧ (h78 0 12) = (h 0 12) ∧ (h78 0 13) = (h 0 13) ∧ (h78 3 1) = (h 3 1) ∧ (h78 36 8) = (h 36 8) ∧ (h78 46 3) = (h 46 3) ∧ (h78 46 4) = (h 46 4) ∧ (h78 49 4) = (h 49 4) ∧ (h78 49 5) = (h 49 5) ∧ (h78 64 0) = (h 64 0) ∧ (h78 76 0) = (h 76 0); omega) (by omega)
                  · skip
                    refine ov_blk (ls2 := [(0, ov_r 58), (1, ov_i rule), (2, ov_i c), (3, ov_i ow), (4, ov_i nw), (5, ov_i (x5_ + (-1))), (6, ov_i x6_), (7, ov_i (h78 68 x6_))]) (st2 := [ov_r 58]) (pc2 := 162) b_138_158_2 rfl rfl ?_
                    refine ov_getf (v := ov_r 69) d_138_162 fl_Town_43 (zb_58 I79) (zs_58 I79) (congrArg ov_r (rg_58_17 I79)) ?_
                    refine ov_blk (ls2 := [(0, ov_r 58), (1, ov_i rule), (2, ov_i c), (3, ov_i ow), (4, ov_i nw), (5, ov_i (x5_ + (-1))), (6, ov_i x6_), (7, ov_i (h78 68 x6_))]) (st2 := [ov_r 58, ov_i (h78 68 x6_), ov_i ((x5_ + (-1)) - 1), ov_r 69]) (pc2 := 172) b_138_165_5 rfl rfl ?_
                    refine ov_getf (v := ov_r 69) d_138_172 fl_Town_43 (zb_58 I79) (zs_58 I79) (congrArg ov_r (rg_58_17 I79)) ?_
                    refine ov_blk (ls2 := [(0, ov_r 58), (1, ov_i rule), (2, ov_i c), (3, ov_i ow), (4, ov_i nw), (5, ov_i (x5_ + (-1))), (6, ov_i x6_), (7, ov_i (h78 68 x6_))]) (st2 := [ov_i ((x5_ + (-1)) - 1), ov_r 69, ov_i (h78 68 x6_), ov_i ((x5_ + (-1)) - 1), ov_r 69]) (pc2 := 179) b_138_175_3 rfl rfl ?_
                    refine ov_iald d_138_179 (zb_69 I79) (zs_69 I79) (by omega) ?_
                    have g89 := ra_69 I79 ((x5_ + (-1)) - 1)
                    refine ov_blk (ls2 := [(0, ov_r 58), (1, ov_i rule), (2, ov_i c), (3, ov_i ow), (4, ov_i nw), (5, ov_i (x5_ + (-1))), (6, ov_i x6_), (7, ov_i (h78 68 x6_))]) (st2 := [ov_r 58, ov_i (h78 69 ((x5_ + (-1)) - 1)), ov_i (h78 68 x6_), ov_i ((x5_ + (-1)) - 1), ov_r 69]) (pc2 := 181) b_138_180_1 rfl rfl ?_
                    refine ov_getf (v := ov_r 69) d_138_181 fl_Town_43 (zb_58 I79) (zs_58 I79) (congrArg ov_r (rg_58_17 I79)) ?_
                    refine ov_blk (ls2 := [(0, ov_r 58), (1, ov_i rule), (2, ov_i c), (3, ov_i ow), (4, ov_i nw), (5, ov_i (x5_ + (-1))), (6, ov_i x6_), (7, ov_i (h78 68 x6_))]) (st2 := [ov_i (x5_ + (-1)), ov_r 69, ov_i (h78 69 ((x5_ + (-1)) - 1)), ov_i (h78 68 x6_), ov_i ((x5_ + (-1)) - 1), ov_r 69]) (pc2 := 186) b_138_184_1 rfl rfl ?_
                    refine ov_iald d_138_186 (zb_69 I79) (zs_69 I79) (by omega) ?_
                    have g90 := ra_69 I79 (x5_ + (-1))
                    refine ov_cS (as := [ov_i (h78 68 x6_), ov_i (h78 69 ((x5_ + (-1)) - 1)), ov_i (h78 69 (x5_ + (-1)))]) (st := [ov_i ((x5_ + (-1)) - 1), ov_r 69]) (d2 := d - 1) d_138_187 lk_Town_109 rfl (Nat.le_of_ble_eq_true rfl) (by omega) (c_Town_joined (d - 1) (by omega) U I79 (h78 68 x6_) (h78 69 ((x5_ + (-1)) - 1)) (h78 69 (x5_ + (-1))) (by omega) (by omega) (by omega)) ?_
                    rintro _ _ _ ⟨v92, rfl, rfl, rfl, f91⟩
                    show ov_R u d ov_m138 190 [(0, ov_r 58), (1, ov_i rule), (2, ov_i c), (3, ov_i ow), (4, ov_i nw), (5, ov_i (x5_ + (-1))), (6, ov_i x6_), (7, ov_i (h78 68 x6_))] [ov_i v92, ov_i ((x5_ + (-1)) - 1), ov_r 69] z77 h78 (P_Town_ruleSaysOver_58 F z h rule c ow nw)
                    have f93 : -2147483648 ≤ v92 ∧ v92 ≤ 2147483647 := f91
                    clear f91
                    refine ov_iast d_138_190 (zb_69 I79) (zs_69 I79) (by omega) ?_
                    have I94 := ua_69 (k := ((x5_ + (-1)) - 1)) (x := v92) I79 (by omega) (hw 69 (by decide +kernel))
                    refine ov_blk (ls2 := [(0, ov_r 58), (1, ov_i rule), (2, ov_i c), (3, ov_i ow), (4, ov_i nw), (5, ov_i (x5_ + (-1))), (6, ov_i (x6_ + 1)), (7, ov_i (h78 68 x6_))]) (st2 := []) (pc2 := 194) b_138_191_1 rfl rfl ?_
                    refine ov_goto (tgt := 35) d_138_194 (by decide) ?_
                    refine ov_sub (ls2 := [(0, ov_r 58), (1, ov_i rule), (2, ov_i c), (3, ov_i ow), (4, ov_i nw), (5, ov_i (x5_ + (-1))), (6, ov_i (x6_ + 1))]) (List.Sublist.subset (by repeat (first | exact List.Sublist.refl _ | apply List.Sublist.cons_cons | apply List.Sublist.cons))) ?_
                    exact ih74 (x5_ + (-1)) (x6_ + 1) _ _ I94 (by show 0 ≤ (x5_ + (-1)) ∧ (x5_ + (-1)) ≤ 64 ∧ 0 ≤ (x6_ + 1) ∧ (x6_ + 1) ≤ 1000 ∧ 0 ≤ rule ∧ rule ≤ 3 ∧ (h78 36 7) = (h 36 7) ∧ (h78 1 1) = (h 1 1) ∧ (h78 90 2) = (h 90 2) ∧ (h78 0 10) = (h 0 10) ∧ (h78 0 11) = (h 0 11) ∧ (h78 0 12) = (h 0 12) ∧ (h78 0 13) = (h 0 13) ∧ (h78 3 1) = (h 3 1) ∧ (h78 36 8) = (h 36 8) ∧ (h78 46 3) = (h 46 3) ∧ (h78 46 4) = (h 46 4) ∧ (h78 49 4) = (h 49 4) ∧ (h78 49 5) = (h 49 5) ∧ (h78 64 0) = (h 64 0) ∧ (h78 76 0) = (h 76 0); omega) (by omega)
                · skip
                  refine ov_blk (ls2 := [(0, ov_r 58), (1, ov_i rule), (2, ov_i c), (3, ov_i ow), (4, ov_i nw), (5, ov_i x5_), (6, ov_i x6_), (7, ov_i (h78 68 x6_))]) (st2 := [ov_i 64, ov_i x5_]) (pc2 := 106) b_138_102_2 rfl rfl ?_
                  refine ov_icge (tgt := 152) d_138_106 (by decide) (by omega) (by omega) (fun c95 => ?_) (fun c95 => ?_)
                  · skip
                    refine ov_blk (ls2 := [(0, ov_r 58), (1, ov_i rule), (2, ov_i c), (3, ov_i ow), (4, ov_i nw), (5, ov_i x5_), (6, ov_i x6_), (7, ov_i (h78 68 x6_))]) (st2 := [ov_i 2, ov_i x5_]) (pc2 := 155) b_138_152_2 rfl rfl ?_
                    refine ov_iclt (tgt := 191) d_138_155 (by decide) (by omega) (by omega) (fun c96 => ?_) (fun c96 => ?_)
                    · skip
                      refine ov_blk (ls2 := [(0, ov_r 58), (1, ov_i rule), (2, ov_i c), (3, ov_i ow), (4, ov_i nw), (5, ov_i x5_), (6, ov_i (x6_ + 1)), (7, ov_i (h78 68 x6_))]) (st2 := []) (pc2 := 194) b_138_191_1 rfl rfl ?_
                      refine ov_goto (tgt := 35) d_138_194 (by decide) ?_
                      refine ov_sub (ls2 := [(0, ov_r 58), (1, ov_i rule), (2, ov_i c), (3, ov_i ow), (4, ov_i nw), (5, ov_i x5_), (6, ov_i (x6_ + 1))]) (List.Sublist.subset (by repeat (first | exact List.Sublist.refl _ | apply List.Sublist.cons_cons | apply List.Sublist.cons))) ?_
                      exact ih74 x5_ (x6_ + 1) _ _ I79 (by show 0 ≤ x5_ ∧ x5_ ≤ 64 ∧ 0 ≤ (x6_ + 1) ∧ (x6_ + 1) ≤ 1000 ∧ 0 ≤ rule ∧ rule ≤ 3 ∧ (h78 36 7) = (h 36 7) ∧ (h78 1 1) = (h 1 1) ∧ (h78 90 2) = (h 90 2) ∧ (h78 0 10) = (h 0 10) ∧ (h78 0 11) = (h 0 11) ∧ (h78 0 12) = (h 0 12) ∧ (h78 0 13) = (h 0 13) ∧ (h78 3 1) = (h 3 1) ∧ (h78 36 8) = (h 36 8) ∧ (h78 46 3) = (h 46 3) ∧ (h78 46 4) = (h 46 4) ∧ (h78 49 4) = (h 49 4) ∧ (h78 49 5) = (h 49 5) ∧ (h78 64 0) = (h 64 0) ∧ (h78 76 0) = (h 76 0); omega) (by omega)
                    · skip
                      refine ov_blk (ls2 := [(0, ov_r 58), (1, ov_i rule), (2, ov_i c), (3, ov_i ow), (4, ov_i nw), (5, ov_i (x5_ + (-1))), (6, ov_i x6_), (7, ov_i (h78 68 x6_))]) (st2 := [ov_r 58]) (pc2 := 162) b_138_158_2 rfl rfl ?_
                      refine ov_getf (v := ov_r 69) d_138_162 fl_Town_43 (zb_58 I79) (zs_58 I79) (congrArg ov_r (rg_58_17 I79)) ?_
                      refine ov_blk (ls2 := [(0, ov_r 58), (1, ov_i rule), (2, ov_i c), (3, ov_i ow), (4, ov_i nw), (5, ov_i (x5_ + (-1))), (6, ov_i x6_), (7, ov_i (h78 68 x6_))]) (st2 := [ov_r 58, ov_i (h78 68 x6_), ov_i ((x5_ + (-1)) - 1), ov_r 69]) (pc2 := 172) b_138_165_5 rfl rfl ?_
                      refine ov_getf (v := ov_r 69) d_138_172 fl_Town_43 (zb_58 I79) (zs_58 I79) (congrArg ov_r (rg_58_17 I79)) ?_
                      refine ov_blk (ls2 := [(0, ov_r 58), (1, ov_i rule), (2, ov_i c), (3, ov_i ow), (4, ov_i nw), (5, ov_i (x5_ + (-1))), (6, ov_i x6_), (7, ov_i (h78 68 x6_))]) (st2 := [ov_i ((x5_ + (-1)) - 1), ov_r 69, ov_i (h78 68 x6_), ov_i ((x5_ + (-1)) - 1), ov_r 69]) (pc2 := 179) b_138_175_3 rfl rfl ?_
                      refine ov_iald d_138_179 (zb_69 I79) (zs_69 I79) (by omega) ?_
                      have g97 := ra_69 I79 ((x5_ + (-1)) - 1)
                      refine ov_blk (ls2 := [(0, ov_r 58), (1, ov_i rule), (2, ov_i c), (3, ov_i ow), (4, ov_i nw), (5, ov_i (x5_ + (-1))), (6, ov_i x6_), (7, ov_i (h78 68 x6_))]) (st2 := [ov_r 58, ov_i (h78 69 ((x5_ + (-1)) - 1)), ov_i (h78 68 x6_), ov_i ((x5_ + (-1)) - 1), ov_r 69]) (pc2 := 181) b_138_180_1 rfl rfl ?_
                      refine ov_getf (v := ov_r 69) d_138_181 fl_Town_43 (zb_58 I79) (zs_58 I79) (congrArg ov_r (rg_58_17 I79)) ?_
                      refine ov_blk (ls2 := [(0, ov_r 58), (1, ov_i rule), (2, ov_i c), (3, ov_i ow), (4, ov_i nw), (5, ov_i (x5_ + (-1))), (6, ov_i x6_), (7, ov_i (h78 68 x6_))]) (st2 := [ov_i (x5_ + (-1)), ov_r 69, ov_i (h78 69 ((x5_ + (-1)) - 1)), ov_i (h78 68 x6_), ov_i ((x5_ + (-1)) - 1), ov_r 69]) (pc2 := 186) b_138_184_1 rfl rfl ?_
                      refine ov_iald d_138_186 (zb_69 I79) (zs_69 I79) (by omega) ?_
                      have g98 := ra_69 I79 (x5_ + (-1))
                      refine ov_cS (as := [ov_i (h78 68 x6_), ov_i (h78 69 ((x5_ + (-1)) - 1)), ov_i (h78 69 (x5_ + (-1)))]) (st := [ov_i ((x5_ + (-1)) - 1), ov_r 69]) (d2 := d - 1) d_138_187 lk_Town_109 rfl (Nat.le_of_ble_eq_true rfl) (by omega) (c_Town_joined (d - 1) (by omega) U I79 (h78 68 x6_) (h78 69 ((x5_ + (-1)) - 1)) (h78 69 (x5_ + (-1))) (by omega) (by omega) (by omega)) ?_
                      rintro _ _ _ ⟨v100, rfl, rfl, rfl, f99⟩
                      show ov_R u d ov_m138 190 [(0, ov_r 58), (1, ov_i rule), (2, ov_i c), (3, ov_i ow), (4, ov_i nw), (5, ov_i (x5_ + (-1))), (6, ov_i x6_), (7, ov_i (h78 68 x6_))] [ov_i v100, ov_i ((x5_ + (-1)) - 1), ov_r 69] z77 h78 (P_Town_ruleSaysOver_58 F z h rule c ow nw)
                      have f101 : -2147483648 ≤ v100 ∧ v100 ≤ 2147483647 := f99
                      clear f99
                      refine ov_iast d_138_190 (zb_69 I79) (zs_69 I79) (by omega) ?_
                      have I102 := ua_69 (k := ((x5_ + (-1)) - 1)) (x := v100) I79 (by omega) (hw 69 (by decide +kernel))
                      refine ov_blk (ls2 := [(0, ov_r 58), (1, ov_i rule), (2, ov_i c), (3, ov_i ow), (4, ov_i nw), (5, ov_i (x5_ + (-1))), (6, ov_i (x6_ + 1)), (7, ov_i (h78 68 x6_))]) (st2 := []) (pc2 := 194) b_138_191_1 rfl rfl ?_
                      refine ov_goto (tgt := 35) d_138_194 (by decide) ?_
                      refine ov_sub (ls2 := [(0, ov_r 58), (1, ov_i rule), (2, ov_i c), (3, ov_i ow), (4, ov_i nw), (5, ov_i (x5_ + (-1))), (6, ov_i (x6_ + 1))]) (List.Sublist.subset (by repeat (first | exact List.Sublist.refl _ | apply List.Sublist.cons_cons | apply List.Sublist.cons))) ?_
                      exact ih74 (x5_ + (-1)) (x6_ + 1) _ _ I102 (by show 0 ≤ (x5_ + (-1)) ∧ (x5_ + (-1)) ≤ 64 ∧ 0 ≤ (x6_ + 1) ∧ (x6_ + 1) ≤ 1000 ∧ 0 ≤ rule ∧ rule ≤ 3 ∧ (h78 36 7) = (h 36 7) ∧ (h78 1 1) = (h 1 1) ∧ (h78 90 2) = (h 90 2) ∧ (h78 0 10) = (h 0 10) ∧ (h78 0 11) = (h 0 11) ∧ (h78 0 12) = (h 0 12) ∧ (h78 0 13) = (h 0 13) ∧ (h78 3 1) = (h 3 1) ∧ (h78 36 8) = (h 36 8) ∧ (h78 46 3) = (h 46 3) ∧ (h78 46 4) = (h 46 4) ∧ (h78 49 4) = (h 49 4) ∧ (h78 49 5) = (h 49 5) ∧ (h78 64 0) = (h 64 0) ∧ (h78 76 0) = (h 76 0); omega) (by omega)
                  · skip
                    refine ov_blk (ls2 := [(0, ov_r 58), (1, ov_i rule), (2, ov_i c), (3, ov_i ow), (4, ov_i nw), (5, ov_i x5_), (6, ov_i x6_), (7, ov_i (h78 68 x6_))]) (st2 := [ov_r 58]) (pc2 := 110) b_138_109_1 rfl rfl ?_
                    refine ov_getf (v := ov_r 69) d_138_110 fl_Town_43 (zb_58 I79) (zs_58 I79) (congrArg ov_r (rg_58_17 I79)) ?_
                    refine ov_blk (ls2 := [(0, ov_r 58), (1, ov_i rule), (2, ov_i c), (3, ov_i ow), (4, ov_i nw), (5, ov_i x5_), (6, ov_i x6_), (7, ov_i (h78 68 x6_))]) (st2 := [ov_i 8, ov_i (h78 68 x6_), ov_i x5_, ov_r 69]) (pc2 := 119) b_138_113_3 rfl rfl ?_
                    refine ov_icne (tgt := 126) d_138_119 (by decide) (by omega) (by omega) (fun c103 => ?_) (fun c103 => ?_)
                    · skip
                      refine ov_blk (ls2 := [(0, ov_r 58), (1, ov_i rule), (2, ov_i c), (3, ov_i ow), (4, ov_i nw), (5, ov_i x5_), (6, ov_i x6_), (7, ov_i (h78 68 x6_))]) (st2 := [ov_i 9, ov_i (h78 68 x6_), ov_i x5_, ov_r 69]) (pc2 := 130) b_138_126_2 rfl rfl ?_
                      refine ov_icne (tgt := 138) d_138_130 (by decide) (by omega) (by omega) (fun c104 => ?_) (fun c104 => ?_)
                      · skip
                        refine ov_blk (ls2 := [(0, ov_r 58), (1, ov_i rule), (2, ov_i c), (3, ov_i ow), (4, ov_i nw), (5, ov_i x5_), (6, ov_i x6_), (7, ov_i (h78 68 x6_))]) (st2 := [ov_i c, ov_i (h78 68 x6_), ov_r 58, ov_i x5_, ov_r 69]) (pc2 := 142) b_138_138_3 rfl rfl ?_
                        refine ov_cV (as := [ov_i (h78 68 x6_), ov_i c]) (st := [ov_i x5_, ov_r 69]) (d2 := d - 1) d_138_142 lk_Town_106 rfl (Nat.le_of_ble_eq_true rfl) (c := 9) (zb_58 I79) (zs_58 I79) ⟨by decide, rfl⟩ (by omega) (c_Town_placeOrNumber_58 (d - 1) (by omega) U I79 (h78 68 x6_) c (by omega) (by omega) (by omega) (by omega)) ?_
                        rintro _ _ _ ⟨v106, rfl, rfl, rfl, f105⟩
                        show ov_R u d ov_m138 145 [(0, ov_r 58), (1, ov_i rule), (2, ov_i c), (3, ov_i ow), (4, ov_i nw), (5, ov_i x5_), (6, ov_i x6_), (7, ov_i (h78 68 x6_))] [ov_i v106, ov_i x5_, ov_r 69] z77 h78 (P_Town_ruleSaysOver_58 F z h rule c ow nw)
                        have f107 : -2147483648 ≤ v106 ∧ v106 ≤ 2147483647 := f105
                        clear f105
                        refine ov_iast d_138_145 (zb_69 I79) (zs_69 I79) (by omega) ?_
                        have I108 := ua_69 (k := x5_) (x := v106) I79 (by omega) (hw 69 (by decide +kernel))
                        refine ov_blk (ls2 := [(0, ov_r 58), (1, ov_i rule), (2, ov_i c), (3, ov_i ow), (4, ov_i nw), (5, ov_i (x5_ + 1)), (6, ov_i x6_), (7, ov_i (h78 68 x6_))]) (st2 := []) (pc2 := 149) b_138_146_1 rfl rfl ?_
                        refine ov_goto (tgt := 191) d_138_149 (by decide) ?_
                        refine ov_blk (ls2 := [(0, ov_r 58), (1, ov_i rule), (2, ov_i c), (3, ov_i ow), (4, ov_i nw), (5, ov_i (x5_ + 1)), (6, ov_i (x6_ + 1)), (7, ov_i (h78 68 x6_))]) (st2 := []) (pc2 := 194) b_138_191_1 rfl rfl ?_
                        refine ov_goto (tgt := 35) d_138_194 (by decide) ?_
                        refine ov_sub (ls2 := [(0, ov_r 58), (1, ov_i rule), (2, ov_i c), (3, ov_i ow), (4, ov_i nw), (5, ov_i (x5_ + 1)), (6, ov_i (x6_ + 1))]) (List.Sublist.subset (by repeat (first | exact List.Sublist.refl _ | apply List.Sublist.cons_cons | apply List.Sublist.cons))) ?_
                        exact ih74 (x5_ + 1) (x6_ + 1) _ _ I108 (by show 0 ≤ (x5_ + 1) ∧ (x5_ + 1) ≤ 64 ∧ 0 ≤ (x6_ + 1) ∧ (x6_ + 1) ≤ 1000 ∧ 0 ≤ rule ∧ rule ≤ 3 ∧ (h78 36 7) = (h 36 7) ∧ (h78 1 1) = (h 1 1) ∧ (h78 90 2) = (h 90 2) ∧ (h78 0 10) = (h 0 10) ∧ (h78 0 11) = (h 0 11) ∧ (h78 0 12) = (h 0 12) ∧ (h78 0 13) = (h 0 13) ∧ (h78 3 1) = (h 3 1) ∧ (h78 36 8) = (h 36 8) ∧ (h78 46 3) = (h 46 3) ∧ (h78 46 4) = (h 46 4) ∧ (h78 49 4) = (h 49 4) ∧ (h78 49 5) = (h 49 5) ∧ (h78 64 0) = (h 64 0) ∧ (h78 76 0) = (h 76 0); omega) (by omega)
                      · skip
                        refine ov_blk (ls2 := [(0, ov_r 58), (1, ov_i rule), (2, ov_i c), (3, ov_i ow), (4, ov_i nw), (5, ov_i x5_), (6, ov_i x6_), (7, ov_i (h78 68 x6_))]) (st2 := [ov_i nw, ov_i x5_, ov_r 69]) (pc2 := 135) b_138_133_1 rfl rfl ?_
                        refine ov_goto (tgt := 145) d_138_135 (by decide) ?_
                        refine ov_iast d_138_145 (zb_69 I79) (zs_69 I79) (by omega) ?_
                        have I109 := ua_69 (k := x5_) (x := nw) I79 (by omega) (hw 69 (by decide +kernel))
                        refine ov_blk (ls2 := [(0, ov_r 58), (1, ov_i rule), (2, ov_i c), (3, ov_i ow), (4, ov_i nw), (5, ov_i (x5_ + 1)), (6, ov_i x6_), (7, ov_i (h78 68 x6_))]) (st2 := []) (pc2 := 149) b_138_146_1 rfl rfl ?_
                        refine ov_goto (tgt := 191) d_138_149 (by decide) ?_
                        refine ov_blk (ls2 := [(0, ov_r 58), (1, ov_i rule), (2, ov_i c), (3, ov_i ow), (4, ov_i nw), (5, ov_i (x5_ + 1)), (6, ov_i (x6_ + 1)), (7, ov_i (h78 68 x6_))]) (st2 := []) (pc2 := 194) b_138_191_1 rfl rfl ?_
                        refine ov_goto (tgt := 35) d_138_194 (by decide) ?_
                        refine ov_sub (ls2 := [(0, ov_r 58), (1, ov_i rule), (2, ov_i c), (3, ov_i ow), (4, ov_i nw), (5, ov_i (x5_ + 1)), (6, ov_i (x6_ + 1))]) (List.Sublist.subset (by repeat (first | exact List.Sublist.refl _ | apply List.Sublist.cons_cons | apply List.Sublist.cons))) ?_
                        exact ih74 (x5_ + 1) (x6_ + 1) _ _ I109 (by show 0 ≤ (x5_ + 1) ∧ (x5_ + 1) ≤ 64 ∧ 0 ≤ (x6_ + 1) ∧ (x6_ + 1) ≤ 1000 ∧ 0 ≤ rule ∧ rule ≤ 3 ∧ (h78 36 7) = (h 36 7) ∧ (h78 1 1) = (h 1 1) ∧ (h78 90 2) = (h 90 2) ∧ (h78 0 10) = (h 0 10) ∧ (h78 0 11) = (h 0 11) ∧ (h78 0 12) = (h 0 12) ∧ (h78 0 13) = (h 0 13) ∧ (h78 3 1) = (h 3 1) ∧ (h78 36 8) = (h 36 8) ∧ (h78 46 3) = (h 46 3) ∧ (h78 46 4) = (h 46 4) ∧ (h78 49 4) = (h 49 4) ∧ (h78 49 5) = (h 49 5) ∧ (h78 64 0) = (h 64 0) ∧ (h78 76 0) = (h 76 0); omega) (by omega)
                    · skip
                      refine ov_blk (ls2 := [(0, ov_r 58), (1, ov_i rule), (2, ov_i c), (3, ov_i ow), (4, ov_i nw), (5, ov_i x5_), (6, ov_i x6_), (7, ov_i (h78 68 x6_))]) (st2 := [ov_i ow, ov_i x5_, ov_r 69]) (pc2 := 123) b_138_122_1 rfl rfl ?_
                      refine ov_goto (tgt := 145) d_138_123 (by decide) ?_
                      refine ov_iast d_138_145 (zb_69 I79) (zs_69 I79) (by omega) ?_
                      have I110 := ua_69 (k := x5_) (x := ow) I79 (by omega) (hw 69 (by decide +kernel))
                      refine ov_blk (ls2 := [(0, ov_r 58), (1, ov_i rule), (2, ov_i c), (3, ov_i ow), (4, ov_i nw), (5, ov_i (x5_ + 1)), (6, ov_i x6_), (7, ov_i (h78 68 x6_))]) (st2 := []) (pc2 := 149) b_138_146_1 rfl rfl ?_
                      refine ov_goto (tgt := 191) d_138_149 (by decide) ?_
                      refine ov_blk (ls2 := [(0, ov_r 58), (1, ov_i rule), (2, ov_i c), (3, ov_i ow), (4, ov_i nw), (5, ov_i (x5_ + 1)), (6, ov_i (x6_ + 1)), (7, ov_i (h78 68 x6_))]) (st2 := []) (pc2 := 194) b_138_191_1 rfl rfl ?_
                      refine ov_goto (tgt := 35) d_138_194 (by decide) ?_
                      refine ov_sub (ls2 := [(0, ov_r 58), (1, ov_i rule), (2, ov_i c), (3, ov_i ow), (4, ov_i nw), (5, ov_i (x5_ + 1)), (6, ov_i (x6_ + 1))]) (List.Sublist.subset (by repeat (first | exact List.Sublist.refl _ | apply List.Sublist.cons_cons | apply List.Sublist.cons))) ?_
                      exact ih74 (x5_ + 1) (x6_ + 1) _ _ I110 (by show 0 ≤ (x5_ + 1) ∧ (x5_ + 1) ≤ 64 ∧ 0 ≤ (x6_ + 1) ∧ (x6_ + 1) ≤ 1000 ∧ 0 ≤ rule ∧ rule ≤ 3 ∧ (h78 36 7) = (h 36 7) ∧ (h78 1 1) = (h 1 1) ∧ (h78 90 2) = (h 90 2) ∧ (h78 0 10) = (h 0 10) ∧ (h78 0 11) = (h 0 11) ∧ (h78 0 12) = (h 0 12) ∧ (h78 0 13) = (h 0 13) ∧ (h78 3 1) = (h 3 1) ∧ (h78 36 8) = (h 36 8) ∧ (h78 46 3) = (h 46 3) ∧ (h78 46 4) = (h 46 4) ∧ (h78 49 4) = (h 49 4) ∧ (h78 49 5) = (h 49 5) ∧ (h78 64 0) = (h 64 0) ∧ (h78 76 0) = (h 76 0); omega) (by omega)
              · skip
                refine ov_blk (ls2 := [(0, ov_r 58), (1, ov_i rule), (2, ov_i c), (3, ov_i ow), (4, ov_i nw), (5, ov_i x5_), (6, ov_i x6_), (7, ov_i (h78 68 x6_))]) (st2 := [ov_i 1, ov_i x5_]) (pc2 := 63) b_138_60_2 rfl rfl ?_
                refine ov_iclt (tgt := 95) d_138_63 (by decide) (by omega) (by omega) (fun c111 => ?_) (fun c111 => ?_)
                · skip
                  refine ov_blk (ls2 := [(0, ov_r 58), (1, ov_i rule), (2, ov_i c), (3, ov_i ow), (4, ov_i nw), (5, ov_i x5_), (6, ov_i x6_), (7, ov_i (h78 68 x6_))]) (st2 := [ov_i 8, ov_i (h78 68 x6_)]) (pc2 := 99) b_138_95_2 rfl rfl ?_
                  refine ov_iclt (tgt := 152) d_138_99 (by decide) (by omega) (by omega) (fun c112 => ?_) (fun c112 => ?_)
                  · skip
                    refine ov_blk (ls2 := [(0, ov_r 58), (1, ov_i rule), (2, ov_i c), (3, ov_i ow), (4, ov_i nw), (5, ov_i x5_), (6, ov_i x6_), (7, ov_i (h78 68 x6_))]) (st2 := [ov_i 2, ov_i x5_]) (pc2 := 155) b_138_152_2 rfl rfl ?_
                    refine ov_iclt (tgt := 191) d_138_155 (by decide) (by omega) (by omega) (fun c113 => ?_) (fun c113 => ?_)
                    · skip
                      refine ov_blk (ls2 := [(0, ov_r 58), (1, ov_i rule), (2, ov_i c), (3, ov_i ow), (4, ov_i nw), (5, ov_i x5_), (6, ov_i (x6_ + 1)), (7, ov_i (h78 68 x6_))]) (st2 := []) (pc2 := 194) b_138_191_1 rfl rfl ?_
                      refine ov_goto (tgt := 35) d_138_194 (by decide) ?_
                      refine ov_sub (ls2 := [(0, ov_r 58), (1, ov_i rule), (2, ov_i c), (3, ov_i ow), (4, ov_i nw), (5, ov_i x5_), (6, ov_i (x6_ + 1))]) (List.Sublist.subset (by repeat (first | exact List.Sublist.refl _ | apply List.Sublist.cons_cons | apply List.Sublist.cons))) ?_
                      exact ih74 x5_ (x6_ + 1) _ _ I79 (by show 0 ≤ x5_ ∧ x5_ ≤ 64 ∧ 0 ≤ (x6_ + 1) ∧ (x6_ + 1) ≤ 1000 ∧ 0 ≤ rule ∧ rule ≤ 3 ∧ (h78 36 7) = (h 36 7) ∧ (h78 1 1) = (h 1 1) ∧ (h78 90 2) = (h 90 2) ∧ (h78 0 10) = (h 0 10) ∧ (h78 0 11) = (h 0 11) ∧ (h78 0 12) = (h 0 12) ∧ (h78 0 13) = (h 0 13) ∧ (h78 3 1) = (h 3 1) ∧ (h78 36 8) = (h 36 8) ∧ (h78 46 3) = (h 46 3) ∧ (h78 46 4) = (h 46 4) ∧ (h78 49 4) = (h 49 4) ∧ (h78 49 5) = (h 49 5) ∧ (h78 64 0) = (h 64 0) ∧ (h78 76 0) = (h 76 0); omega) (by omega)
                    · skip
                      refine ov_blk (ls2 := [(0, ov_r 58), (1, ov_i rule), (2, ov_i c), (3, ov_i ow), (4, ov_i nw), (5, ov_i (x5_ + (-1))), (6, ov_i x6_), (7, ov_i (h78 68 x6_))]) (st2 := [ov_r 58]) (pc2 := 162) b_138_158_2 rfl rfl ?_
                      refine ov_getf (v := ov_r 69) d_138_162 fl_Town_43 (zb_58 I79) (zs_58 I79) (congrArg ov_r (rg_58_17 I79)) ?_
                      refine ov_blk (ls2 := [(0, ov_r 58), (1, ov_i rule), (2, ov_i c), (3, ov_i ow), (4, ov_i nw), (5, ov_i (x5_ + (-1))), (6, ov_i x6_), (7, ov_i (h78 68 x6_))]) (st2 := [ov_r 58, ov_i (h78 68 x6_), ov_i ((x5_ + (-1)) - 1), ov_r 69]) (pc2 := 172) b_138_165_5 rfl rfl ?_
                      refine ov_getf (v := ov_r 69) d_138_172 fl_Town_43 (zb_58 I79) (zs_58 I79) (congrArg ov_r (rg_58_17 I79)) ?_
                      refine ov_blk (ls2 := [(0, ov_r 58), (1, ov_i rule), (2, ov_i c), (3, ov_i ow), (4, ov_i nw), (5, ov_i (x5_ + (-1))), (6, ov_i x6_), (7, ov_i (h78 68 x6_))]) (st2 := [ov_i ((x5_ + (-1)) - 1), ov_r 69, ov_i (h78 68 x6_), ov_i ((x5_ + (-1)) - 1), ov_r 69]) (pc2 := 179) b_138_175_3 rfl rfl ?_
                      refine ov_iald d_138_179 (zb_69 I79) (zs_69 I79) (by omega) ?_
                      have g114 := ra_69 I79 ((x5_ + (-1)) - 1)
                      refine ov_blk (ls2 := [(0, ov_r 58), (1, ov_i rule), (2, ov_i c), (3, ov_i ow), (4, ov_i nw), (5, ov_i (x5_ + (-1))), (6, ov_i x6_), (7, ov_i (h78 68 x6_))]) (st2 := [ov_r 58, ov_i (h78 69 ((x5_ + (-1)) - 1)), ov_i (h78 68 x6_), ov_i ((x5_ + (-1)) - 1), ov_r 69]) (pc2 := 181) b_138_180_1 rfl rfl ?_
                      refine ov_getf (v := ov_r 69) d_138_181 fl_Town_43 (zb_58 I79) (zs_58 I79) (congrArg ov_r (rg_58_17 I79)) ?_
                      refine ov_blk (ls2 := [(0, ov_r 58), (1, ov_i rule), (2, ov_i c), (3, ov_i ow), (4, ov_i nw), (5, ov_i (x5_ + (-1))), (6, ov_i x6_), (7, ov_i (h78 68 x6_))]) (st2 := [ov_i (x5_ + (-1)), ov_r 69, ov_i (h78 69 ((x5_ + (-1)) - 1)), ov_i (h78 68 x6_), ov_i ((x5_ + (-1)) - 1), ov_r 69]) (pc2 := 186) b_138_184_1 rfl rfl ?_
                      refine ov_iald d_138_186 (zb_69 I79) (zs_69 I79) (by omega) ?_
                      have g115 := ra_69 I79 (x5_ + (-1))
                      refine ov_cS (as := [ov_i (h78 68 x6_), ov_i (h78 69 ((x5_ + (-1)) - 1)), ov_i (h78 69 (x5_ + (-1)))]) (st := [ov_i ((x5_ + (-1)) - 1), ov_r 69]) (d2 := d - 1) d_138_187 lk_Town_109 rfl (Nat.le_of_ble_eq_true rfl) (by omega) (c_Town_joined (d - 1) (by omega) U I79 (h78 68 x6_) (h78 69 ((x5_ + (-1)) - 1)) (h78 69 (x5_ + (-1))) (by omega) (by omega) (by omega)) ?_
                      rintro _ _ _ ⟨v117, rfl, rfl, rfl, f116⟩
                      show ov_R u d ov_m138 190 [(0, ov_r 58), (1, ov_i rule), (2, ov_i c), (3, ov_i ow), (4, ov_i nw), (5, ov_i (x5_ + (-1))), (6, ov_i x6_), (7, ov_i (h78 68 x6_))] [ov_i v117, ov_i ((x5_ + (-1)) - 1), ov_r 69] z77 h78 (P_Town_ruleSaysOver_58 F z h rule c ow nw)
                      have f118 : -2147483648 ≤ v117 ∧ v117 ≤ 2147483647 := f116
                      clear f116
                      refine ov_iast d_138_190 (zb_69 I79) (zs_69 I79) (by omega) ?_
                      have I119 := ua_69 (k := ((x5_ + (-1)) - 1)) (x := v117) I79 (by omega) (hw 69 (by decide +kernel))
                      refine ov_blk (ls2 := [(0, ov_r 58), (1, ov_i rule), (2, ov_i c), (3, ov_i ow), (4, ov_i nw), (5, ov_i (x5_ + (-1))), (6, ov_i (x6_ + 1)), (7, ov_i (h78 68 x6_))]) (st2 := []) (pc2 := 194) b_138_191_1 rfl rfl ?_
                      refine ov_goto (tgt := 35) d_138_194 (by decide) ?_
                      refine ov_sub (ls2 := [(0, ov_r 58), (1, ov_i rule), (2, ov_i c), (3, ov_i ow), (4, ov_i nw), (5, ov_i (x5_ + (-1))), (6, ov_i (x6_ + 1))]) (List.Sublist.subset (by repeat (first | exact List.Sublist.refl _ | apply List.Sublist.cons_cons | apply List.Sublist.cons))) ?_
                      exact ih74 (x5_ + (-1)) (x6_ + 1) _ _ I119 (by show 0 ≤ (x5_ + (-1)) ∧ (x5_ + (-1)) ≤ 64 ∧ 0 ≤ (x6_ + 1) ∧ (x6_ + 1) ≤ 1000 ∧ 0 ≤ rule ∧ rule ≤ 3 ∧ (h78 36 7) = (h 36 7) ∧ (h78 1 1) = (h 1 1) ∧ (h78 90 2) = (h 90 2) ∧ (h78 0 10) = (h 0 10) ∧ (h78 0 11) = (h 0 11) ∧ (h78 0 12) = (h 0 12) ∧ (h78 0 13) = (h 0 13) ∧ (h78 3 1) = (h 3 1) ∧ (h78 36 8) = (h 36 8) ∧ (h78 46 3) = (h 46 3) ∧ (h78 46 4) = (h 46 4) ∧ (h78 49 4) = (h 49 4) ∧ (h78 49 5) = (h 49 5) ∧ (h78 64 0) = (h 64 0) ∧ (h78 76 0) = (h 76 0); omega) (by omega)
                  · skip
                    refine ov_blk (ls2 := [(0, ov_r 58), (1, ov_i rule), (2, ov_i c), (3, ov_i ow), (4, ov_i nw), (5, ov_i x5_), (6, ov_i x6_), (7, ov_i (h78 68 x6_))]) (st2 := [ov_i 64, ov_i x5_]) (pc2 := 106) b_138_102_2 rfl rfl ?_
                    refine ov_icge (tgt := 152) d_138_106 (by decide) (by omega) (by omega) (fun c120 => ?_) (fun c120 => ?_)
                    · skip
                      refine ov_blk (ls2 := [(0, ov_r 58), (1, ov_i rule), (2, ov_i c), (3, ov_i ow), (4, ov_i nw), (5, ov_i x5_), (6, ov_i x6_), (7, ov_i (h78 68 x6_))]) (st2 := [ov_i 2, ov_i x5_]) (pc2 := 155) b_138_152_2 rfl rfl ?_
                      refine ov_iclt (tgt := 191) d_138_155 (by decide) (by omega) (by omega) (fun c121 => ?_) (fun c121 => ?_)
                      · skip
                        refine ov_blk (ls2 := [(0, ov_r 58), (1, ov_i rule), (2, ov_i c), (3, ov_i ow), (4, ov_i nw), (5, ov_i x5_), (6, ov_i (x6_ + 1)), (7, ov_i (h78 68 x6_))]) (st2 := []) (pc2 := 194) b_138_191_1 rfl rfl ?_
                        refine ov_goto (tgt := 35) d_138_194 (by decide) ?_
                        refine ov_sub (ls2 := [(0, ov_r 58), (1, ov_i rule), (2, ov_i c), (3, ov_i ow), (4, ov_i nw), (5, ov_i x5_), (6, ov_i (x6_ + 1))]) (List.Sublist.subset (by repeat (first | exact List.Sublist.refl _ | apply List.Sublist.cons_cons | apply List.Sublist.cons))) ?_
                        exact ih74 x5_ (x6_ + 1) _ _ I79 (by show 0 ≤ x5_ ∧ x5_ ≤ 64 ∧ 0 ≤ (x6_ + 1) ∧ (x6_ + 1) ≤ 1000 ∧ 0 ≤ rule ∧ rule ≤ 3 ∧ (h78 36 7) = (h 36 7) ∧ (h78 1 1) = (h 1 1) ∧ (h78 90 2) = (h 90 2) ∧ (h78 0 10) = (h 0 10) ∧ (h78 0 11) = (h 0 11) ∧ (h78 0 12) = (h 0 12) ∧ (h78 0 13) = (h 0 13) ∧ (h78 3 1) = (h 3 1) ∧ (h78 36 8) = (h 36 8) ∧ (h78 46 3) = (h 46 3) ∧ (h78 46 4) = (h 46 4) ∧ (h78 49 4) = (h 49 4) ∧ (h78 49 5) = (h 49 5) ∧ (h78 64 0) = (h 64 0) ∧ (h78 76 0) = (h 76 0); omega) (by omega)
                      · skip
                        refine ov_blk (ls2 := [(0, ov_r 58), (1, ov_i rule), (2, ov_i c), (3, ov_i ow), (4, ov_i nw), (5, ov_i (x5_ + (-1))), (6, ov_i x6_), (7, ov_i (h78 68 x6_))]) (st2 := [ov_r 58]) (pc2 := 162) b_138_158_2 rfl rfl ?_
                        refine ov_getf (v := ov_r 69) d_138_162 fl_Town_43 (zb_58 I79) (zs_58 I79) (congrArg ov_r (rg_58_17 I79)) ?_
                        refine ov_blk (ls2 := [(0, ov_r 58), (1, ov_i rule), (2, ov_i c), (3, ov_i ow), (4, ov_i nw), (5, ov_i (x5_ + (-1))), (6, ov_i x6_), (7, ov_i (h78 68 x6_))]) (st2 := [ov_r 58, ov_i (h78 68 x6_), ov_i ((x5_ + (-1)) - 1), ov_r 69]) (pc2 := 172) b_138_165_5 rfl rfl ?_
                        refine ov_getf (v := ov_r 69) d_138_172 fl_Town_43 (zb_58 I79) (zs_58 I79) (congrArg ov_r (rg_58_17 I79)) ?_
                        refine ov_blk (ls2 := [(0, ov_r 58), (1, ov_i rule), (2, ov_i c), (3, ov_i ow), (4, ov_i nw), (5, ov_i (x5_ + (-1))), (6, ov_i x6_), (7, ov_i (h78 68 x6_))]) (st2 := [ov_i ((x5_ + (-1)) - 1), ov_r 69, ov_i (h78 68 x6_), ov_i ((x5_ + (-1)) - 1), ov_r 69]) (pc2 := 179) b_138_175_3 rfl rfl ?_
                        refine ov_iald d_138_179 (zb_69 I79) (zs_69 I79) (by omega) ?_
                        have g122 := ra_69 I79 ((x5_ + (-1)) - 1)
                        refine ov_blk (ls2 := [(0, ov_r 58), (1, ov_i rule), (2, ov_i c), (3, ov_i ow), (4, ov_i nw), (5, ov_i (x5_ + (-1))), (6, ov_i x6_), (7, ov_i (h78 68 x6_))]) (st2 := [ov_r 58, ov_i (h78 69 ((x5_ + (-1)) - 1)), ov_i (h78 68 x6_), ov_i ((x5_ + (-1)) - 1), ov_r 69]) (pc2 := 181) b_138_180_1 rfl rfl ?_
                        refine ov_getf (v := ov_r 69) d_138_181 fl_Town_43 (zb_58 I79) (zs_58 I79) (congrArg ov_r (rg_58_17 I79)) ?_
                        refine ov_blk (ls2 := [(0, ov_r 58), (1, ov_i rule), (2, ov_i c), (3, ov_i ow), (4, ov_i nw), (5, ov_i (x5_ + (-1))), (6, ov_i x6_), (7, ov_i (h78 68 x6_))]) (st2 := [ov_i (x5_ + (-1)), ov_r 69, ov_i (h78 69 ((x5_ + (-1)) - 1)), ov_i (h78 68 x6_), ov_i ((x5_ + (-1)) - 1), ov_r 69]) (pc2 := 186) b_138_184_1 rfl rfl ?_
                        refine ov_iald d_138_186 (zb_69 I79) (zs_69 I79) (by omega) ?_
                        have g123 := ra_69 I79 (x5_ + (-1))
                        refine ov_cS (as := [ov_i (h78 68 x6_), ov_i (h78 69 ((x5_ + (-1)) - 1)), ov_i (h78 69 (x5_ + (-1)))]) (st := [ov_i ((x5_ + (-1)) - 1), ov_r 69]) (d2 := d - 1) d_138_187 lk_Town_109 rfl (Nat.le_of_ble_eq_true rfl) (by omega) (c_Town_joined (d - 1) (by omega) U I79 (h78 68 x6_) (h78 69 ((x5_ + (-1)) - 1)) (h78 69 (x5_ + (-1))) (by omega) (by omega) (by omega)) ?_
                        rintro _ _ _ ⟨v125, rfl, rfl, rfl, f124⟩
                        show ov_R u d ov_m138 190 [(0, ov_r 58), (1, ov_i rule), (2, ov_i c), (3, ov_i ow), (4, ov_i nw), (5, ov_i (x5_ + (-1))), (6, ov_i x6_), (7, ov_i (h78 68 x6_))] [ov_i v125, ov_i ((x5_ + (-1)) - 1), ov_r 69] z77 h78 (P_Town_ruleSaysOver_58 F z h rule c ow nw)
                        have f126 : -2147483648 ≤ v125 ∧ v125 ≤ 2147483647 := f124
                        clear f124
                        refine ov_iast d_138_190 (zb_69 I79) (zs_69 I79) (by omega) ?_
                        have I127 := ua_69 (k := ((x5_ + (-1)) - 1)) (x := v125) I79 (by omega) (hw 69 (by decide +kernel))
                        refine ov_blk (ls2 := [(0, ov_r 58), (1, ov_i rule), (2, ov_i c), (3, ov_i ow), (4, ov_i nw), (5, ov_i (x5_ + (-1))), (6, ov_i (x6_ + 1)), (7, ov_i (h78 68 x6_))]) (st2 := []) (pc2 := 194) b_138_191_1 rfl rfl ?_
                        refine ov_goto (tgt := 35) d_138_194 (by decide) ?_
                        refine ov_sub (ls2 := [(0, ov_r 58), (1, ov_i rule), (2, ov_i c), (3, ov_i ow), (4, ov_i nw), (5, ov_i (x5_ + (-1))), (6, ov_i (x6_ + 1))]) (List.Sublist.subset (by repeat (first | exact List.Sublist.refl _ | apply List.Sublist.cons_cons | apply List.Sublist.cons))) ?_
                        exact ih74 (x5_ + (-1)) (x6_ + 1) _ _ I127 (by show 0 ≤ (x5_ + (-1)) ∧ (x5_ + (-1)) ≤ 64 ∧ 0 ≤ (x6_ + 1) ∧ (x6_ + 1) ≤ 1000 ∧ 0 ≤ rule ∧ rule ≤ 3 ∧ (h78 36 7) = (h 36 7) ∧ (h78 1 1) = (h 1 1) ∧ (h78 90 2) = (h 90 2) ∧ (h78 0 10) = (h 0 10) ∧ (h78 0 11) = (h 0 11) ∧ (h78 0 12) = (h 0 12) ∧ (h78 0 13) = (h 0 13) ∧ (h78 3 1) = (h 3 1) ∧ (h78 36 8) = (h 36 8) ∧ (h78 46 3) = (h 46 3) ∧ (h78 46 4) = (h 46 4) ∧ (h78 49 4) = (h 49 4) ∧ (h78 49 5) = (h 49 5) ∧ (h78 64 0) = (h 64 0) ∧ (h78 76 0) = (h 76 0); omega) (by omega)
                    · skip
                      refine ov_blk (ls2 := [(0, ov_r 58), (1, ov_i rule), (2, ov_i c), (3, ov_i ow), (4, ov_i nw), (5, ov_i x5_), (6, ov_i x6_), (7, ov_i (h78 68 x6_))]) (st2 := [ov_r 58]) (pc2 := 110) b_138_109_1 rfl rfl ?_
                      refine ov_getf (v := ov_r 69) d_138_110 fl_Town_43 (zb_58 I79) (zs_58 I79) (congrArg ov_r (rg_58_17 I79)) ?_
                      refine ov_blk (ls2 := [(0, ov_r 58), (1, ov_i rule), (2, ov_i c), (3, ov_i ow), (4, ov_i nw), (5, ov_i x5_), (6, ov_i x6_), (7, ov_i (h78 68 x6_))]) (st2 := [ov_i 8, ov_i (h78 68 x6_), ov_i x5_, ov_r 69]) (pc2 := 119) b_138_113_3 rfl rfl ?_
                      refine ov_icne (tgt := 126) d_138_119 (by decide) (by omega) (by omega) (fun c128 => ?_) (fun c128 => ?_)
                      · skip
                        refine ov_blk (ls2 := [(0, ov_r 58), (1, ov_i rule), (2, ov_i c), (3, ov_i ow), (4, ov_i nw), (5, ov_i x5_), (6, ov_i x6_), (7, ov_i (h78 68 x6_))]) (st2 := [ov_i 9, ov_i (h78 68 x6_), ov_i x5_, ov_r 69]) (pc2 := 130) b_138_126_2 rfl rfl ?_
                        refine ov_icne (tgt := 138) d_138_130 (by decide) (by omega) (by omega) (fun c129 => ?_) (fun c129 => ?_)
                        · skip
                          refine ov_blk (ls2 := [(0, ov_r 58), (1, ov_i rule), (2, ov_i c), (3, ov_i ow), (4, ov_i nw), (5, ov_i x5_), (6, ov_i x6_), (7, ov_i (h78 68 x6_))]) (st2 := [ov_i c, ov_i (h78 68 x6_), ov_r 58, ov_i x5_, ov_r 69]) (pc2 := 142) b_138_138_3 rfl rfl ?_
                          refine ov_cV (as := [ov_i (h78 68 x6_), ov_i c]) (st := [ov_i x5_, ov_r 69]) (d2 := d - 1) d_138_142 lk_Town_106 rfl (Nat.le_of_ble_eq_true rfl) (c := 9) (zb_58 I79) (zs_58 I79) ⟨by decide, rfl⟩ (by omega) (c_Town_placeOrNumber_58 (d - 1) (by omega) U I79 (h78 68 x6_) c (by omega) (by omega) (by omega) (by omega)) ?_
                          rintro _ _ _ ⟨v131, rfl, rfl, rfl, f130⟩
                          show ov_R u d ov_m138 145 [(0, ov_r 58), (1, ov_i rule), (2, ov_i c), (3, ov_i ow), (4, ov_i nw), (5, ov_i x5_), (6, ov_i x6_), (7, ov_i (h78 68 x6_))] [ov_i v131, ov_i x5_, ov_r 69] z77 h78 (P_Town_ruleSaysOver_58 F z h rule c ow nw)
                          have f132 : -2147483648 ≤ v131 ∧ v131 ≤ 2147483647 := f130
                          clear f130
                          refine ov_iast d_138_145 (zb_69 I79) (zs_69 I79) (by omega) ?_
                          have I133 := ua_69 (k := x5_) (x := v131) I79 (by omega) (hw 69 (by decide +kernel))
                          refine ov_blk (ls2 := [(0, ov_r 58), (1, ov_i rule), (2, ov_i c), (3, ov_i ow), (4, ov_i nw), (5, ov_i (x5_ + 1)), (6, ov_i x6_), (7, ov_i (h78 68 x6_))]) (st2 := []) (pc2 := 149) b_138_146_1 rfl rfl ?_
                          refine ov_goto (tgt := 191) d_138_149 (by decide) ?_
                          refine ov_blk (ls2 := [(0, ov_r 58), (1, ov_i rule), (2, ov_i c), (3, ov_i ow), (4, ov_i nw), (5, ov_i (x5_ + 1)), (6, ov_i (x6_ + 1)), (7, ov_i (h78 68 x6_))]) (st2 := []) (pc2 := 194) b_138_191_1 rfl rfl ?_
                          refine ov_goto (tgt := 35) d_138_194 (by decide) ?_
                          refine ov_sub (ls2 := [(0, ov_r 58), (1, ov_i rule), (2, ov_i c), (3, ov_i ow), (4, ov_i nw), (5, ov_i (x5_ + 1)), (6, ov_i (x6_ + 1))]) (List.Sublist.subset (by repeat (first | exact List.Sublist.refl _ | apply List.Sublist.cons_cons | apply List.Sublist.cons))) ?_
                          exact ih74 (x5_ + 1) (x6_ + 1) _ _ I133 (by show 0 ≤ (x5_ + 1) ∧ (x5_ + 1) ≤ 64 ∧ 0 ≤ (x6_ + 1) ∧ (x6_ + 1) ≤ 1000 ∧ 0 ≤ rule ∧ rule ≤ 3 ∧ (h78 36 7) = (h 36 7) ∧ (h78 1 1) = (h 1 1) ∧ (h78 90 2) = (h 90 2) ∧ (h78 0 10) = (h 0 10) ∧ (h78 0 11) = (h 0 11) ∧ (h78 0 12) = (h 0 12) ∧ (h78 0 13) = (h 0 13) ∧ (h78 3 1) = (h 3 1) ∧ (h78 36 8) = (h 36 8) ∧ (h78 46 3) = (h 46 3) ∧ (h78 46 4) = (h 46 4) ∧ (h78 49 4) = (h 49 4) ∧ (h78 49 5) = (h 49 5) ∧ (h78 64 0) = (h 64 0) ∧ (h78 76 0) = (h 76 0); omega) (by omega)
                        · skip
                          refine ov_blk (ls2 := [(0, ov_r 58), (1, ov_i rule), (2, ov_i c), (3, ov_i ow), (4, ov_i nw), (5, ov_i x5_), (6, ov_i x6_), (7, ov_i (h78 68 x6_))]) (st2 := [ov_i nw, ov_i x5_, ov_r 69]) (pc2 := 135) b_138_133_1 rfl rfl ?_
                          refine ov_goto (tgt := 145) d_138_135 (by decide) ?_
                          refine ov_iast d_138_145 (zb_69 I79) (zs_69 I79) (by omega) ?_
                          have I134 := ua_69 (k := x5_) (x := nw) I79 (by omega) (hw 69 (by decide +kernel))
                          refine ov_blk (ls2 := [(0, ov_r 58), (1, ov_i rule), (2, ov_i c), (3, ov_i ow), (4, ov_i nw), (5, ov_i (x5_ + 1)), (6, ov_i x6_), (7, ov_i (h78 68 x6_))]) (st2 := []) (pc2 := 149) b_138_146_1 rfl rfl ?_
                          refine ov_goto (tgt := 191) d_138_149 (by decide) ?_
                          refine ov_blk (ls2 := [(0, ov_r 58), (1, ov_i rule), (2, ov_i c), (3, ov_i ow), (4, ov_i nw), (5, ov_i (x5_ + 1)), (6, ov_i (x6_ + 1)), (7, ov_i (h78 68 x6_))]) (st2 := []) (pc2 := 194) b_138_191_1 rfl rfl ?_
                          refine ov_goto (tgt := 35) d_138_194 (by decide) ?_
                          refine ov_sub (ls2 := [(0, ov_r 58), (1, ov_i rule), (2, ov_i c), (3, ov_i ow), (4, ov_i nw), (5, ov_i (x5_ + 1)), (6, ov_i (x6_ + 1))]) (List.Sublist.subset (by repeat (first | exact List.Sublist.refl _ | apply List.Sublist.cons_cons | apply List.Sublist.cons))) ?_
                          exact ih74 (x5_ + 1) (x6_ + 1) _ _ I134 (by show 0 ≤ (x5_ + 1) ∧ (x5_ + 1) ≤ 64 ∧ 0 ≤ (x6_ + 1) ∧ (x6_ + 1) ≤ 1000 ∧ 0 ≤ rule ∧ rule ≤ 3 ∧ (h78 36 7) = (h 36 7) ∧ (h78 1 1) = (h 1 1) ∧ (h78 90 2) = (h 90 2) ∧ (h78 0 10) = (h 0 10) ∧ (h78 0 11) = (h 0 11) ∧ (h78 0 12) = (h 0 12) ∧ (h78 0 13) = (h 0 13) ∧ (h78 3 1) = (h 3 1) ∧ (h78 36 8) = (h 36 8) ∧ (h78 46 3) = (h 46 3) ∧ (h78 46 4) = (h 46 4) ∧ (h78 49 4) = (h 49 4) ∧ (h78 49 5) = (h 49 5) ∧ (h78 64 0) = (h 64 0) ∧ (h78 76 0) = (h 76 0); omega) (by omega)
                      · skip
                        refine ov_blk (ls2 := [(0, ov_r 58), (1, ov_i rule), (2, ov_i c), (3, ov_i ow), (4, ov_i nw), (5, ov_i x5_), (6, ov_i x6_), (7, ov_i (h78 68 x6_))]) (st2 := [ov_i ow, ov_i x5_, ov_r 69]) (pc2 := 123) b_138_122_1 rfl rfl ?_
                        refine ov_goto (tgt := 145) d_138_123 (by decide) ?_
                        refine ov_iast d_138_145 (zb_69 I79) (zs_69 I79) (by omega) ?_
                        have I135 := ua_69 (k := x5_) (x := ow) I79 (by omega) (hw 69 (by decide +kernel))
                        refine ov_blk (ls2 := [(0, ov_r 58), (1, ov_i rule), (2, ov_i c), (3, ov_i ow), (4, ov_i nw), (5, ov_i (x5_ + 1)), (6, ov_i x6_), (7, ov_i (h78 68 x6_))]) (st2 := []) (pc2 := 149) b_138_146_1 rfl rfl ?_
                        refine ov_goto (tgt := 191) d_138_149 (by decide) ?_
                        refine ov_blk (ls2 := [(0, ov_r 58), (1, ov_i rule), (2, ov_i c), (3, ov_i ow), (4, ov_i nw), (5, ov_i (x5_ + 1)), (6, ov_i (x6_ + 1)), (7, ov_i (h78 68 x6_))]) (st2 := []) (pc2 := 194) b_138_191_1 rfl rfl ?_
                        refine ov_goto (tgt := 35) d_138_194 (by decide) ?_
                        refine ov_sub (ls2 := [(0, ov_r 58), (1, ov_i rule), (2, ov_i c), (3, ov_i ow), (4, ov_i nw), (5, ov_i (x5_ + 1)), (6, ov_i (x6_ + 1))]) (List.Sublist.subset (by repeat (first | exact List.Sublist.refl _ | apply List.Sublist.cons_cons | apply List.Sublist.cons))) ?_
                        exact ih74 (x5_ + 1) (x6_ + 1) _ _ I135 (by show 0 ≤ (x5_ + 1) ∧ (x5_ + 1) ≤ 64 ∧ 0 ≤ (x6_ + 1) ∧ (x6_ + 1) ≤ 1000 ∧ 0 ≤ rule ∧ rule ≤ 3 ∧ (h78 36 7) = (h 36 7) ∧ (h78 1 1) = (h 1 1) ∧ (h78 90 2) = (h 90 2) ∧ (h78 0 10) = (h 0 10) ∧ (h78 0 11) = (h 0 11) ∧ (h78 0 12) = (h 0 12) ∧ (h78 0 13) = (h 0 13) ∧ (h78 3 1) = (h 3 1) ∧ (h78 36 8) = (h 36 8) ∧ (h78 46 3) = (h 46 3) ∧ (h78 46 4) = (h 46 4) ∧ (h78 49 4) = (h 49 4) ∧ (h78 49 5) = (h 49 5) ∧ (h78 64 0) = (h 64 0) ∧ (h78 76 0) = (h 76 0); omega) (by omega)
                · skip
                  refine ov_blk (ls2 := [(0, ov_r 58), (1, ov_i rule), (2, ov_i c), (3, ov_i ow), (4, ov_i nw), (5, ov_i x5_), (6, ov_i x6_), (7, ov_i (h78 68 x6_))]) (st2 := [ov_r 58]) (pc2 := 67) b_138_66_1 rfl rfl ?_
                  refine ov_getf (v := ov_r 69) d_138_67 fl_Town_43 (zb_58 I79) (zs_58 I79) (congrArg ov_r (rg_58_17 I79)) ?_
                  refine ov_blk (ls2 := [(0, ov_r 58), (1, ov_i rule), (2, ov_i c), (3, ov_i ow), (4, ov_i nw), (5, ov_i x5_), (6, ov_i x6_), (7, ov_i (h78 68 x6_))]) (st2 := [ov_r 58, ov_i (x5_ - 1), ov_r 69]) (pc2 := 75) b_138_70_4 rfl rfl ?_
                  refine ov_getf (v := ov_r 69) d_138_75 fl_Town_43 (zb_58 I79) (zs_58 I79) (congrArg ov_r (rg_58_17 I79)) ?_
                  refine ov_blk (ls2 := [(0, ov_r 58), (1, ov_i rule), (2, ov_i c), (3, ov_i ow), (4, ov_i nw), (5, ov_i x5_), (6, ov_i x6_), (7, ov_i (h78 68 x6_))]) (st2 := [ov_i (x5_ - 1), ov_r 69, ov_i (x5_ - 1), ov_r 69]) (pc2 := 82) b_138_78_3 rfl rfl ?_
                  refine ov_iald d_138_82 (zb_69 I79) (zs_69 I79) (by omega) ?_
                  have g136 := ra_69 I79 (x5_ - 1)
                  refine ov_ifne (tgt := 90) d_138_83 (by decide) (by omega) (fun c137 => ?_) (fun c137 => ?_)
                  · skip
                    refine ov_blk (ls2 := [(0, ov_r 58), (1, ov_i rule), (2, ov_i c), (3, ov_i ow), (4, ov_i nw), (5, ov_i x5_), (6, ov_i x6_), (7, ov_i (h78 68 x6_))]) (st2 := [ov_i 0, ov_i (x5_ - 1), ov_r 69]) (pc2 := 91) b_138_90_1 rfl rfl ?_
                    refine ov_iast d_138_91 (zb_69 I79) (zs_69 I79) (by omega) ?_
                    have I138 := ua_69 (k := (x5_ - 1)) (x := 0) I79 (by omega) (hw 69 (by decide +kernel))
                    refine ov_goto (tgt := 191) d_138_92 (by decide) ?_
                    refine ov_blk (ls2 := [(0, ov_r 58), (1, ov_i rule), (2, ov_i c), (3, ov_i ow), (4, ov_i nw), (5, ov_i x5_), (6, ov_i (x6_ + 1)), (7, ov_i (h78 68 x6_))]) (st2 := []) (pc2 := 194) b_138_191_1 rfl rfl ?_
                    refine ov_goto (tgt := 35) d_138_194 (by decide) ?_
                    refine ov_sub (ls2 := [(0, ov_r 58), (1, ov_i rule), (2, ov_i c), (3, ov_i ow), (4, ov_i nw), (5, ov_i x5_), (6, ov_i (x6_ + 1))]) (List.Sublist.subset (by repeat (first | exact List.Sublist.refl _ | apply List.Sublist.cons_cons | apply List.Sublist.cons))) ?_
                    exact ih74 x5_ (x6_ + 1) _ _ I138 (by show 0 ≤ x5_ ∧ x5_ ≤ 64 ∧ 0 ≤ (x6_ + 1) ∧ (x6_ + 1) ≤ 1000 ∧ 0 ≤ rule ∧ rule ≤ 3 ∧ (h78 36 7) = (h 36 7) ∧ (h78 1 1) = (h 1 1) ∧ (h78 90 2) = (h 90 2) ∧ (h78 0 10) = (h 0 10) ∧ (h78 0 11) = (h 0 11) ∧ (h78 0 12) = (h 0 12) ∧ (h78 0 13) = (h 0 13) ∧ (h78 3 1) = (h 3 1) ∧ (h78 36 8) = (h 36 8) ∧ (h78 46 3) = (h 46 3) ∧ (h78 46 4) = (h 46 4) ∧ (h78 49 4) = (h 49 4) ∧ (h78 49 5) = (h 49 5) ∧ (h78 64 0) = (h 64 0) ∧ (h78 76 0) = (h 76 0); omega) (by omega)
                  · skip
                    refine ov_blk (ls2 := [(0, ov_r 58), (1, ov_i rule), (2, ov_i c), (3, ov_i ow), (4, ov_i nw), (5, ov_i x5_), (6, ov_i x6_), (7, ov_i (h78 68 x6_))]) (st2 := [ov_i 1, ov_i (x5_ - 1), ov_r 69]) (pc2 := 87) b_138_86_1 rfl rfl ?_
                    refine ov_goto (tgt := 91) d_138_87 (by decide) ?_
                    refine ov_iast d_138_91 (zb_69 I79) (zs_69 I79) (by omega) ?_
                    have I139 := ua_69 (k := (x5_ - 1)) (x := 1) I79 (by omega) (hw 69 (by decide +kernel))
                    refine ov_goto (tgt := 191) d_138_92 (by decide) ?_
                    refine ov_blk (ls2 := [(0, ov_r 58), (1, ov_i rule), (2, ov_i c), (3, ov_i ow), (4, ov_i nw), (5, ov_i x5_), (6, ov_i (x6_ + 1)), (7, ov_i (h78 68 x6_))]) (st2 := []) (pc2 := 194) b_138_191_1 rfl rfl ?_
                    refine ov_goto (tgt := 35) d_138_194 (by decide) ?_
                    refine ov_sub (ls2 := [(0, ov_r 58), (1, ov_i rule), (2, ov_i c), (3, ov_i ow), (4, ov_i nw), (5, ov_i x5_), (6, ov_i (x6_ + 1))]) (List.Sublist.subset (by repeat (first | exact List.Sublist.refl _ | apply List.Sublist.cons_cons | apply List.Sublist.cons))) ?_
                    exact ih74 x5_ (x6_ + 1) _ _ I139 (by show 0 ≤ x5_ ∧ x5_ ≤ 64 ∧ 0 ≤ (x6_ + 1) ∧ (x6_ + 1) ≤ 1000 ∧ 0 ≤ rule ∧ rule ≤ 3 ∧ (h78 36 7) = (h 36 7) ∧ (h78 1 1) = (h 1 1) ∧ (h78 90 2) = (h 90 2) ∧ (h78 0 10) = (h 0 10) ∧ (h78 0 11) = (h 0 11) ∧ (h78 0 12) = (h 0 12) ∧ (h78 0 13) = (h 0 13) ∧ (h78 3 1) = (h 3 1) ∧ (h78 36 8) = (h 36 8) ∧ (h78 46 3) = (h 46 3) ∧ (h78 46 4) = (h 46 4) ∧ (h78 49 4) = (h 49 4) ∧ (h78 49 5) = (h 49 5) ∧ (h78 64 0) = (h 64 0) ∧ (h78 76 0) = (h 76 0); omega) (by omega)
        exact L76 1001 0 0 _ _ I (by show 0 ≤ 0 ∧ 0 ≤ 64 ∧ 0 ≤ 0 ∧ 0 ≤ 1000 ∧ 0 ≤ rule ∧ rule ≤ 3 ∧ (h 36 7) = (h 36 7) ∧ (h 1 1) = (h 1 1) ∧ (h 90 2) = (h 90 2) ∧ (h 0 10) = (h 0 10) ∧ (h 0 11) = (h 0 11) ∧ (h 0 12) = (h 0 12) ∧ (h 0 13) = (h 0 13) ∧ (h 3 1) = (h 3 1) ∧ (h 36 8) = (h 36 8) ∧ (h 46 3) = (h 46 3) ∧ (h 46 4) = (h 46 4) ∧ (h 49 4) = (h 49 4) ∧ (h 49 5) = (h 49 5) ∧ (h 64 0) = (h 64 0) ∧ (h 76 0) = (h 76 0); omega) (by omega)
    · skip
      refine ov_blk (ls2 := [(0, ov_r 58), (1, ov_i rule), (2, ov_i c), (3, ov_i ow), (4, ov_i nw)]) (st2 := [ov_i 0]) (pc2 := 13) b_138_12_1 rfl rfl ?_
      exact ov_retz (st := []) d_138_13 rfl (by omega) ⟨_, rfl, I, (by show (0 = 0 ∨ 0 = 1) ∧ (h 36 7) = (h 36 7) ∧ (h 1 1) = (h 1 1) ∧ (h 90 2) = (h 90 2) ∧ (h 0 10) = (h 0 10) ∧ (h 0 11) = (h 0 11) ∧ (h 0 12) = (h 0 12) ∧ (h 0 13) = (h 0 13) ∧ (h 3 1) = (h 3 1) ∧ (h 36 8) = (h 36 8) ∧ (h 46 3) = (h 46 3) ∧ (h 46 4) = (h 46 4) ∧ (h 49 4) = (h 49 4) ∧ (h 49 5) = (h 49 5) ∧ (h 64 0) = (h 64 0) ∧ (h 76 0) = (h 76 0); omega)⟩
abbrev P_Town_setUnlessTold_58 (F : ov_H) (z : ov_Z) (h : ov_H) (w : Int) (v : Int) : Option ov_V → ov_Z → ov_H → Prop := fun r0 z' h' => r0 = none ∧ ov_I F z' h' ∧ ((w = 0 → 0 ≤ v → 0 ≤ (h' 64 0)) ∧ (¬ w = 0 → (h' 64 0) = (h 64 0)) ∧ (h' 36 7) = (h 36 7) ∧ (h' 1 1) = (h 1 1) ∧ (h' 90 2) = (h 90 2) ∧ (h' 0 10) = (h 0 10) ∧ (h' 0 11) = (h 0 11) ∧ (h' 0 12) = (h 0 12) ∧ (h' 0 13) = (h 0 13) ∧ (h' 3 1) = (h 3 1) ∧ (h' 36 8) = (h 36 8) ∧ (h' 46 3) = (h 46 3) ∧ (h' 46 4) = (h 46 4) ∧ (h' 49 4) = (h 49 4) ∧ (h' 49 5) = (h 49 5) ∧ (h' 76 0) = (h 76 0))
set_option maxHeartbeats 4000000 in
theorem c_Town_setUnlessTold_58 {u : ov_U} {F : ov_H} {z : ov_Z} {h : ov_H} (d : Nat) (hd : 0 ≤ d) (U : ov_cap u) (I : ov_I F z h) (hw : ov_kw 18446744073709551616 F) (w : Int) (v : Int) (g_w : ov_g w) (g_v : ov_g v) (p0 : 0 ≤ w ∧ w ≤ 3) (p1 : -1 ≤ v ∧ v ≤ 30 ∧ (w = 3 → v ≤ 9)) : ov_T u d ov_m16 [ov_r 58, ov_i w, ov_i v] z h (P_Town_setUnlessTold_58 F z h w v) := by
  refine ov_en rfl (Nat.le_of_ble_eq_true rfl) ?_
  show ov_R u d ov_m16 0 [(0, ov_r 58), (1, ov_i w), (2, ov_i v)] [] z h (P_Town_setUnlessTold_58 F z h w v)
  refine ov_blk (ls2 := [(0, ov_r 58), (1, ov_i w), (2, ov_i v)]) (st2 := [ov_r 58]) (pc2 := 1) b_16_0_1 rfl rfl ?_
  refine ov_getf (v := ov_r 64) d_16_1 fl_Town_27 (zb_58 I) (zs_58 I) (congrArg ov_r (rg_58_7 I)) ?_
  refine ov_blk (ls2 := [(0, ov_r 58), (1, ov_i w), (2, ov_i v)]) (st2 := [ov_i w, ov_r 64]) (pc2 := 5) b_16_4_1 rfl rfl ?_
  refine ov_iald d_16_5 (zb_64 I) (zs_64 I) (by omega) ?_
  have g1 := ra_64 I w
  refine ov_blk (ls2 := [(0, ov_r 58), (1, ov_i w), (2, ov_i v)]) (st2 := [ov_i (-1), ov_i (h 64 w)]) (pc2 := 7) b_16_6_1 rfl rfl ?_
  refine ov_icne (tgt := 17) d_16_7 (by decide) (by omega) (by omega) (fun c2 => ?_) (fun c2 => ?_)
  · skip
    have fz : w = 0 → h 64 w = h 64 0 := fun e => by rw [e]
    exact ov_retv (st := []) d_16_17 rfl ⟨rfl, I, (by show (w = 0 → 0 ≤ v → 0 ≤ (h 64 0)) ∧ (¬ w = 0 → (h 64 0) = (h 64 0)) ∧ (h 36 7) = (h 36 7) ∧ (h 1 1) = (h 1 1) ∧ (h 90 2) = (h 90 2) ∧ (h 0 10) = (h 0 10) ∧ (h 0 11) = (h 0 11) ∧ (h 0 12) = (h 0 12) ∧ (h 0 13) = (h 0 13) ∧ (h 3 1) = (h 3 1) ∧ (h 36 8) = (h 36 8) ∧ (h 46 3) = (h 46 3) ∧ (h 46 4) = (h 46 4) ∧ (h 49 4) = (h 49 4) ∧ (h 49 5) = (h 49 5) ∧ (h 76 0) = (h 76 0); omega)⟩
  · skip
    refine ov_blk (ls2 := [(0, ov_r 58), (1, ov_i w), (2, ov_i v)]) (st2 := [ov_r 58]) (pc2 := 11) b_16_10_1 rfl rfl ?_
    refine ov_getf (v := ov_r 64) d_16_11 fl_Town_27 (zb_58 I) (zs_58 I) (congrArg ov_r (rg_58_7 I)) ?_
    refine ov_blk (ls2 := [(0, ov_r 58), (1, ov_i w), (2, ov_i v)]) (st2 := [ov_i v, ov_i w, ov_r 64]) (pc2 := 16) b_16_14_2 rfl rfl ?_
    refine ov_iast d_16_16 (zb_64 I) (zs_64 I) (by omega) ?_
    have I3 := ua_64 (k := w) (x := v) I (by omega) (hw 64 (by decide +kernel))
    have fz : w = 0 → h 64 w = h 64 0 := fun e => by rw [e]
    have fu := ov_up_z (h := h) (a := 64) (k := w) (x := v)
    exact ov_retv (st := []) d_16_17 rfl ⟨rfl, I3, (by show (w = 0 → 0 ≤ v → 0 ≤ ((ov_up h 64 w v) 64 0)) ∧ (¬ w = 0 → ((ov_up h 64 w v) 64 0) = (h 64 0)) ∧ (h 36 7) = (h 36 7) ∧ (h 1 1) = (h 1 1) ∧ (h 90 2) = (h 90 2) ∧ (h 0 10) = (h 0 10) ∧ (h 0 11) = (h 0 11) ∧ (h 0 12) = (h 0 12) ∧ (h 0 13) = (h 0 13) ∧ (h 3 1) = (h 3 1) ∧ (h 36 8) = (h 36 8) ∧ (h 46 3) = (h 46 3) ∧ (h 46 4) = (h 46 4) ∧ (h 49 4) = (h 49 4) ∧ (h 49 5) = (h 49 5) ∧ (h 76 0) = (h 76 0); omega)⟩
abbrev P_Town_opens_58 (F : ov_H) (z : ov_Z) (h : ov_H) (c : Int) (way : Int) : Option ov_V → ov_Z → ov_H → Prop := fun r0 z' h' => ∃ r : Int, r0 = some (ov_i r) ∧ z = z' ∧ h = h' ∧ ((r = 0 ∨ r = 1) ∧ (r = 1 → (way = 0 ∧ c ≤ 52) ∨ (way = 1 ∧ c ≤ 47)))
set_option maxHeartbeats 4000000 in
theorem c_Town_opens_58 {u : ov_U} {F : ov_H} {z : ov_Z} {h : ov_H} (d : Nat) (hd : 1 ≤ d) (U : ov_cap u) (I : ov_I F z h) (c : Int) (way : Int) (g_c : ov_g c) (g_way : ov_g way) (p0 : 0 ≤ c ∧ c ≤ 53) (p1 : way = 0 ∨ way = 1) : ov_T u d ov_m17 [ov_r 58, ov_i c, ov_i way] z h (P_Town_opens_58 F z h c way) := by
  refine ov_en rfl (Nat.le_of_ble_eq_true rfl) ?_
  show ov_R u d ov_m17 0 [(0, ov_r 58), (1, ov_i c), (2, ov_i way)] [] z h (P_Town_opens_58 F z h c way)
  refine ov_blk (ls2 := [(0, ov_r 58), (1, ov_i c), (2, ov_i way)]) (st2 := [ov_i way, ov_i c, ov_r 58]) (pc2 := 3) b_17_0_3 rfl rfl ?_
  refine ov_cV (as := [ov_i c, ov_i way]) (st := []) (d2 := d - 1) d_17_3 lk_Town_83 rfl (Nat.le_of_ble_eq_true rfl) (c := 9) (zb_58 I) (zs_58 I) ⟨by decide, rfl⟩ (by omega) (c_Town_isBeyond_58 (d - 1) (by omega) U I c way (by omega) (by omega) (by omega)) ?_
  rintro _ _ _ ⟨v2, rfl, rfl, rfl, f1⟩
  show ov_R u d ov_m17 6 [(0, ov_r 58), (1, ov_i c), (2, ov_i way)] [ov_i v2] z h (P_Town_opens_58 F z h c way)
  have f3 : (v2 = 0 ∨ v2 = 1) ∧ (v2 = 0 → (way = 0 → c % 6 < (h 58 0) - 1 ∧ (h 58 0) ≤ 6) ∧ (¬ way = 0 → c / 6 < (h 58 1) - 1 ∧ (h 58 1) ≤ 9)) := f1
  clear f1
  refine ov_ifne (tgt := 18) d_17_6 (by decide) (by omega) (fun c4 => ?_) (fun c4 => ?_)
  · skip
    refine ov_blk (ls2 := [(0, ov_r 58), (1, ov_i c), (2, ov_i way)]) (st2 := [ov_i 0]) (pc2 := 19) b_17_18_1 rfl rfl ?_
    exact ov_retz (st := []) d_17_19 rfl (by omega) ⟨_, rfl, rfl, rfl, (by show (0 = 0 ∨ 0 = 1) ∧ (0 = 1 → (way = 0 ∧ c ≤ 52) ∨ (way = 1 ∧ c ≤ 47)); omega)⟩
  · skip
    refine ov_blk (ls2 := [(0, ov_r 58), (1, ov_i c), (2, ov_i way)]) (st2 := [ov_i way, ov_i c, ov_r 58]) (pc2 := 12) b_17_9_3 rfl rfl ?_
    refine ov_cV (as := [ov_i c, ov_i way]) (st := []) (d2 := d - 1) d_17_12 lk_Town_86 rfl (Nat.le_of_ble_eq_true rfl) (c := 9) (zb_58 I) (zs_58 I) ⟨by decide, rfl⟩ (by omega) (c_Town_isBarred_58 (d - 1) (by omega) U I c way (by omega) (by omega) (by omega)) ?_
    rintro _ _ _ ⟨v6, rfl, rfl, rfl, f5⟩
    show ov_R u d ov_m17 15 [(0, ov_r 58), (1, ov_i c), (2, ov_i way)] [ov_i v6] z h (P_Town_opens_58 F z h c way)
    have f7 : (v6 = 0 ∨ v6 = 1) := f5
    clear f5
    refine ov_ifeq (tgt := 20) d_17_15 (by decide) (by omega) (fun c8 => ?_) (fun c8 => ?_)
    · skip
      refine ov_blk (ls2 := [(0, ov_r 58), (1, ov_i c), (2, ov_i way)]) (st2 := [ov_i c, ov_r 58]) (pc2 := 22) b_17_20_2 rfl rfl ?_
      refine ov_cV (as := [ov_i c]) (st := []) (d2 := d - 1) d_17_22 lk_Town_89 rfl (Nat.le_of_ble_eq_true rfl) (c := 9) (zb_58 I) (zs_58 I) ⟨by decide, rfl⟩ (by omega) (c_Town_isTimed_58 (d - 1) (by omega) U I c (by omega) (by omega)) ?_
      rintro _ _ _ ⟨v10, rfl, rfl, rfl, f9⟩
      show ov_R u d ov_m17 25 [(0, ov_r 58), (1, ov_i c), (2, ov_i way)] [ov_i v10] z h (P_Town_opens_58 F z h c way)
      have f11 : (v10 = 0 ∨ v10 = 1) := f9
      clear f9
      refine ov_ifeq (tgt := 59) d_17_25 (by decide) (by omega) (fun c12 => ?_) (fun c12 => ?_)
      · skip
        refine ov_blk (ls2 := [(0, ov_r 58), (1, ov_i c), (2, ov_i way)]) (st2 := [ov_i 1]) (pc2 := 60) b_17_59_1 rfl rfl ?_
        refine ov_goto (tgt := 64) d_17_60 (by decide) ?_
        exact ov_retz (st := []) d_17_64 rfl (by omega) ⟨_, rfl, rfl, rfl, (by show (1 = 0 ∨ 1 = 1) ∧ (1 = 1 → (way = 0 ∧ c ≤ 52) ∨ (way = 1 ∧ c ≤ 47)); omega)⟩
      · skip
        refine ov_blk (ls2 := [(0, ov_r 58), (1, ov_i c), (2, ov_i way)]) (st2 := [ov_i way]) (pc2 := 29) b_17_28_1 rfl rfl ?_
        refine ov_ifne (tgt := 44) d_17_29 (by decide) (by omega) (fun c13 => ?_) (fun c13 => ?_)
        · skip
          refine ov_blk (ls2 := [(0, ov_r 58), (1, ov_i c), (2, ov_i way)]) (st2 := [ov_r 58]) (pc2 := 45) b_17_44_1 rfl rfl ?_
          refine ov_getf (v := ov_r 62) d_17_45 fl_Town_21 (zb_58 I) (zs_58 I) (congrArg ov_r (rg_58_5 I)) ?_
          refine ov_blk (ls2 := [(0, ov_r 58), (1, ov_i c), (2, ov_i way)]) (st2 := [ov_i c, ov_r 62]) (pc2 := 49) b_17_48_1 rfl rfl ?_
          refine ov_iald d_17_49 (zb_62 I) (zs_62 I) (by omega) ?_
          have g14 := ra_62 I c
          refine ov_blk (ls2 := [(0, ov_r 58), (1, ov_i c), (2, ov_i way)]) (st2 := [ov_r 58, ov_i (h 62 c)]) (pc2 := 51) b_17_50_1 rfl rfl ?_
          refine ov_getf (v := ov_r 60) d_17_51 fl_Town_15 (zb_58 I) (zs_58 I) (congrArg ov_r (rg_58_3 I)) ?_
          refine ov_blk (ls2 := [(0, ov_r 58), (1, ov_i c), (2, ov_i way)]) (st2 := [ov_i c, ov_r 60, ov_i (h 62 c)]) (pc2 := 55) b_17_54_1 rfl rfl ?_
          refine ov_iald d_17_55 (zb_60 I) (zs_60 I) (by omega) ?_
          have g15 := ra_60 I c
          refine ov_icge (tgt := 63) d_17_56 (by decide) (by omega) (by omega) (fun c16 => ?_) (fun c16 => ?_)
          · skip
            refine ov_blk (ls2 := [(0, ov_r 58), (1, ov_i c), (2, ov_i way)]) (st2 := [ov_i 0]) (pc2 := 64) b_17_63_1 rfl rfl ?_
            exact ov_retz (st := []) d_17_64 rfl (by omega) ⟨_, rfl, rfl, rfl, (by show (0 = 0 ∨ 0 = 1) ∧ (0 = 1 → (way = 0 ∧ c ≤ 52) ∨ (way = 1 ∧ c ≤ 47)); omega)⟩
          · skip
            refine ov_blk (ls2 := [(0, ov_r 58), (1, ov_i c), (2, ov_i way)]) (st2 := [ov_i 1]) (pc2 := 60) b_17_59_1 rfl rfl ?_
            refine ov_goto (tgt := 64) d_17_60 (by decide) ?_
            exact ov_retz (st := []) d_17_64 rfl (by omega) ⟨_, rfl, rfl, rfl, (by show (1 = 0 ∨ 1 = 1) ∧ (1 = 1 → (way = 0 ∧ c ≤ 52) ∨ (way = 1 ∧ c ≤ 47)); omega)⟩
        · skip
          refine ov_blk (ls2 := [(0, ov_r 58), (1, ov_i c), (2, ov_i way)]) (st2 := [ov_r 58]) (pc2 := 33) b_17_32_1 rfl rfl ?_
          refine ov_getf (v := ov_r 62) d_17_33 fl_Town_21 (zb_58 I) (zs_58 I) (congrArg ov_r (rg_58_5 I)) ?_
          refine ov_blk (ls2 := [(0, ov_r 58), (1, ov_i c), (2, ov_i way)]) (st2 := [ov_i c, ov_r 62]) (pc2 := 37) b_17_36_1 rfl rfl ?_
          refine ov_iald d_17_37 (zb_62 I) (zs_62 I) (by omega) ?_
          have g17 := ra_62 I c
          refine ov_ifle (tgt := 63) d_17_38 (by decide) (by omega) (fun c18 => ?_) (fun c18 => ?_)
          · skip
            refine ov_blk (ls2 := [(0, ov_r 58), (1, ov_i c), (2, ov_i way)]) (st2 := [ov_i 0]) (pc2 := 64) b_17_63_1 rfl rfl ?_
            exact ov_retz (st := []) d_17_64 rfl (by omega) ⟨_, rfl, rfl, rfl, (by show (0 = 0 ∨ 0 = 1) ∧ (0 = 1 → (way = 0 ∧ c ≤ 52) ∨ (way = 1 ∧ c ≤ 47)); omega)⟩
          · skip
            refine ov_goto (tgt := 59) d_17_41 (by decide) ?_
            refine ov_blk (ls2 := [(0, ov_r 58), (1, ov_i c), (2, ov_i way)]) (st2 := [ov_i 1]) (pc2 := 60) b_17_59_1 rfl rfl ?_
            refine ov_goto (tgt := 64) d_17_60 (by decide) ?_
            exact ov_retz (st := []) d_17_64 rfl (by omega) ⟨_, rfl, rfl, rfl, (by show (1 = 0 ∨ 1 = 1) ∧ (1 = 1 → (way = 0 ∧ c ≤ 52) ∨ (way = 1 ∧ c ≤ 47)); omega)⟩
    · skip
      refine ov_blk (ls2 := [(0, ov_r 58), (1, ov_i c), (2, ov_i way)]) (st2 := [ov_i 0]) (pc2 := 19) b_17_18_1 rfl rfl ?_
      exact ov_retz (st := []) d_17_19 rfl (by omega) ⟨_, rfl, rfl, rfl, (by show (0 = 0 ∨ 0 = 1) ∧ (0 = 1 → (way = 0 ∧ c ≤ 52) ∨ (way = 1 ∧ c ≤ 47)); omega)⟩
abbrev P_Town_complete_58 (F : ov_H) (z : ov_Z) (h : ov_H)  : Option ov_V → ov_Z → ov_H → Prop := fun r0 z' h' => r0 = none ∧ ov_I F z' h' ∧ (0 ≤ (h' 64 0) ∧ (h' 36 7) = (h 36 7) ∧ (h' 1 1) = (h 1 1) ∧ (h' 90 2) = (h 90 2) ∧ (h' 0 10) = (h 0 10) ∧ (h' 0 11) = (h 0 11) ∧ (h' 0 12) = (h 0 12) ∧ (h' 0 13) = (h 0 13) ∧ (h' 3 1) = (h 3 1) ∧ (h' 36 8) = (h 36 8) ∧ (h' 46 3) = (h 46 3) ∧ (h' 46 4) = (h 46 4) ∧ (h' 49 4) = (h 49 4) ∧ (h' 49 5) = (h 49 5) ∧ (h' 76 0) = (h 76 0))
set_option maxHeartbeats 4000000 in
theorem c_Town_complete_58 {u : ov_U} {F : ov_H} {z : ov_Z} {h : ov_H} (d : Nat) (hd : 2 ≤ d) (U : ov_cap u) (I : ov_I F z h) (hw : ov_kw 55340232221128654848 F) : ov_T u d ov_m15 [ov_r 58] z h (P_Town_complete_58 F z h) := by
  refine ov_en rfl (Nat.le_of_ble_eq_true rfl) ?_
  show ov_R u d ov_m15 0 [(0, ov_r 58)] [] z h (P_Town_complete_58 F z h)
  refine ov_blk (ls2 := [(0, ov_r 58)]) (st2 := [ov_i 10, ov_i 0, ov_r 58]) (pc2 := 4) b_15_0_3 rfl rfl ?_
  refine ov_cV (as := [ov_i 0, ov_i 10]) (st := []) (d2 := d - 1) d_15_4 lk_Town_75 rfl (Nat.le_of_ble_eq_true rfl) (c := 9) (zb_58 I) (zs_58 I) ⟨by decide, rfl⟩ (by omega) (c_Town_setUnlessTold_58 (d - 1) (by omega) U I (ov_kws hw (by decide +kernel)) 0 10 (by omega) (by omega) (by omega) (by omega)) ?_
  rintro _ z2 h3 ⟨rfl, I4, f1⟩
  show ov_R u d ov_m15 7 [(0, ov_r 58)] [] z2 h3 (P_Town_complete_58 F z h)
  have f5 : ((0 : Int) = 0 → 0 ≤ (10 : Int) → 0 ≤ (h3 64 0)) ∧ (¬ (0 : Int) = 0 → (h3 64 0) = (h 64 0)) ∧ (h3 36 7) = (h 36 7) ∧ (h3 1 1) = (h 1 1) ∧ (h3 90 2) = (h 90 2) ∧ (h3 0 10) = (h 0 10) ∧ (h3 0 11) = (h 0 11) ∧ (h3 0 12) = (h 0 12) ∧ (h3 0 13) = (h 0 13) ∧ (h3 3 1) = (h 3 1) ∧ (h3 36 8) = (h 36 8) ∧ (h3 46 3) = (h 46 3) ∧ (h3 46 4) = (h 46 4) ∧ (h3 49 4) = (h 49 4) ∧ (h3 49 5) = (h 49 5) ∧ (h3 76 0) = (h 76 0) := f1
  clear f1
  refine ov_blk (ls2 := [(0, ov_r 58)]) (st2 := [ov_r 58, ov_i 1, ov_r 58]) (pc2 := 10) b_15_7_3 rfl rfl ?_
  refine ov_getf (v := ov_r 64) d_15_10 fl_Town_27 (zb_58 I4) (zs_58 I4) (congrArg ov_r (rg_58_7 I4)) ?_
  refine ov_blk (ls2 := [(0, ov_r 58)]) (st2 := [ov_i 0, ov_r 64, ov_i 1, ov_r 58]) (pc2 := 14) b_15_13_1 rfl rfl ?_
  refine ov_iald d_15_14 (zb_64 I4) (zs_64 I4) (by omega) ?_
  have g6 := ra_64 I4 0
  refine ov_cV (as := [ov_i 1, ov_i (h3 64 0)]) (st := []) (d2 := d - 1) d_15_15 lk_Town_75 rfl (Nat.le_of_ble_eq_true rfl) (c := 9) (zb_58 I4) (zs_58 I4) ⟨by decide, rfl⟩ (by omega) (c_Town_setUnlessTold_58 (d - 1) (by omega) U I4 (ov_kws hw (by decide +kernel)) 1 (h3 64 0) (by omega) (by omega) (by omega) (by omega)) ?_
  rintro _ z8 h9 ⟨rfl, I10, f7⟩
  show ov_R u d ov_m15 18 [(0, ov_r 58)] [] z8 h9 (P_Town_complete_58 F z h)
  have f11 : ((1 : Int) = 0 → 0 ≤ (h3 64 0) → 0 ≤ (h9 64 0)) ∧ (¬ (1 : Int) = 0 → (h9 64 0) = (h3 64 0)) ∧ (h9 36 7) = (h3 36 7) ∧ (h9 1 1) = (h3 1 1) ∧ (h9 90 2) = (h3 90 2) ∧ (h9 0 10) = (h3 0 10) ∧ (h9 0 11) = (h3 0 11) ∧ (h9 0 12) = (h3 0 12) ∧ (h9 0 13) = (h3 0 13) ∧ (h9 3 1) = (h3 3 1) ∧ (h9 36 8) = (h3 36 8) ∧ (h9 46 3) = (h3 46 3) ∧ (h9 46 4) = (h3 46 4) ∧ (h9 49 4) = (h3 49 4) ∧ (h9 49 5) = (h3 49 5) ∧ (h9 76 0) = (h3 76 0) := f7
  clear f7
  refine ov_blk (ls2 := [(0, ov_r 58)]) (st2 := [ov_r 58, ov_i 2, ov_r 58]) (pc2 := 21) b_15_18_3 rfl rfl ?_
  refine ov_getf (v := ov_r 64) d_15_21 fl_Town_27 (zb_58 I10) (zs_58 I10) (congrArg ov_r (rg_58_7 I10)) ?_
  refine ov_blk (ls2 := [(0, ov_r 58)]) (st2 := [ov_i 0, ov_r 64, ov_i 2, ov_r 58]) (pc2 := 25) b_15_24_1 rfl rfl ?_
  refine ov_iald d_15_25 (zb_64 I10) (zs_64 I10) (by omega) ?_
  have g12 := ra_64 I10 0
  refine ov_cV (as := [ov_i 2, ov_i (h9 64 0)]) (st := []) (d2 := d - 1) d_15_26 lk_Town_75 rfl (Nat.le_of_ble_eq_true rfl) (c := 9) (zb_58 I10) (zs_58 I10) ⟨by decide, rfl⟩ (by omega) (c_Town_setUnlessTold_58 (d - 1) (by omega) U I10 (ov_kws hw (by decide +kernel)) 2 (h9 64 0) (by omega) (by omega) (by omega) (by omega)) ?_
  rintro _ z14 h15 ⟨rfl, I16, f13⟩
  show ov_R u d ov_m15 29 [(0, ov_r 58)] [] z14 h15 (P_Town_complete_58 F z h)
  have f17 : ((2 : Int) = 0 → 0 ≤ (h9 64 0) → 0 ≤ (h15 64 0)) ∧ (¬ (2 : Int) = 0 → (h15 64 0) = (h9 64 0)) ∧ (h15 36 7) = (h9 36 7) ∧ (h15 1 1) = (h9 1 1) ∧ (h15 90 2) = (h9 90 2) ∧ (h15 0 10) = (h9 0 10) ∧ (h15 0 11) = (h9 0 11) ∧ (h15 0 12) = (h9 0 12) ∧ (h15 0 13) = (h9 0 13) ∧ (h15 3 1) = (h9 3 1) ∧ (h15 36 8) = (h9 36 8) ∧ (h15 46 3) = (h9 46 3) ∧ (h15 46 4) = (h9 46 4) ∧ (h15 49 4) = (h9 49 4) ∧ (h15 49 5) = (h9 49 5) ∧ (h15 76 0) = (h9 76 0) := f13
  clear f13
  refine ov_blk (ls2 := [(0, ov_r 58)]) (st2 := [ov_i 0, ov_i 3, ov_r 58]) (pc2 := 32) b_15_29_3 rfl rfl ?_
  refine ov_cV (as := [ov_i 3, ov_i 0]) (st := []) (d2 := d - 1) d_15_32 lk_Town_75 rfl (Nat.le_of_ble_eq_true rfl) (c := 9) (zb_58 I16) (zs_58 I16) ⟨by decide, rfl⟩ (by omega) (c_Town_setUnlessTold_58 (d - 1) (by omega) U I16 (ov_kws hw (by decide +kernel)) 3 0 (by omega) (by omega) (by omega) (by omega)) ?_
  rintro _ z19 h20 ⟨rfl, I21, f18⟩
  show ov_R u d ov_m15 35 [(0, ov_r 58)] [] z19 h20 (P_Town_complete_58 F z h)
  have f22 : ((3 : Int) = 0 → 0 ≤ (0 : Int) → 0 ≤ (h20 64 0)) ∧ (¬ (3 : Int) = 0 → (h20 64 0) = (h15 64 0)) ∧ (h20 36 7) = (h15 36 7) ∧ (h20 1 1) = (h15 1 1) ∧ (h20 90 2) = (h15 90 2) ∧ (h20 0 10) = (h15 0 10) ∧ (h20 0 11) = (h15 0 11) ∧ (h20 0 12) = (h15 0 12) ∧ (h20 0 13) = (h15 0 13) ∧ (h20 3 1) = (h15 3 1) ∧ (h20 36 8) = (h15 36 8) ∧ (h20 46 3) = (h15 46 3) ∧ (h20 46 4) = (h15 46 4) ∧ (h20 49 4) = (h15 49 4) ∧ (h20 49 5) = (h15 49 5) ∧ (h20 76 0) = (h15 76 0) := f18
  clear f18
  refine ov_blk (ls2 := [(0, ov_r 58), (1, ov_i 0)]) (st2 := []) (pc2 := 37) b_15_35_2 rfl rfl ?_
  have L26 : ∀ (n23 : Nat) (x1 : Int) (z27 : ov_Z) (h28 : ov_H) (I29 : ov_I F z27 h28) (q25 : 0 ≤ x1 ∧ x1 ≤ 54 ∧ 0 ≤ (h28 64 0) ∧ (h28 36 7) = (h 36 7) ∧ (h28 1 1) = (h 1 1) ∧ (h28 90 2) = (h 90 2) ∧ (h28 0 10) = (h 0 10) ∧ (h28 0 11) = (h 0 11) ∧ (h28 0 12) = (h 0 12) ∧ (h28 0 13) = (h 0 13) ∧ (h28 3 1) = (h 3 1) ∧ (h28 36 8) = (h 36 8) ∧ (h28 46 3) = (h 46 3) ∧ (h28 46 4) = (h 46 4) ∧ (h28 49 4) = (h 49 4) ∧ (h28 49 5) = (h 49 5) ∧ (h28 76 0) = (h 76 0)), 54 - x1 < (n23 : Int) → ov_R u d ov_m15 37 [(0, ov_r 58), (1, ov_i x1)] [] z27 h28 (P_Town_complete_58 F z h) := by
    intro n23
    induction n23 with
    | zero =>
      intro x1 z27 h28 I29 q25 hn30
      exact absurd hn30 (by omega)
    | succ n23 ih24 =>
      intro x1 z27 h28 I29 q25 hn30
      refine ov_blk (ls2 := [(0, ov_r 58), (1, ov_i x1)]) (st2 := [ov_i 54, ov_i x1]) (pc2 := 40) b_15_37_2 rfl rfl ?_
      refine ov_icge (tgt := 84) d_15_40 (by decide) (by omega) (by omega) (fun c31 => ?_) (fun c31 => ?_)
      · skip
        exact ov_retv (st := []) d_15_84 rfl ⟨rfl, I29, (by show 0 ≤ (h28 64 0) ∧ (h28 36 7) = (h 36 7) ∧ (h28 1 1) = (h 1 1) ∧ (h28 90 2) = (h 90 2) ∧ (h28 0 10) = (h 0 10) ∧ (h28 0 11) = (h 0 11) ∧ (h28 0 12) = (h 0 12) ∧ (h28 0 13) = (h 0 13) ∧ (h28 3 1) = (h 3 1) ∧ (h28 36 8) = (h 36 8) ∧ (h28 46 3) = (h 46 3) ∧ (h28 46 4) = (h 46 4) ∧ (h28 49 4) = (h 49 4) ∧ (h28 49 5) = (h 49 5) ∧ (h28 76 0) = (h 76 0); omega)⟩
      · skip
        refine ov_blk (ls2 := [(0, ov_r 58), (1, ov_i x1)]) (st2 := [ov_r 58]) (pc2 := 44) b_15_43_1 rfl rfl ?_
        refine ov_getf (v := ov_r 65) d_15_44 fl_Town_30 (zb_58 I29) (zs_58 I29) (congrArg ov_r (rg_58_12 I29)) ?_
        refine ov_blk (ls2 := [(0, ov_r 58), (1, ov_i x1)]) (st2 := [ov_i 0, ov_i x1, ov_r 58, ov_i x1, ov_r 65]) (pc2 := 51) b_15_47_4 rfl rfl ?_
        refine ov_cV (as := [ov_i x1, ov_i 0]) (st := [ov_i x1, ov_r 65]) (d2 := d - 1) d_15_51 lk_Town_79 rfl (Nat.le_of_ble_eq_true rfl) (c := 9) (zb_58 I29) (zs_58 I29) ⟨by decide, rfl⟩ (by omega) (c_Town_opens_58 (d - 1) (by omega) U I29 x1 0 (by omega) (by omega) (by omega) (by omega)) ?_
        rintro _ _ _ ⟨v33, rfl, rfl, rfl, f32⟩
        show ov_R u d ov_m15 54 [(0, ov_r 58), (1, ov_i x1)] [ov_i v33, ov_i x1, ov_r 65] z27 h28 (P_Town_complete_58 F z h)
        have f34 : (v33 = 0 ∨ v33 = 1) ∧ (v33 = 1 → ((0 : Int) = 0 ∧ x1 ≤ 52) ∨ ((0 : Int) = 1 ∧ x1 ≤ 47)) := f32
        clear f32
        refine ov_ifeq (tgt := 61) d_15_54 (by decide) (by omega) (fun c35 => ?_) (fun c35 => ?_)
        · skip
          refine ov_blk (ls2 := [(0, ov_r 58), (1, ov_i x1)]) (st2 := [ov_i 1, ov_i x1, ov_r 58, ov_i 0, ov_i x1, ov_r 65]) (pc2 := 65) b_15_61_4 rfl rfl ?_
          refine ov_cV (as := [ov_i x1, ov_i 1]) (st := [ov_i 0, ov_i x1, ov_r 65]) (d2 := d - 1) d_15_65 lk_Town_79 rfl (Nat.le_of_ble_eq_true rfl) (c := 9) (zb_58 I29) (zs_58 I29) ⟨by decide, rfl⟩ (by omega) (c_Town_opens_58 (d - 1) (by omega) U I29 x1 1 (by omega) (by omega) (by omega) (by omega)) ?_
          rintro _ _ _ ⟨v37, rfl, rfl, rfl, f36⟩
          show ov_R u d ov_m15 68 [(0, ov_r 58), (1, ov_i x1)] [ov_i v37, ov_i 0, ov_i x1, ov_r 65] z27 h28 (P_Town_complete_58 F z h)
          have f38 : (v37 = 0 ∨ v37 = 1) ∧ (v37 = 1 → ((1 : Int) = 0 ∧ x1 ≤ 52) ∨ ((1 : Int) = 1 ∧ x1 ≤ 47)) := f36
          clear f36
          refine ov_ifeq (tgt := 75) d_15_68 (by decide) (by omega) (fun c39 => ?_) (fun c39 => ?_)
          · skip
            refine ov_blk (ls2 := [(0, ov_r 58), (1, ov_i x1)]) (st2 := [ov_i (0 + 0), ov_i x1, ov_r 65]) (pc2 := 77) b_15_75_2 rfl rfl ?_
            refine ov_iast d_15_77 (zb_65 I29) (zs_65 I29) (by omega) ?_
            have I40 := ua_65 (k := x1) (x := (0 + 0)) I29 (by omega) (hw 65 (by decide +kernel))
            refine ov_blk (ls2 := [(0, ov_r 58), (1, ov_i (x1 + 1))]) (st2 := []) (pc2 := 81) b_15_78_1 rfl rfl ?_
            refine ov_goto (tgt := 37) d_15_81 (by decide) ?_
            exact ih24 (x1 + 1) _ _ I40 (by show 0 ≤ (x1 + 1) ∧ (x1 + 1) ≤ 54 ∧ 0 ≤ (h28 64 0) ∧ (h28 36 7) = (h 36 7) ∧ (h28 1 1) = (h 1 1) ∧ (h28 90 2) = (h 90 2) ∧ (h28 0 10) = (h 0 10) ∧ (h28 0 11) = (h 0 11) ∧ (h28 0 12) = (h 0 12) ∧ (h28 0 13) = (h 0 13) ∧ (h28 3 1) = (h 3 1) ∧ (h28 36 8) = (h 36 8) ∧ (h28 46 3) = (h 46 3) ∧ (h28 46 4) = (h 46 4) ∧ (h28 49 4) = (h 49 4) ∧ (h28 49 5) = (h 49 5) ∧ (h28 76 0) = (h 76 0); omega) (by omega)
          · skip
            refine ov_blk (ls2 := [(0, ov_r 58), (1, ov_i x1)]) (st2 := [ov_i 2, ov_i 0, ov_i x1, ov_r 65]) (pc2 := 72) b_15_71_1 rfl rfl ?_
            refine ov_goto (tgt := 76) d_15_72 (by decide) ?_
            refine ov_blk (ls2 := [(0, ov_r 58), (1, ov_i x1)]) (st2 := [ov_i (0 + 2), ov_i x1, ov_r 65]) (pc2 := 77) b_15_76_1 rfl rfl ?_
            refine ov_iast d_15_77 (zb_65 I29) (zs_65 I29) (by omega) ?_
            have I41 := ua_65 (k := x1) (x := (0 + 2)) I29 (by omega) (hw 65 (by decide +kernel))
            refine ov_blk (ls2 := [(0, ov_r 58), (1, ov_i (x1 + 1))]) (st2 := []) (pc2 := 81) b_15_78_1 rfl rfl ?_
            refine ov_goto (tgt := 37) d_15_81 (by decide) ?_
            exact ih24 (x1 + 1) _ _ I41 (by show 0 ≤ (x1 + 1) ∧ (x1 + 1) ≤ 54 ∧ 0 ≤ (h28 64 0) ∧ (h28 36 7) = (h 36 7) ∧ (h28 1 1) = (h 1 1) ∧ (h28 90 2) = (h 90 2) ∧ (h28 0 10) = (h 0 10) ∧ (h28 0 11) = (h 0 11) ∧ (h28 0 12) = (h 0 12) ∧ (h28 0 13) = (h 0 13) ∧ (h28 3 1) = (h 3 1) ∧ (h28 36 8) = (h 36 8) ∧ (h28 46 3) = (h 46 3) ∧ (h28 46 4) = (h 46 4) ∧ (h28 49 4) = (h 49 4) ∧ (h28 49 5) = (h 49 5) ∧ (h28 76 0) = (h 76 0); omega) (by omega)
        · skip
          refine ov_blk (ls2 := [(0, ov_r 58), (1, ov_i x1)]) (st2 := [ov_i 1, ov_i x1, ov_r 65]) (pc2 := 58) b_15_57_1 rfl rfl ?_
          refine ov_goto (tgt := 62) d_15_58 (by decide) ?_
          refine ov_blk (ls2 := [(0, ov_r 58), (1, ov_i x1)]) (st2 := [ov_i 1, ov_i x1, ov_r 58, ov_i 1, ov_i x1, ov_r 65]) (pc2 := 65) b_15_62_3 rfl rfl ?_
          refine ov_cV (as := [ov_i x1, ov_i 1]) (st := [ov_i 1, ov_i x1, ov_r 65]) (d2 := d - 1) d_15_65 lk_Town_79 rfl (Nat.le_of_ble_eq_true rfl) (c := 9) (zb_58 I29) (zs_58 I29) ⟨by decide, rfl⟩ (by omega) (c_Town_opens_58 (d - 1) (by omega) U I29 x1 1 (by omega) (by omega) (by omega) (by omega)) ?_
          rintro _ _ _ ⟨v43, rfl, rfl, rfl, f42⟩
          show ov_R u d ov_m15 68 [(0, ov_r 58), (1, ov_i x1)] [ov_i v43, ov_i 1, ov_i x1, ov_r 65] z27 h28 (P_Town_complete_58 F z h)
          have f44 : (v43 = 0 ∨ v43 = 1) ∧ (v43 = 1 → ((1 : Int) = 0 ∧ x1 ≤ 52) ∨ ((1 : Int) = 1 ∧ x1 ≤ 47)) := f42
          clear f42
          refine ov_ifeq (tgt := 75) d_15_68 (by decide) (by omega) (fun c45 => ?_) (fun c45 => ?_)
          · skip
            refine ov_blk (ls2 := [(0, ov_r 58), (1, ov_i x1)]) (st2 := [ov_i (1 + 0), ov_i x1, ov_r 65]) (pc2 := 77) b_15_75_2 rfl rfl ?_
            refine ov_iast d_15_77 (zb_65 I29) (zs_65 I29) (by omega) ?_
            have I46 := ua_65 (k := x1) (x := (1 + 0)) I29 (by omega) (hw 65 (by decide +kernel))
            refine ov_blk (ls2 := [(0, ov_r 58), (1, ov_i (x1 + 1))]) (st2 := []) (pc2 := 81) b_15_78_1 rfl rfl ?_
            refine ov_goto (tgt := 37) d_15_81 (by decide) ?_
            exact ih24 (x1 + 1) _ _ I46 (by show 0 ≤ (x1 + 1) ∧ (x1 + 1) ≤ 54 ∧ 0 ≤ (h28 64 0) ∧ (h28 36 7) = (h 36 7) ∧ (h28 1 1) = (h 1 1) ∧ (h28 90 2) = (h 90 2) ∧ (h28 0 10) = (h 0 10) ∧ (h28 0 11) = (h 0 11) ∧ (h28 0 12) = (h 0 12) ∧ (h28 0 13) = (h 0 13) ∧ (h28 3 1) = (h 3 1) ∧ (h28 36 8) = (h 36 8) ∧ (h28 46 3) = (h 46 3) ∧ (h28 46 4) = (h 46 4) ∧ (h28 49 4) = (h 49 4) ∧ (h28 49 5) = (h 49 5) ∧ (h28 76 0) = (h 76 0); omega) (by omega)
          · skip
            refine ov_blk (ls2 := [(0, ov_r 58), (1, ov_i x1)]) (st2 := [ov_i 2, ov_i 1, ov_i x1, ov_r 65]) (pc2 := 72) b_15_71_1 rfl rfl ?_
            refine ov_goto (tgt := 76) d_15_72 (by decide) ?_
            refine ov_blk (ls2 := [(0, ov_r 58), (1, ov_i x1)]) (st2 := [ov_i (1 + 2), ov_i x1, ov_r 65]) (pc2 := 77) b_15_76_1 rfl rfl ?_
            refine ov_iast d_15_77 (zb_65 I29) (zs_65 I29) (by omega) ?_
            have I47 := ua_65 (k := x1) (x := (1 + 2)) I29 (by omega) (hw 65 (by decide +kernel))
            refine ov_blk (ls2 := [(0, ov_r 58), (1, ov_i (x1 + 1))]) (st2 := []) (pc2 := 81) b_15_78_1 rfl rfl ?_
            refine ov_goto (tgt := 37) d_15_81 (by decide) ?_
            exact ih24 (x1 + 1) _ _ I47 (by show 0 ≤ (x1 + 1) ∧ (x1 + 1) ≤ 54 ∧ 0 ≤ (h28 64 0) ∧ (h28 36 7) = (h 36 7) ∧ (h28 1 1) = (h 1 1) ∧ (h28 90 2) = (h 90 2) ∧ (h28 0 10) = (h 0 10) ∧ (h28 0 11) = (h 0 11) ∧ (h28 0 12) = (h 0 12) ∧ (h28 0 13) = (h 0 13) ∧ (h28 3 1) = (h 3 1) ∧ (h28 36 8) = (h 36 8) ∧ (h28 46 3) = (h 46 3) ∧ (h28 46 4) = (h 46 4) ∧ (h28 49 4) = (h 49 4) ∧ (h28 49 5) = (h 49 5) ∧ (h28 76 0) = (h 76 0); omega) (by omega)
  exact L26 55 0 _ _ I21 (by show 0 ≤ 0 ∧ 0 ≤ 54 ∧ 0 ≤ (h20 64 0) ∧ (h20 36 7) = (h 36 7) ∧ (h20 1 1) = (h 1 1) ∧ (h20 90 2) = (h 90 2) ∧ (h20 0 10) = (h 0 10) ∧ (h20 0 11) = (h 0 11) ∧ (h20 0 12) = (h 0 12) ∧ (h20 0 13) = (h 0 13) ∧ (h20 3 1) = (h 3 1) ∧ (h20 36 8) = (h 36 8) ∧ (h20 46 3) = (h 46 3) ∧ (h20 46 4) = (h 46 4) ∧ (h20 49 4) = (h 49 4) ∧ (h20 49 5) = (h 49 5) ∧ (h20 76 0) = (h 76 0); omega) (by omega)
abbrev P_Town_clear_58 (F : ov_H) (z : ov_Z) (h : ov_H)  : Option ov_V → ov_Z → ov_H → Prop := fun r0 z' h' => r0 = none ∧ ov_I F z' h' ∧ (1 ≤ (h' 58 0) ∧ 1 ≤ (h' 58 1) ∧ (h' 36 7) = (h 36 7) ∧ (h' 1 1) = (h 1 1) ∧ (h' 90 2) = (h 90 2) ∧ (h' 0 10) = (h 0 10) ∧ (h' 0 11) = (h 0 11) ∧ (h' 0 12) = (h 0 12) ∧ (h' 0 13) = (h 0 13) ∧ (h' 3 1) = (h 3 1) ∧ (h' 36 8) = (h 36 8) ∧ (h' 46 3) = (h 46 3) ∧ (h' 46 4) = (h 46 4) ∧ (h' 49 4) = (h 49 4) ∧ (h' 49 5) = (h 49 5) ∧ (h' 76 0) = (h 76 0))
set_option maxHeartbeats 4000000 in
theorem c_Town_clear_58 {u : ov_U} {F : ov_H} {z : ov_Z} {h : ov_H} (d : Nat) (hd : 1 ≤ d) (U : ov_cap u) (I : ov_I F z h) (hw : ov_kw 28534807239019462656 F) : ov_T u d ov_m13 [ov_r 58] z h (P_Town_clear_58 F z h) := by
  refine ov_en rfl (Nat.le_of_ble_eq_true rfl) ?_
  show ov_R u d ov_m13 0 [(0, ov_r 58)] [] z h (P_Town_clear_58 F z h)
  refine ov_blk (ls2 := [(0, ov_r 58)]) (st2 := [ov_i 1, ov_r 58]) (pc2 := 2) b_13_0_2 rfl rfl ?_
  refine ov_putf (x := 1) d_13_2 fl_Town_46 (zb_58 I) (zs_58 I) rfl nk_0 rfl ?_
  have I1 := up_58_0 (x := 1) I (by omega) (hw 58 (by decide +kernel))
  refine ov_blk (ls2 := [(0, ov_r 58)]) (st2 := [ov_i 1, ov_r 58]) (pc2 := 7) b_13_5_2 rfl rfl ?_
  refine ov_putf (x := 1) d_13_7 fl_Town_50 (zb_58 I1) (zs_58 I1) rfl nk_0 rfl ?_
  have I2 := up_58_1 (x := 1) I1 (by omega) (hw 58 (by decide +kernel))
  have I3 := ov_I_fu (T := 58) I2 (by show (1 : Int) ≤ 1 ∧ (1 : Int) ≤ 1; omega)
  refine ov_blk (ls2 := [(0, ov_r 58)]) (st2 := [ov_r 58]) (pc2 := 11) b_13_10_1 rfl rfl ?_
  refine ov_getf (v := ov_r 59) d_13_11 fl_Town_9 (zb_58 I3) (zs_58 I3) (congrArg ov_r (rg_58_2 I3)) ?_
  refine ov_blk (ls2 := [(0, ov_r 58)]) (st2 := [ov_i (-1), ov_r 59]) (pc2 := 15) b_13_14_1 rfl rfl ?_
  refine ov_cS (as := [ov_r 59, ov_i (-1)]) (st := []) (d2 := d - 1) d_13_15 lk_Town_53 rfl (Nat.le_of_ble_eq_true rfl) (by omega) (c_Arrays_fill_AIIV_59 (d - 1) (by omega) U I3 (ov_kws (ov_kwu hw) (by decide +kernel)) (-1) (by omega) (by omega)) ?_
  rintro _ z5 h6 ⟨rfl, I7, f4⟩
  show ov_R u d ov_m13 18 [(0, ov_r 58)] [] z5 h6 (P_Town_clear_58 F z h)
  have f8 : (h6 36 7) = (h 36 7) ∧ (h6 1 1) = (h 1 1) ∧ (h6 90 2) = (h 90 2) ∧ (h6 0 10) = (h 0 10) ∧ (h6 0 11) = (h 0 11) ∧ (h6 0 12) = (h 0 12) ∧ (h6 0 13) = (h 0 13) ∧ (h6 3 1) = (h 3 1) ∧ (h6 36 8) = (h 36 8) ∧ (h6 46 3) = (h 46 3) ∧ (h6 46 4) = (h 46 4) ∧ (h6 49 4) = (h 49 4) ∧ (h6 49 5) = (h 49 5) ∧ (h6 64 0) = (h 64 0) ∧ (h6 76 0) = (h 76 0) := f4
  clear f4
  refine ov_blk (ls2 := [(0, ov_r 58)]) (st2 := [ov_r 58]) (pc2 := 19) b_13_18_1 rfl rfl ?_
  refine ov_getf (v := ov_r 63) d_13_19 fl_Town_24 (zb_58 I7) (zs_58 I7) (congrArg ov_r (rg_58_6 I7)) ?_
  refine ov_blk (ls2 := [(0, ov_r 58)]) (st2 := [ov_i 0, ov_r 63]) (pc2 := 23) b_13_22_1 rfl rfl ?_
  refine ov_cS (as := [ov_r 63, ov_i 0]) (st := []) (d2 := d - 1) d_13_23 lk_Town_53 rfl (Nat.le_of_ble_eq_true rfl) (by omega) (c_Arrays_fill_AIIV_63 (d - 1) (by omega) U I7 (ov_kws (ov_kwu hw) (by decide +kernel)) 0 (by omega) (by omega)) ?_
  rintro _ z10 h11 ⟨rfl, I12, f9⟩
  show ov_R u d ov_m13 26 [(0, ov_r 58)] [] z10 h11 (P_Town_clear_58 F z h)
  have f13 : (h11 36 7) = (h6 36 7) ∧ (h11 1 1) = (h6 1 1) ∧ (h11 90 2) = (h6 90 2) ∧ (h11 0 10) = (h6 0 10) ∧ (h11 0 11) = (h6 0 11) ∧ (h11 0 12) = (h6 0 12) ∧ (h11 0 13) = (h6 0 13) ∧ (h11 3 1) = (h6 3 1) ∧ (h11 36 8) = (h6 36 8) ∧ (h11 46 3) = (h6 46 3) ∧ (h11 46 4) = (h6 46 4) ∧ (h11 49 4) = (h6 49 4) ∧ (h11 49 5) = (h6 49 5) ∧ (h11 64 0) = (h6 64 0) ∧ (h11 76 0) = (h6 76 0) := f9
  clear f9
  refine ov_blk (ls2 := [(0, ov_r 58)]) (st2 := [ov_r 58]) (pc2 := 27) b_13_26_1 rfl rfl ?_
  refine ov_getf (v := ov_r 64) d_13_27 fl_Town_27 (zb_58 I12) (zs_58 I12) (congrArg ov_r (rg_58_7 I12)) ?_
  refine ov_blk (ls2 := [(0, ov_r 58)]) (st2 := [ov_i (-1), ov_r 64]) (pc2 := 31) b_13_30_1 rfl rfl ?_
  refine ov_cS (as := [ov_r 64, ov_i (-1)]) (st := []) (d2 := d - 1) d_13_31 lk_Town_53 rfl (Nat.le_of_ble_eq_true rfl) (by omega) (c_Arrays_fill_AIIV_64 (d - 1) (by omega) U I12 (ov_kws (ov_kwu hw) (by decide +kernel)) (-1) (by omega) (by omega)) ?_
  rintro _ z15 h16 ⟨rfl, I17, f14⟩
  show ov_R u d ov_m13 34 [(0, ov_r 58)] [] z15 h16 (P_Town_clear_58 F z h)
  have f18 : (h16 36 7) = (h11 36 7) ∧ (h16 1 1) = (h11 1 1) ∧ (h16 90 2) = (h11 90 2) ∧ (h16 0 10) = (h11 0 10) ∧ (h16 0 11) = (h11 0 11) ∧ (h16 0 12) = (h11 0 12) ∧ (h16 0 13) = (h11 0 13) ∧ (h16 3 1) = (h11 3 1) ∧ (h16 36 8) = (h11 36 8) ∧ (h16 46 3) = (h11 46 3) ∧ (h16 46 4) = (h11 46 4) ∧ (h16 49 4) = (h11 49 4) ∧ (h16 49 5) = (h11 49 5) ∧ (h16 76 0) = (h11 76 0) := f14
  clear f14
  refine ov_blk (ls2 := [(0, ov_r 58)]) (st2 := [ov_i 0, ov_r 58]) (pc2 := 36) b_13_34_2 rfl rfl ?_
  refine ov_putf (x := 0) d_13_36 fl_Town_59 (zb_58 I17) (zs_58 I17) rfl (nk_3 (by omega)) rfl ?_
  have I19 := up_58_8 (x := 0) I17 (by omega) ((ov_kwu hw) 58 (by decide +kernel))
  refine ov_blk (ls2 := [(0, ov_r 58)]) (st2 := [ov_i 0, ov_r 58]) (pc2 := 41) b_13_39_2 rfl rfl ?_
  refine ov_putf (x := 0) d_13_41 fl_Town_63 (zb_58 I19) (zs_58 I19) rfl nk_0 rfl ?_
  have I20 := up_58_9 (x := 0) I19 (by omega) ((ov_kwu hw) 58 (by decide +kernel))
  refine ov_blk (ls2 := [(0, ov_r 58)]) (st2 := [ov_i 1, ov_r 58]) (pc2 := 46) b_13_44_2 rfl rfl ?_
  refine ov_putf (x := 1) d_13_46 fl_Town_66 (zb_58 I20) (zs_58 I20) rfl nk_0 rfl ?_
  have I21 := up_58_10 (x := 1) I20 (by omega) ((ov_kwu hw) 58 (by decide +kernel))
  refine ov_blk (ls2 := [(0, ov_r 58)]) (st2 := [ov_i 0, ov_r 58]) (pc2 := 51) b_13_49_2 rfl rfl ?_
  refine ov_putf (x := 0) d_13_51 fl_Town_69 (zb_58 I21) (zs_58 I21) rfl nk_0 rfl ?_
  have I22 := up_58_11 (x := 0) I21 (by omega) ((ov_kwu hw) 58 (by decide +kernel))
  refine ov_blk (ls2 := [(0, ov_r 58)]) (st2 := [ov_i 0, ov_r 58]) (pc2 := 56) b_13_54_2 rfl rfl ?_
  refine ov_putf (x := 0) d_13_56 fl_Town_72 (zb_58 I22) (zs_58 I22) rfl nk_0 rfl ?_
  have I23 := up_58_16 (x := 0) I22 (by omega) ((ov_kwu hw) 58 (by decide +kernel))
  have gf24 : 1 ≤ (h16 58 0) ∧ 1 ≤ (h16 58 1) := ov_I_fg (h := (ov_up (ov_up (ov_up (ov_up (ov_up h16 58 8 0) 58 9 0) 58 10 1) 58 11 0) 58 16 0)) (T := 58) (by omega) I23
  exact ov_retv (st := []) d_13_59 rfl ⟨rfl, (ov_I_fd I23), (by show 1 ≤ (h16 58 0) ∧ 1 ≤ (h16 58 1) ∧ (h16 36 7) = (h 36 7) ∧ (h16 1 1) = (h 1 1) ∧ (h16 90 2) = (h 90 2) ∧ (h16 0 10) = (h 0 10) ∧ (h16 0 11) = (h 0 11) ∧ (h16 0 12) = (h 0 12) ∧ (h16 0 13) = (h 0 13) ∧ (h16 3 1) = (h 3 1) ∧ (h16 36 8) = (h 36 8) ∧ (h16 46 3) = (h 46 3) ∧ (h16 46 4) = (h 46 4) ∧ (h16 49 4) = (h 49 4) ∧ (h16 49 5) = (h 49 5) ∧ (h16 76 0) = (h 76 0); omega)⟩
abbrev P_Town_longestWay_58 (F : ov_H) (z : ov_Z) (h : ov_H)  : Option ov_V → ov_Z → ov_H → Prop := fun r0 z' h' => ∃ r : Int, r0 = some (ov_i r) ∧ z = z' ∧ h = h' ∧ (-13 ≤ r ∧ r ≤ 1157)
set_option maxHeartbeats 4000000 in
theorem c_Town_longestWay_58 {u : ov_U} {F : ov_H} {z : ov_Z} {h : ov_H} (d : Nat) (hd : 1 ≤ d) (U : ov_cap u) (I : ov_I F z h) (p0 : F (-5) 58 = 1) : ov_T u d ov_m160 [ov_r 58] z h (P_Town_longestWay_58 F z h) := by
  refine ov_en rfl (Nat.le_of_ble_eq_true rfl) ?_
  show ov_R u d ov_m160 0 [(0, ov_r 58)] [] z h (P_Town_longestWay_58 F z h)
  refine ov_blk (ls2 := [(0, ov_r 58), (1, ov_i 0), (2, ov_i 0)]) (st2 := []) (pc2 := 4) b_160_0_4 rfl rfl ?_
  have L4 : ∀ (n1 : Nat) (x1 : Int) (x2 : Int) (q3 : 0 ≤ x1 ∧ x1 ≤ 59 ∧ 0 ≤ x2 ∧ x2 ≤ 54), 54 - x2 < (n1 : Int) → ov_R u d ov_m160 4 [(0, ov_r 58), (1, ov_i x1), (2, ov_i x2)] [] z h (P_Town_longestWay_58 F z h) := by
    intro n1
    induction n1 with
    | zero =>
      intro x1 x2 q3 hn5
      exact absurd hn5 (by omega)
    | succ n1 ih2 =>
      intro x1 x2 q3 hn5
      refine ov_blk (ls2 := [(0, ov_r 58), (1, ov_i x1), (2, ov_i x2)]) (st2 := [ov_i 54, ov_i x2]) (pc2 := 7) b_160_4_2 rfl rfl ?_
      refine ov_icge (tgt := 61) d_160_7 (by decide) (by omega) (by omega) (fun c6 => ?_) (fun c6 => ?_)
      · skip
        refine ov_blk (ls2 := [(0, ov_r 58), (1, ov_i x1), (2, ov_i x2)]) (st2 := [ov_i 0, ov_r 58]) (pc2 := 63) b_160_61_2 rfl rfl ?_
        refine ov_cV (as := [ov_i 0]) (st := []) (d2 := d - 1) d_160_63 lk_Town_99 rfl (Nat.le_of_ble_eq_true rfl) (c := 9) (zb_58 I) (zs_58 I) ⟨by decide, rfl⟩ (by omega) (c_Town_streetsHome_58 (d - 1) (by omega) U I 0 (by omega) (by omega) (by omega)) ?_
        rintro _ _ _ ⟨v8, rfl, rfl, rfl, f7⟩
        show ov_R u d ov_m160 66 [(0, ov_r 58), (1, ov_i x1), (2, ov_i x2)] [ov_i v8] z h (P_Town_longestWay_58 F z h)
        have f9 : -13 ≤ v8 ∧ v8 ≤ 13 ∧ ((0 : Int) = 0 → 0 ≤ v8) := f7
        clear f7
        refine ov_blk (ls2 := [(0, ov_r 58), (1, ov_i x1), (2, ov_i x2)]) (st2 := [ov_r 58, ov_i x1, ov_i v8]) (pc2 := 68) b_160_66_2 rfl rfl ?_
        refine ov_getf (v := ov_r 64) d_160_68 fl_Town_27 (zb_58 I) (zs_58 I) (congrArg ov_r (rg_58_7 I)) ?_
        refine ov_blk (ls2 := [(0, ov_r 58), (1, ov_i x1), (2, ov_i x2)]) (st2 := [ov_i 0, ov_r 64, ov_i x1, ov_i v8]) (pc2 := 72) b_160_71_1 rfl rfl ?_
        refine ov_iald d_160_72 (zb_64 I) (zs_64 I) (by omega) ?_
        have g10 := ra_64 I 0
        refine ov_blk (ls2 := [(0, ov_r 58), (1, ov_i x1), (2, ov_i x2)]) (st2 := [ov_i (x1 + (h 64 0)), ov_i v8]) (pc2 := 74) b_160_73_1 rfl rfl ?_
        have fm := ov_mulr (a := v8) (b := (x1 + (h 64 0))) (A := 13) (B := 89) (by omega) (by omega) (by omega) (by omega) (by omega)
        refine ov_blk (ls2 := [(0, ov_r 58), (1, ov_i x1), (2, ov_i x2)]) (st2 := [ov_i (v8 * (x1 + (h 64 0)))]) (pc2 := 75) b_160_74_1 rfl rfl ?_
        exact ov_reti (st := []) d_160_75 rfl ⟨_, rfl, rfl, rfl, (by show -13 ≤ (v8 * (x1 + (h 64 0))) ∧ (v8 * (x1 + (h 64 0))) ≤ 1157; omega)⟩
      · skip
        refine ov_blk (ls2 := [(0, ov_r 58), (1, ov_i x1), (2, ov_i x2)]) (st2 := [ov_i x2, ov_r 58]) (pc2 := 12) b_160_10_2 rfl rfl ?_
        refine ov_cV (as := [ov_i x2]) (st := []) (d2 := d - 1) d_160_12 lk_Town_89 rfl (Nat.le_of_ble_eq_true rfl) (c := 9) (zb_58 I) (zs_58 I) ⟨by decide, rfl⟩ (by omega) (c_Town_isTimed_58 (d - 1) (by omega) U I x2 (by omega) (by omega)) ?_
        rintro _ _ _ ⟨v12, rfl, rfl, rfl, f11⟩
        show ov_R u d ov_m160 15 [(0, ov_r 58), (1, ov_i x1), (2, ov_i x2)] [ov_i v12] z h (P_Town_longestWay_58 F z h)
        have f13 : (v12 = 0 ∨ v12 = 1) := f11
        clear f11
        refine ov_ifeq (tgt := 34) d_160_15 (by decide) (by omega) (fun c14 => ?_) (fun c14 => ?_)
        · skip
          refine ov_blk (ls2 := [(0, ov_r 58), (1, ov_i x1), (2, ov_i x2)]) (st2 := [ov_r 58]) (pc2 := 35) b_160_34_1 rfl rfl ?_
          refine ov_getf (v := ov_r 59) d_160_35 fl_Town_9 (zb_58 I) (zs_58 I) (congrArg ov_r (rg_58_2 I)) ?_
          refine ov_blk (ls2 := [(0, ov_r 58), (1, ov_i x1), (2, ov_i x2)]) (st2 := [ov_i x2, ov_r 59]) (pc2 := 39) b_160_38_1 rfl rfl ?_
          refine ov_iald d_160_39 (zb_59 I) (zs_59 I) (by omega) ?_
          have g15 := ra_59 I x2
          refine ov_blk (ls2 := [(0, ov_r 58), (1, ov_i x1), (2, ov_i x2)]) (st2 := [ov_i 2, ov_i (h 59 x2)]) (pc2 := 41) b_160_40_1 rfl rfl ?_
          refine ov_icne (tgt := 55) d_160_41 (by decide) (by omega) (by omega) (fun c16 => ?_) (fun c16 => ?_)
          · skip
            refine ov_blk (ls2 := [(0, ov_r 58), (1, ov_i x1), (2, ov_i (x2 + 1))]) (st2 := []) (pc2 := 58) b_160_55_1 rfl rfl ?_
            refine ov_goto (tgt := 4) d_160_58 (by decide) ?_
            exact ih2 x1 (x2 + 1) (by show 0 ≤ x1 ∧ x1 ≤ 59 ∧ 0 ≤ (x2 + 1) ∧ (x2 + 1) ≤ 54; omega) (by omega)
          · skip
            refine ov_blk (ls2 := [(0, ov_r 58), (1, ov_i x1), (2, ov_i x2)]) (st2 := [ov_r 58, ov_i x1]) (pc2 := 46) b_160_44_2 rfl rfl ?_
            refine ov_getf (v := ov_r 61) d_160_46 fl_Town_18 (zb_58 I) (zs_58 I) (congrArg ov_r (rg_58_4 I)) ?_
            refine ov_blk (ls2 := [(0, ov_r 58), (1, ov_i x1), (2, ov_i x2)]) (st2 := [ov_i x2, ov_r 61, ov_i x1]) (pc2 := 50) b_160_49_1 rfl rfl ?_
            refine ov_iald d_160_50 (zb_61 I) (zs_61 I) (by omega) ?_
            have g17 := ra_61 I x2
            refine ov_cS (as := [ov_i x1, ov_i (h 61 x2)]) (st := []) (d2 := d - 1) d_160_51 lk_Town_93 rfl (Nat.le_of_ble_eq_true rfl) (by omega) (c_Math_max (d - 1) (by omega) U I x1 (h 61 x2) (by omega) (by omega)) ?_
            rintro _ _ _ ⟨v19, rfl, rfl, rfl, f18⟩
            show ov_R u d ov_m160 54 [(0, ov_r 58), (1, ov_i x1), (2, ov_i x2)] [ov_i v19] z h (P_Town_longestWay_58 F z h)
            have f20 : x1 ≤ v19 ∧ (h 61 x2) ≤ v19 ∧ (v19 = x1 ∨ v19 = (h 61 x2)) := f18
            clear f18
            refine ov_blk (ls2 := [(0, ov_r 58), (1, ov_i v19), (2, ov_i (x2 + 1))]) (st2 := []) (pc2 := 58) b_160_54_2 rfl rfl ?_
            refine ov_goto (tgt := 4) d_160_58 (by decide) ?_
            exact ih2 v19 (x2 + 1) (by show 0 ≤ v19 ∧ v19 ≤ 59 ∧ 0 ≤ (x2 + 1) ∧ (x2 + 1) ≤ 54; omega) (by omega)
        · skip
          refine ov_blk (ls2 := [(0, ov_r 58), (1, ov_i x1), (2, ov_i x2)]) (st2 := [ov_r 58, ov_i x1]) (pc2 := 20) b_160_18_2 rfl rfl ?_
          refine ov_getf (v := ov_r 60) d_160_20 fl_Town_15 (zb_58 I) (zs_58 I) (congrArg ov_r (rg_58_3 I)) ?_
          refine ov_blk (ls2 := [(0, ov_r 58), (1, ov_i x1), (2, ov_i x2)]) (st2 := [ov_i x2, ov_r 60, ov_i x1]) (pc2 := 24) b_160_23_1 rfl rfl ?_
          refine ov_iald d_160_24 (zb_60 I) (zs_60 I) (by omega) ?_
          have g21 := ra_60 I x2
          refine ov_blk (ls2 := [(0, ov_r 58), (1, ov_i x1), (2, ov_i x2)]) (st2 := [ov_i ((h 60 x2) - 1), ov_i x1]) (pc2 := 27) b_160_25_2 rfl rfl ?_
          refine ov_cS (as := [ov_i x1, ov_i ((h 60 x2) - 1)]) (st := []) (d2 := d - 1) d_160_27 lk_Town_93 rfl (Nat.le_of_ble_eq_true rfl) (by omega) (c_Math_max (d - 1) (by omega) U I x1 ((h 60 x2) - 1) (by omega) (by omega)) ?_
          rintro _ _ _ ⟨v23, rfl, rfl, rfl, f22⟩
          show ov_R u d ov_m160 30 [(0, ov_r 58), (1, ov_i x1), (2, ov_i x2)] [ov_i v23] z h (P_Town_longestWay_58 F z h)
          have f24 : x1 ≤ v23 ∧ ((h 60 x2) - 1) ≤ v23 ∧ (v23 = x1 ∨ v23 = ((h 60 x2) - 1)) := f22
          clear f22
          refine ov_blk (ls2 := [(0, ov_r 58), (1, ov_i v23), (2, ov_i x2)]) (st2 := []) (pc2 := 31) b_160_30_1 rfl rfl ?_
          refine ov_goto (tgt := 55) d_160_31 (by decide) ?_
          refine ov_blk (ls2 := [(0, ov_r 58), (1, ov_i v23), (2, ov_i (x2 + 1))]) (st2 := []) (pc2 := 58) b_160_55_1 rfl rfl ?_
          refine ov_goto (tgt := 4) d_160_58 (by decide) ?_
          exact ih2 v23 (x2 + 1) (by show 0 ≤ v23 ∧ v23 ≤ 59 ∧ 0 ≤ (x2 + 1) ∧ (x2 + 1) ≤ 54; omega) (by omega)
  exact L4 55 0 0 (by show 0 ≤ 0 ∧ 0 ≤ 59 ∧ 0 ≤ 0 ∧ 0 ≤ 54; omega) (by omega)
abbrev P_Town_corner_70 (F : ov_H) (z : ov_Z) (h : ov_H) (x : Int) (y : Int) : Option ov_V → ov_Z → ov_H → Prop := fun r0 z' h' => ∃ r : Int, r0 = some (ov_i r) ∧ z = z' ∧ h = h' ∧ (r = -1 ∨ (0 ≤ x ∧ x < (h 70 0) ∧ 0 ≤ y ∧ y < (h 70 1) ∧ r = y * 6 + x ∧ (h 70 0) ≤ 6 ∧ (h 70 1) ≤ 9))
set_option maxHeartbeats 4000000 in
theorem c_Town_corner_70 {u : ov_U} {F : ov_H} {z : ov_Z} {h : ov_H} (d : Nat) (hd : 0 ≤ d) (U : ov_cap u) (I : ov_I F z h) (x : Int) (y : Int) (g_x : ov_g x) (g_y : ov_g y) : ov_T u d ov_m94 [ov_r 70, ov_i x, ov_i y] z h (P_Town_corner_70 F z h x y) := by
  refine ov_en rfl (Nat.le_of_ble_eq_true rfl) ?_
  show ov_R u d ov_m94 0 [(0, ov_r 70), (1, ov_i x), (2, ov_i y)] [] z h (P_Town_corner_70 F z h x y)
  refine ov_blk (ls2 := [(0, ov_r 70), (1, ov_i x), (2, ov_i y)]) (st2 := [ov_i x]) (pc2 := 1) b_94_0_1 rfl rfl ?_
  refine ov_iflt (tgt := 33) d_94_1 (by decide) (by omega) (fun c1 => ?_) (fun c1 => ?_)
  · skip
    refine ov_blk (ls2 := [(0, ov_r 70), (1, ov_i x), (2, ov_i y)]) (st2 := [ov_i (-1)]) (pc2 := 34) b_94_33_1 rfl rfl ?_
    exact ov_reti (st := []) d_94_34 rfl ⟨_, rfl, rfl, rfl, (by show (-1) = -1 ∨ (0 ≤ x ∧ x < (h 70 0) ∧ 0 ≤ y ∧ y < (h 70 1) ∧ (-1) = y * 6 + x ∧ (h 70 0) ≤ 6 ∧ (h 70 1) ≤ 9); omega)⟩
  · skip
    refine ov_blk (ls2 := [(0, ov_r 70), (1, ov_i x), (2, ov_i y)]) (st2 := [ov_r 70, ov_i x]) (pc2 := 6) b_94_4_2 rfl rfl ?_
    refine ov_getf (v := ov_i (h 70 0)) d_94_6 fl_Town_46 (zb_70 I) (zs_70 I) rfl ?_
    have g2 := rg_70_0 I
    refine ov_icge (tgt := 33) d_94_9 (by decide) (by omega) (by omega) (fun c3 => ?_) (fun c3 => ?_)
    · skip
      refine ov_blk (ls2 := [(0, ov_r 70), (1, ov_i x), (2, ov_i y)]) (st2 := [ov_i (-1)]) (pc2 := 34) b_94_33_1 rfl rfl ?_
      exact ov_reti (st := []) d_94_34 rfl ⟨_, rfl, rfl, rfl, (by show (-1) = -1 ∨ (0 ≤ x ∧ x < (h 70 0) ∧ 0 ≤ y ∧ y < (h 70 1) ∧ (-1) = y * 6 + x ∧ (h 70 0) ≤ 6 ∧ (h 70 1) ≤ 9); omega)⟩
    · skip
      refine ov_blk (ls2 := [(0, ov_r 70), (1, ov_i x), (2, ov_i y)]) (st2 := [ov_i y]) (pc2 := 13) b_94_12_1 rfl rfl ?_
      refine ov_iflt (tgt := 33) d_94_13 (by decide) (by omega) (fun c4 => ?_) (fun c4 => ?_)
      · skip
        refine ov_blk (ls2 := [(0, ov_r 70), (1, ov_i x), (2, ov_i y)]) (st2 := [ov_i (-1)]) (pc2 := 34) b_94_33_1 rfl rfl ?_
        exact ov_reti (st := []) d_94_34 rfl ⟨_, rfl, rfl, rfl, (by show (-1) = -1 ∨ (0 ≤ x ∧ x < (h 70 0) ∧ 0 ≤ y ∧ y < (h 70 1) ∧ (-1) = y * 6 + x ∧ (h 70 0) ≤ 6 ∧ (h 70 1) ≤ 9); omega)⟩
      · skip
        refine ov_blk (ls2 := [(0, ov_r 70), (1, ov_i x), (2, ov_i y)]) (st2 := [ov_r 70, ov_i y]) (pc2 := 18) b_94_16_2 rfl rfl ?_
        refine ov_getf (v := ov_i (h 70 1)) d_94_18 fl_Town_50 (zb_70 I) (zs_70 I) rfl ?_
        have g5 := rg_70_1 I
        refine ov_icge (tgt := 33) d_94_21 (by decide) (by omega) (by omega) (fun c6 => ?_) (fun c6 => ?_)
        · skip
          refine ov_blk (ls2 := [(0, ov_r 70), (1, ov_i x), (2, ov_i y)]) (st2 := [ov_i (-1)]) (pc2 := 34) b_94_33_1 rfl rfl ?_
          exact ov_reti (st := []) d_94_34 rfl ⟨_, rfl, rfl, rfl, (by show (-1) = -1 ∨ (0 ≤ x ∧ x < (h 70 0) ∧ 0 ≤ y ∧ y < (h 70 1) ∧ (-1) = y * 6 + x ∧ (h 70 0) ≤ 6 ∧ (h 70 1) ≤ 9); omega)⟩
        · skip
          refine ov_blk (ls2 := [(0, ov_r 70), (1, ov_i x), (2, ov_i y)]) (st2 := [ov_i ((y * 6) + x)]) (pc2 := 30) b_94_24_5 rfl rfl ?_
          refine ov_goto (tgt := 34) d_94_30 (by decide) ?_
          exact ov_reti (st := []) d_94_34 rfl ⟨_, rfl, rfl, rfl, (by show ((y * 6) + x) = -1 ∨ (0 ≤ x ∧ x < (h 70 0) ∧ 0 ≤ y ∧ y < (h 70 1) ∧ ((y * 6) + x) = y * 6 + x ∧ (h 70 0) ≤ 6 ∧ (h 70 1) ≤ 9); omega)⟩
abbrev P_Town_home_70 (F : ov_H) (z : ov_Z) (h : ov_H)  : Option ov_V → ov_Z → ov_H → Prop := fun r0 z' h' => ∃ r : Int, r0 = some (ov_i r) ∧ z = z' ∧ h = h' ∧ (r = ((h 70 1) - 1) * 6 + (h 70 0) - 1 ∧ 0 ≤ r ∧ r ≤ 53)
set_option maxHeartbeats 4000000 in
theorem c_Town_home_70 {u : ov_U} {F : ov_H} {z : ov_Z} {h : ov_H} (d : Nat) (hd : 0 ≤ d) (U : ov_cap u) (I : ov_I F z h) (p0 : F (-5) 70 = 1) : ov_T u d ov_m115 [ov_r 70] z h (P_Town_home_70 F z h) := by
  refine ov_en rfl (Nat.le_of_ble_eq_true rfl) ?_
  show ov_R u d ov_m115 0 [(0, ov_r 70)] [] z h (P_Town_home_70 F z h)
  have gfl := fg_70 I p0
  refine ov_blk (ls2 := [(0, ov_r 70)]) (st2 := [ov_r 70]) (pc2 := 1) b_115_0_1 rfl rfl ?_
  refine ov_getf (v := ov_i (h 70 1)) d_115_1 fl_Town_50 (zb_70 I) (zs_70 I) rfl ?_
  have g1 := rg_70_1 I
  refine ov_blk (ls2 := [(0, ov_r 70)]) (st2 := [ov_r 70, ov_i (((h 70 1) - 1) * 6)]) (pc2 := 10) b_115_4_5 rfl rfl ?_
  refine ov_getf (v := ov_i (h 70 0)) d_115_10 fl_Town_46 (zb_70 I) (zs_70 I) rfl ?_
  have g2 := rg_70_0 I
  refine ov_blk (ls2 := [(0, ov_r 70)]) (st2 := [ov_i (((((h 70 1) - 1) * 6) + (h 70 0)) - 1)]) (pc2 := 16) b_115_13_3 rfl rfl ?_
  exact ov_reti (st := []) d_115_16 rfl ⟨_, rfl, rfl, rfl, (by show (((((h 70 1) - 1) * 6) + (h 70 0)) - 1) = ((h 70 1) - 1) * 6 + (h 70 0) - 1 ∧ 0 ≤ (((((h 70 1) - 1) * 6) + (h 70 0)) - 1) ∧ (((((h 70 1) - 1) * 6) + (h 70 0)) - 1) ≤ 53; omega)⟩
abbrev P_Town_after_70 (F : ov_H) (z : ov_Z) (h : ov_H) (c : Int) (way : Int) : Option ov_V → ov_Z → ov_H → Prop := fun r0 z' h' => ∃ r : Int, r0 = some (ov_i r) ∧ z = z' ∧ h = h' ∧ ((way = 0 → r = c + 1) ∧ (¬ way = 0 → r = c + 6))
set_option maxHeartbeats 4000000 in
theorem c_Town_after_70 {u : ov_U} {F : ov_H} {z : ov_Z} {h : ov_H} (d : Nat) (hd : 0 ≤ d) (U : ov_cap u) (I : ov_I F z h) (c : Int) (way : Int) (g_c : ov_g c) (g_way : ov_g way) (p0 : 0 ≤ c ∧ c ≤ 53) : ov_T u d ov_m91 [ov_r 70, ov_i c, ov_i way] z h (P_Town_after_70 F z h c way) := by
  refine ov_en rfl (Nat.le_of_ble_eq_true rfl) ?_
  show ov_R u d ov_m91 0 [(0, ov_r 70), (1, ov_i c), (2, ov_i way)] [] z h (P_Town_after_70 F z h c way)
  refine ov_blk (ls2 := [(0, ov_r 70), (1, ov_i c), (2, ov_i way)]) (st2 := [ov_i way]) (pc2 := 1) b_91_0_1 rfl rfl ?_
  refine ov_ifne (tgt := 10) d_91_1 (by decide) (by omega) (fun c1 => ?_) (fun c1 => ?_)
  · skip
    refine ov_blk (ls2 := [(0, ov_r 70), (1, ov_i c), (2, ov_i way)]) (st2 := [ov_i (c + 6)]) (pc2 := 14) b_91_10_3 rfl rfl ?_
    exact ov_reti (st := []) d_91_14 rfl ⟨_, rfl, rfl, rfl, (by show (way = 0 → (c + 6) = c + 1) ∧ (¬ way = 0 → (c + 6) = c + 6); omega)⟩
  · skip
    refine ov_blk (ls2 := [(0, ov_r 70), (1, ov_i c), (2, ov_i way)]) (st2 := [ov_i (c + 1)]) (pc2 := 7) b_91_4_3 rfl rfl ?_
    refine ov_goto (tgt := 14) d_91_7 (by decide) ?_
    exact ov_reti (st := []) d_91_14 rfl ⟨_, rfl, rfl, rfl, (by show (way = 0 → (c + 1) = c + 1) ∧ (¬ way = 0 → (c + 1) = c + 6); omega)⟩
abbrev P_Town_streetsHome_70 (F : ov_H) (z : ov_Z) (h : ov_H) (c : Int) : Option ov_V → ov_Z → ov_H → Prop := fun r0 z' h' => ∃ r : Int, r0 = some (ov_i r) ∧ z = z' ∧ h = h' ∧ (-13 ≤ r ∧ r ≤ 13 ∧ (c = 0 → 0 ≤ r))
set_option maxHeartbeats 4000000 in
theorem c_Town_streetsHome_70 {u : ov_U} {F : ov_H} {z : ov_Z} {h : ov_H} (d : Nat) (hd : 0 ≤ d) (U : ov_cap u) (I : ov_I F z h) (c : Int) (g_c : ov_g c) (p0 : 0 ≤ c ∧ c ≤ 53) (p1 : F (-5) 70 = 1) : ov_T u d ov_m134 [ov_r 70, ov_i c] z h (P_Town_streetsHome_70 F z h c) := by
  refine ov_en rfl (Nat.le_of_ble_eq_true rfl) ?_
  show ov_R u d ov_m134 0 [(0, ov_r 70), (1, ov_i c)] [] z h (P_Town_streetsHome_70 F z h c)
  have gfl := fg_70 I p1
  refine ov_blk (ls2 := [(0, ov_r 70), (1, ov_i c)]) (st2 := [ov_r 70]) (pc2 := 1) b_134_0_1 rfl rfl ?_
  refine ov_getf (v := ov_i (h 70 0)) d_134_1 fl_Town_46 (zb_70 I) (zs_70 I) rfl ?_
  have g1 := rg_70_0 I
  refine ov_blk (ls2 := [(0, ov_r 70), (1, ov_i c)]) (st2 := [ov_i 6, ov_i c, ov_i ((h 70 0) - 1)]) (pc2 := 9) b_134_4_4 rfl rfl ?_
  refine ov_irem d_134_9 (by omega) (by omega) (by omega) ?_
  have g2 := ov_tm (a := c) (b := 6) (by omega)
  have g3 := ov_tmg (a := c) (b := 6) (by omega) (by omega)
  refine ov_blk (ls2 := [(0, ov_r 70), (1, ov_i c)]) (st2 := [ov_r 70, ov_i (((h 70 0) - 1) - (Int.tmod c 6))]) (pc2 := 12) b_134_10_2 rfl rfl ?_
  refine ov_getf (v := ov_i (h 70 1)) d_134_12 fl_Town_50 (zb_70 I) (zs_70 I) rfl ?_
  have g4 := rg_70_1 I
  refine ov_blk (ls2 := [(0, ov_r 70), (1, ov_i c)]) (st2 := [ov_i 6, ov_i c, ov_i (((((h 70 0) - 1) - (Int.tmod c 6)) + (h 70 1)) - 1)]) (pc2 := 21) b_134_15_5 rfl rfl ?_
  refine ov_idiv d_134_21 (by omega) (by omega) (by omega) ?_
  have g5 := ov_td (a := c) (b := 6) (by omega)
  refine ov_blk (ls2 := [(0, ov_r 70), (1, ov_i c)]) (st2 := [ov_i ((((((h 70 0) - 1) - (Int.tmod c 6)) + (h 70 1)) - 1) - (Int.tdiv c 6))]) (pc2 := 23) b_134_22_1 rfl rfl ?_
  exact ov_reti (st := []) d_134_23 rfl ⟨_, rfl, rfl, rfl, (by show -13 ≤ ((((((h 70 0) - 1) - (Int.tmod c 6)) + (h 70 1)) - 1) - (Int.tdiv c 6)) ∧ ((((((h 70 0) - 1) - (Int.tmod c 6)) + (h 70 1)) - 1) - (Int.tdiv c 6)) ≤ 13 ∧ (c = 0 → 0 ≤ ((((((h 70 0) - 1) - (Int.tmod c 6)) + (h 70 1)) - 1) - (Int.tdiv c 6))); omega)⟩
abbrev P_Town_isBeyond_70 (F : ov_H) (z : ov_Z) (h : ov_H) (c : Int) (way : Int) : Option ov_V → ov_Z → ov_H → Prop := fun r0 z' h' => ∃ r : Int, r0 = some (ov_i r) ∧ z = z' ∧ h = h' ∧ ((r = 0 ∨ r = 1) ∧ (r = 0 → (way = 0 → c % 6 < (h 70 0) - 1 ∧ (h 70 0) ≤ 6) ∧ (¬ way = 0 → c / 6 < (h 70 1) - 1 ∧ (h 70 1) ≤ 9)))
set_option maxHeartbeats 4000000 in
theorem c_Town_isBeyond_70 {u : ov_U} {F : ov_H} {z : ov_Z} {h : ov_H} (d : Nat) (hd : 0 ≤ d) (U : ov_cap u) (I : ov_I F z h) (c : Int) (way : Int) (g_c : ov_g c) (g_way : ov_g way) (p0 : 0 ≤ c ∧ c ≤ 53) : ov_T u d ov_m18 [ov_r 70, ov_i c, ov_i way] z h (P_Town_isBeyond_70 F z h c way) := by
  refine ov_en rfl (Nat.le_of_ble_eq_true rfl) ?_
  show ov_R u d ov_m18 0 [(0, ov_r 70), (1, ov_i c), (2, ov_i way)] [] z h (P_Town_isBeyond_70 F z h c way)
  refine ov_blk (ls2 := [(0, ov_r 70), (1, ov_i c), (2, ov_i way)]) (st2 := [ov_i way]) (pc2 := 1) b_18_0_1 rfl rfl ?_
  refine ov_ifne (tgt := 25) d_18_1 (by decide) (by omega) (fun c1 => ?_) (fun c1 => ?_)
  · skip
    refine ov_blk (ls2 := [(0, ov_r 70), (1, ov_i c), (2, ov_i way)]) (st2 := [ov_i 6, ov_i c]) (pc2 := 28) b_18_25_2 rfl rfl ?_
    refine ov_idiv d_18_28 (by omega) (by omega) (by omega) ?_
    have g2 := ov_td (a := c) (b := 6) (by omega)
    refine ov_blk (ls2 := [(0, ov_r 70), (1, ov_i c), (2, ov_i way)]) (st2 := [ov_r 70, ov_i (Int.tdiv c 6)]) (pc2 := 30) b_18_29_1 rfl rfl ?_
    refine ov_getf (v := ov_i (h 70 1)) d_18_30 fl_Town_50 (zb_70 I) (zs_70 I) rfl ?_
    have g3 := rg_70_1 I
    refine ov_blk (ls2 := [(0, ov_r 70), (1, ov_i c), (2, ov_i way)]) (st2 := [ov_i ((h 70 1) - 1), ov_i (Int.tdiv c 6)]) (pc2 := 35) b_18_33_2 rfl rfl ?_
    refine ov_iclt (tgt := 42) d_18_35 (by decide) (by omega) (by omega) (fun c4 => ?_) (fun c4 => ?_)
    · skip
      refine ov_blk (ls2 := [(0, ov_r 70), (1, ov_i c), (2, ov_i way)]) (st2 := [ov_i 0]) (pc2 := 43) b_18_42_1 rfl rfl ?_
      exact ov_retz (st := []) d_18_43 rfl (by omega) ⟨_, rfl, rfl, rfl, (by show (0 = 0 ∨ 0 = 1) ∧ (0 = 0 → (way = 0 → c % 6 < (h 70 0) - 1 ∧ (h 70 0) ≤ 6) ∧ (¬ way = 0 → c / 6 < (h 70 1) - 1 ∧ (h 70 1) ≤ 9)); omega)⟩
    · skip
      refine ov_blk (ls2 := [(0, ov_r 70), (1, ov_i c), (2, ov_i way)]) (st2 := [ov_i 1]) (pc2 := 39) b_18_38_1 rfl rfl ?_
      refine ov_goto (tgt := 43) d_18_39 (by decide) ?_
      exact ov_retz (st := []) d_18_43 rfl (by omega) ⟨_, rfl, rfl, rfl, (by show (1 = 0 ∨ 1 = 1) ∧ (1 = 0 → (way = 0 → c % 6 < (h 70 0) - 1 ∧ (h 70 0) ≤ 6) ∧ (¬ way = 0 → c / 6 < (h 70 1) - 1 ∧ (h 70 1) ≤ 9)); omega)⟩
  · skip
    refine ov_blk (ls2 := [(0, ov_r 70), (1, ov_i c), (2, ov_i way)]) (st2 := [ov_i 6, ov_i c]) (pc2 := 7) b_18_4_2 rfl rfl ?_
    refine ov_irem d_18_7 (by omega) (by omega) (by omega) ?_
    have g5 := ov_tm (a := c) (b := 6) (by omega)
    have g6 := ov_tmg (a := c) (b := 6) (by omega) (by omega)
    refine ov_blk (ls2 := [(0, ov_r 70), (1, ov_i c), (2, ov_i way)]) (st2 := [ov_r 70, ov_i (Int.tmod c 6)]) (pc2 := 9) b_18_8_1 rfl rfl ?_
    refine ov_getf (v := ov_i (h 70 0)) d_18_9 fl_Town_46 (zb_70 I) (zs_70 I) rfl ?_
    have g7 := rg_70_0 I
    refine ov_blk (ls2 := [(0, ov_r 70), (1, ov_i c), (2, ov_i way)]) (st2 := [ov_i ((h 70 0) - 1), ov_i (Int.tmod c 6)]) (pc2 := 14) b_18_12_2 rfl rfl ?_
    refine ov_iclt (tgt := 21) d_18_14 (by decide) (by omega) (by omega) (fun c8 => ?_) (fun c8 => ?_)
    · skip
      refine ov_blk (ls2 := [(0, ov_r 70), (1, ov_i c), (2, ov_i way)]) (st2 := [ov_i 0]) (pc2 := 22) b_18_21_1 rfl rfl ?_
      refine ov_goto (tgt := 43) d_18_22 (by decide) ?_
      exact ov_retz (st := []) d_18_43 rfl (by omega) ⟨_, rfl, rfl, rfl, (by show (0 = 0 ∨ 0 = 1) ∧ (0 = 0 → (way = 0 → c % 6 < (h 70 0) - 1 ∧ (h 70 0) ≤ 6) ∧ (¬ way = 0 → c / 6 < (h 70 1) - 1 ∧ (h 70 1) ≤ 9)); omega)⟩
    · skip
      refine ov_blk (ls2 := [(0, ov_r 70), (1, ov_i c), (2, ov_i way)]) (st2 := [ov_i 1]) (pc2 := 18) b_18_17_1 rfl rfl ?_
      refine ov_goto (tgt := 43) d_18_18 (by decide) ?_
      exact ov_retz (st := []) d_18_43 rfl (by omega) ⟨_, rfl, rfl, rfl, (by show (1 = 0 ∨ 1 = 1) ∧ (1 = 0 → (way = 0 → c % 6 < (h 70 0) - 1 ∧ (h 70 0) ≤ 6) ∧ (¬ way = 0 → c / 6 < (h 70 1) - 1 ∧ (h 70 1) ≤ 9)); omega)⟩
abbrev P_Town_isBarred_70 (F : ov_H) (z : ov_Z) (h : ov_H) (c : Int) (way : Int) : Option ov_V → ov_Z → ov_H → Prop := fun r0 z' h' => ∃ r : Int, r0 = some (ov_i r) ∧ z = z' ∧ h = h' ∧ ((r = 0 ∨ r = 1))
set_option maxHeartbeats 4000000 in
theorem c_Town_isBarred_70 {u : ov_U} {F : ov_H} {z : ov_Z} {h : ov_H} (d : Nat) (hd : 0 ≤ d) (U : ov_cap u) (I : ov_I F z h) (c : Int) (way : Int) (g_c : ov_g c) (g_way : ov_g way) (p0 : 0 ≤ c ∧ c ≤ 53) : ov_T u d ov_m19 [ov_r 70, ov_i c, ov_i way] z h (P_Town_isBarred_70 F z h c way) := by
  refine ov_en rfl (Nat.le_of_ble_eq_true rfl) ?_
  show ov_R u d ov_m19 0 [(0, ov_r 70), (1, ov_i c), (2, ov_i way)] [] z h (P_Town_isBarred_70 F z h c way)
  refine ov_blk (ls2 := [(0, ov_r 70), (1, ov_i c), (2, ov_i way)]) (st2 := [ov_r 70]) (pc2 := 1) b_19_0_1 rfl rfl ?_
  refine ov_getf (v := ov_r 75) d_19_1 fl_Town_24 (zb_70 I) (zs_70 I) (congrArg ov_r (rg_70_6 I)) ?_
  refine ov_blk (ls2 := [(0, ov_r 70), (1, ov_i c), (2, ov_i way)]) (st2 := [ov_i c, ov_r 75]) (pc2 := 5) b_19_4_1 rfl rfl ?_
  refine ov_iald d_19_5 (zb_75 I) (zs_75 I) (by omega) ?_
  have g1 := ra_75 I c
  refine ov_blk (ls2 := [(0, ov_r 70), (1, ov_i c), (2, ov_i way)]) (st2 := [ov_i (ov_and (ov_shr (h 75 c) way) 1)]) (pc2 := 10) b_19_6_4 rfl rfl ?_
  have g2 := ov_shrg (h 75 c) way
  have g3 := ov_andg (ov_shr (h 75 c) way) 1
  have g4 := ov_and1 (ov_shr (h 75 c) way)
  refine ov_ifeq (tgt := 17) d_19_10 (by decide) (by omega) (fun c5 => ?_) (fun c5 => ?_)
  · skip
    refine ov_blk (ls2 := [(0, ov_r 70), (1, ov_i c), (2, ov_i way)]) (st2 := [ov_i 0]) (pc2 := 18) b_19_17_1 rfl rfl ?_
    exact ov_retz (st := []) d_19_18 rfl (by omega) ⟨_, rfl, rfl, rfl, (by show (0 = 0 ∨ 0 = 1); omega)⟩
  · skip
    refine ov_blk (ls2 := [(0, ov_r 70), (1, ov_i c), (2, ov_i way)]) (st2 := [ov_i 1]) (pc2 := 14) b_19_13_1 rfl rfl ?_
    refine ov_goto (tgt := 18) d_19_14 (by decide) ?_
    exact ov_retz (st := []) d_19_18 rfl (by omega) ⟨_, rfl, rfl, rfl, (by show (1 = 0 ∨ 1 = 1); omega)⟩
abbrev P_Town_isTimed_70 (F : ov_H) (z : ov_Z) (h : ov_H) (c : Int) : Option ov_V → ov_Z → ov_H → Prop := fun r0 z' h' => ∃ r : Int, r0 = some (ov_i r) ∧ z = z' ∧ h = h' ∧ ((r = 0 ∨ r = 1))
set_option maxHeartbeats 4000000 in
theorem c_Town_isTimed_70 {u : ov_U} {F : ov_H} {z : ov_Z} {h : ov_H} (d : Nat) (hd : 0 ≤ d) (U : ov_cap u) (I : ov_I F z h) (c : Int) (g_c : ov_g c) (p0 : 0 ≤ c ∧ c ≤ 53) : ov_T u d ov_m20 [ov_r 70, ov_i c] z h (P_Town_isTimed_70 F z h c) := by
  refine ov_en rfl (Nat.le_of_ble_eq_true rfl) ?_
  show ov_R u d ov_m20 0 [(0, ov_r 70), (1, ov_i c)] [] z h (P_Town_isTimed_70 F z h c)
  refine ov_blk (ls2 := [(0, ov_r 70), (1, ov_i c)]) (st2 := [ov_r 70]) (pc2 := 1) b_20_0_1 rfl rfl ?_
  refine ov_getf (v := ov_r 71) d_20_1 fl_Town_9 (zb_70 I) (zs_70 I) (congrArg ov_r (rg_70_2 I)) ?_
  refine ov_blk (ls2 := [(0, ov_r 70), (1, ov_i c)]) (st2 := [ov_i c, ov_r 71]) (pc2 := 5) b_20_4_1 rfl rfl ?_
  refine ov_iald d_20_5 (zb_71 I) (zs_71 I) (by omega) ?_
  have g1 := ra_71 I c
  refine ov_ifeq (tgt := 19) d_20_6 (by decide) (by omega) (fun c2 => ?_) (fun c2 => ?_)
  · skip
    refine ov_blk (ls2 := [(0, ov_r 70), (1, ov_i c)]) (st2 := [ov_i 1]) (pc2 := 20) b_20_19_1 rfl rfl ?_
    refine ov_goto (tgt := 24) d_20_20 (by decide) ?_
    exact ov_retz (st := []) d_20_24 rfl (by omega) ⟨_, rfl, rfl, rfl, (by show (1 = 0 ∨ 1 = 1); omega)⟩
  · skip
    refine ov_blk (ls2 := [(0, ov_r 70), (1, ov_i c)]) (st2 := [ov_r 70]) (pc2 := 10) b_20_9_1 rfl rfl ?_
    refine ov_getf (v := ov_r 71) d_20_10 fl_Town_9 (zb_70 I) (zs_70 I) (congrArg ov_r (rg_70_2 I)) ?_
    refine ov_blk (ls2 := [(0, ov_r 70), (1, ov_i c)]) (st2 := [ov_i c, ov_r 71]) (pc2 := 14) b_20_13_1 rfl rfl ?_
    refine ov_iald d_20_14 (zb_71 I) (zs_71 I) (by omega) ?_
    refine ov_blk (ls2 := [(0, ov_r 70), (1, ov_i c)]) (st2 := [ov_i 1, ov_i (h 71 c)]) (pc2 := 16) b_20_15_1 rfl rfl ?_
    refine ov_icne (tgt := 23) d_20_16 (by decide) (by omega) (by omega) (fun c4 => ?_) (fun c4 => ?_)
    · skip
      refine ov_blk (ls2 := [(0, ov_r 70), (1, ov_i c)]) (st2 := [ov_i 0]) (pc2 := 24) b_20_23_1 rfl rfl ?_
      exact ov_retz (st := []) d_20_24 rfl (by omega) ⟨_, rfl, rfl, rfl, (by show (0 = 0 ∨ 0 = 1); omega)⟩
    · skip
      refine ov_blk (ls2 := [(0, ov_r 70), (1, ov_i c)]) (st2 := [ov_i 1]) (pc2 := 20) b_20_19_1 rfl rfl ?_
      refine ov_goto (tgt := 24) d_20_20 (by decide) ?_
      exact ov_retz (st := []) d_20_24 rfl (by omega) ⟨_, rfl, rfl, rfl, (by show (1 = 0 ∨ 1 = 1); omega)⟩
abbrev P_Town_isOpen_70 (F : ov_H) (z : ov_Z) (h : ov_H) (c : Int) (way : Int) : Option ov_V → ov_Z → ov_H → Prop := fun r0 z' h' => ∃ r : Int, r0 = some (ov_i r) ∧ z = z' ∧ h = h' ∧ ((r = 0 ∨ r = 1) ∧ (r = 1 → (way = 0 ∧ c ≤ 52) ∨ (way = 1 ∧ c ≤ 47)))
set_option maxHeartbeats 4000000 in
theorem c_Town_isOpen_70 {u : ov_U} {F : ov_H} {z : ov_Z} {h : ov_H} (d : Nat) (hd : 0 ≤ d) (U : ov_cap u) (I : ov_I F z h) (c : Int) (way : Int) (g_c : ov_g c) (g_way : ov_g way) (p0 : 0 ≤ c ∧ c ≤ 53) : ov_T u d ov_m98 [ov_r 70, ov_i c, ov_i way] z h (P_Town_isOpen_70 F z h c way) := by
  refine ov_en rfl (Nat.le_of_ble_eq_true rfl) ?_
  show ov_R u d ov_m98 0 [(0, ov_r 70), (1, ov_i c), (2, ov_i way)] [] z h (P_Town_isOpen_70 F z h c way)
  refine ov_blk (ls2 := [(0, ov_r 70), (1, ov_i c), (2, ov_i way)]) (st2 := [ov_i way]) (pc2 := 1) b_98_0_1 rfl rfl ?_
  refine ov_ifeq (tgt := 9) d_98_1 (by decide) (by omega) (fun c1 => ?_) (fun c1 => ?_)
  · skip
    refine ov_blk (ls2 := [(0, ov_r 70), (1, ov_i c), (2, ov_i way)]) (st2 := [ov_r 70]) (pc2 := 10) b_98_9_1 rfl rfl ?_
    refine ov_getf (v := ov_r 77) d_98_10 fl_Town_30 (zb_70 I) (zs_70 I) (congrArg ov_r (rg_70_12 I)) ?_
    refine ov_blk (ls2 := [(0, ov_r 70), (1, ov_i c), (2, ov_i way)]) (st2 := [ov_i c, ov_r 77]) (pc2 := 14) b_98_13_1 rfl rfl ?_
    refine ov_iald d_98_14 (zb_77 I) (zs_77 I) (by omega) ?_
    have g2 := ra_77 I c
    refine ov_blk (ls2 := [(0, ov_r 70), (1, ov_i c), (2, ov_i way)]) (st2 := [ov_i 1, ov_i (ov_shr (h 77 c) way)]) (pc2 := 18) b_98_15_3 rfl rfl ?_
    have g3 := ov_shrg (h 77 c) way
    have fo := ov_op (x := (h 77 c)) (way := way) (by omega) (by omega)
    refine ov_blk (ls2 := [(0, ov_r 70), (1, ov_i c), (2, ov_i way)]) (st2 := [ov_i (ov_and (ov_shr (h 77 c) way) 1)]) (pc2 := 19) b_98_18_1 rfl rfl ?_
    have g4 := ov_andg (ov_shr (h 77 c) way) 1
    have g5 := ov_and1 (ov_shr (h 77 c) way)
    refine ov_ifeq (tgt := 26) d_98_19 (by decide) (by omega) (fun c6 => ?_) (fun c6 => ?_)
    · skip
      refine ov_blk (ls2 := [(0, ov_r 70), (1, ov_i c), (2, ov_i way)]) (st2 := [ov_i 0]) (pc2 := 27) b_98_26_1 rfl rfl ?_
      exact ov_retz (st := []) d_98_27 rfl (by omega) ⟨_, rfl, rfl, rfl, (by show (0 = 0 ∨ 0 = 1) ∧ (0 = 1 → (way = 0 ∧ c ≤ 52) ∨ (way = 1 ∧ c ≤ 47)); omega)⟩
    · skip
      refine ov_blk (ls2 := [(0, ov_r 70), (1, ov_i c), (2, ov_i way)]) (st2 := [ov_i 1]) (pc2 := 23) b_98_22_1 rfl rfl ?_
      refine ov_goto (tgt := 27) d_98_23 (by decide) ?_
      exact ov_retz (st := []) d_98_27 rfl (by omega) ⟨_, rfl, rfl, rfl, (by show (1 = 0 ∨ 1 = 1) ∧ (1 = 1 → (way = 0 ∧ c ≤ 52) ∨ (way = 1 ∧ c ≤ 47)); omega)⟩
  · skip
    refine ov_blk (ls2 := [(0, ov_r 70), (1, ov_i c), (2, ov_i way)]) (st2 := [ov_i 1, ov_i way]) (pc2 := 6) b_98_4_2 rfl rfl ?_
    refine ov_icne (tgt := 26) d_98_6 (by decide) (by omega) (by omega) (fun c7 => ?_) (fun c7 => ?_)
    · skip
      refine ov_blk (ls2 := [(0, ov_r 70), (1, ov_i c), (2, ov_i way)]) (st2 := [ov_i 0]) (pc2 := 27) b_98_26_1 rfl rfl ?_
      exact ov_retz (st := []) d_98_27 rfl (by omega) ⟨_, rfl, rfl, rfl, (by show (0 = 0 ∨ 0 = 1) ∧ (0 = 1 → (way = 0 ∧ c ≤ 52) ∨ (way = 1 ∧ c ≤ 47)); omega)⟩
    · skip
      refine ov_blk (ls2 := [(0, ov_r 70), (1, ov_i c), (2, ov_i way)]) (st2 := [ov_r 70]) (pc2 := 10) b_98_9_1 rfl rfl ?_
      refine ov_getf (v := ov_r 77) d_98_10 fl_Town_30 (zb_70 I) (zs_70 I) (congrArg ov_r (rg_70_12 I)) ?_
      refine ov_blk (ls2 := [(0, ov_r 70), (1, ov_i c), (2, ov_i way)]) (st2 := [ov_i c, ov_r 77]) (pc2 := 14) b_98_13_1 rfl rfl ?_
      refine ov_iald d_98_14 (zb_77 I) (zs_77 I) (by omega) ?_
      have g8 := ra_77 I c
      refine ov_blk (ls2 := [(0, ov_r 70), (1, ov_i c), (2, ov_i way)]) (st2 := [ov_i 1, ov_i (ov_shr (h 77 c) way)]) (pc2 := 18) b_98_15_3 rfl rfl ?_
      have g9 := ov_shrg (h 77 c) way
      have fo := ov_op (x := (h 77 c)) (way := way) (by omega) (by omega)
      refine ov_blk (ls2 := [(0, ov_r 70), (1, ov_i c), (2, ov_i way)]) (st2 := [ov_i (ov_and (ov_shr (h 77 c) way) 1)]) (pc2 := 19) b_98_18_1 rfl rfl ?_
      have g10 := ov_andg (ov_shr (h 77 c) way) 1
      have g11 := ov_and1 (ov_shr (h 77 c) way)
      refine ov_ifeq (tgt := 26) d_98_19 (by decide) (by omega) (fun c12 => ?_) (fun c12 => ?_)
      · skip
        refine ov_blk (ls2 := [(0, ov_r 70), (1, ov_i c), (2, ov_i way)]) (st2 := [ov_i 0]) (pc2 := 27) b_98_26_1 rfl rfl ?_
        exact ov_retz (st := []) d_98_27 rfl (by omega) ⟨_, rfl, rfl, rfl, (by show (0 = 0 ∨ 0 = 1) ∧ (0 = 1 → (way = 0 ∧ c ≤ 52) ∨ (way = 1 ∧ c ≤ 47)); omega)⟩
      · skip
        refine ov_blk (ls2 := [(0, ov_r 70), (1, ov_i c), (2, ov_i way)]) (st2 := [ov_i 1]) (pc2 := 23) b_98_22_1 rfl rfl ?_
        refine ov_goto (tgt := 27) d_98_23 (by decide) ?_
        exact ov_retz (st := []) d_98_27 rfl (by omega) ⟨_, rfl, rfl, rfl, (by show (1 = 0 ∨ 1 = 1) ∧ (1 = 1 → (way = 0 ∧ c ≤ 52) ∨ (way = 1 ∧ c ≤ 47)); omega)⟩
abbrev P_Town_waitFor_70 (F : ov_H) (z : ov_Z) (h : ov_H) (c : Int) (way : Int) (s : Int) : Option ov_V → ov_Z → ov_H → Prop := fun r0 z' h' => ∃ r : Int, r0 = some (ov_i r) ∧ z = z' ∧ h = h' ∧ (0 ≤ r ∧ r ≤ 60)
set_option maxHeartbeats 4000000 in
theorem c_Town_waitFor_70 {u : ov_U} {F : ov_H} {z : ov_Z} {h : ov_H} (d : Nat) (hd : 1 ≤ d) (U : ov_cap u) (I : ov_I F z h) (c : Int) (way : Int) (s : Int) (g_c : ov_g c) (g_way : ov_g way) (g_s : ov_g s) (p0 : 0 ≤ c ∧ c ≤ 53) : ov_T u d ov_m99 [ov_r 70, ov_i c, ov_i way, ov_i s] z h (P_Town_waitFor_70 F z h c way s) := by
  refine ov_en rfl (Nat.le_of_ble_eq_true rfl) ?_
  show ov_R u d ov_m99 0 [(0, ov_r 70), (1, ov_i c), (2, ov_i way), (3, ov_i s)] [] z h (P_Town_waitFor_70 F z h c way s)
  refine ov_blk (ls2 := [(0, ov_r 70), (1, ov_i c), (2, ov_i way), (3, ov_i s)]) (st2 := [ov_r 70]) (pc2 := 1) b_99_0_1 rfl rfl ?_
  refine ov_getf (v := ov_r 71) d_99_1 fl_Town_9 (zb_70 I) (zs_70 I) (congrArg ov_r (rg_70_2 I)) ?_
  refine ov_blk (ls2 := [(0, ov_r 70), (1, ov_i c), (2, ov_i way), (3, ov_i s)]) (st2 := [ov_i c, ov_r 71]) (pc2 := 5) b_99_4_1 rfl rfl ?_
  refine ov_iald d_99_5 (zb_71 I) (zs_71 I) (by omega) ?_
  have g1 := ra_71 I c
  refine ov_blk (ls2 := [(0, ov_r 70), (1, ov_i c), (2, ov_i way), (3, ov_i s)]) (st2 := [ov_i 2, ov_i (h 71 c)]) (pc2 := 7) b_99_6_1 rfl rfl ?_
  refine ov_icne (tgt := 25) d_99_7 (by decide) (by omega) (by omega) (fun c2 => ?_) (fun c2 => ?_)
  · skip
    refine ov_blk (ls2 := [(0, ov_r 70), (1, ov_i c), (2, ov_i way), (3, ov_i s)]) (st2 := [ov_i c, ov_r 70]) (pc2 := 27) b_99_25_2 rfl rfl ?_
    refine ov_cV (as := [ov_i c]) (st := []) (d2 := d - 1) d_99_27 lk_Town_89 rfl (Nat.le_of_ble_eq_true rfl) (c := 9) (zb_70 I) (zs_70 I) ⟨by decide, rfl⟩ (by omega) (c_Town_isTimed_70 (d - 1) (by omega) U I c (by omega) (by omega)) ?_
    rintro _ _ _ ⟨v4, rfl, rfl, rfl, f3⟩
    show ov_R u d ov_m99 30 [(0, ov_r 70), (1, ov_i c), (2, ov_i way), (3, ov_i s)] [ov_i v4] z h (P_Town_waitFor_70 F z h c way s)
    have f5 : (v4 = 0 ∨ v4 = 1) := f3
    clear f3
    refine ov_ifne (tgt := 35) d_99_30 (by decide) (by omega) (fun c6 => ?_) (fun c6 => ?_)
    · skip
      refine ov_blk (ls2 := [(0, ov_r 70), (1, ov_i c), (2, ov_i way), (3, ov_i s)]) (st2 := [ov_r 70]) (pc2 := 36) b_99_35_1 rfl rfl ?_
      refine ov_getf (v := ov_r 72) d_99_36 fl_Town_15 (zb_70 I) (zs_70 I) (congrArg ov_r (rg_70_3 I)) ?_
      refine ov_blk (ls2 := [(0, ov_r 70), (1, ov_i c), (2, ov_i way), (3, ov_i s)]) (st2 := [ov_i c, ov_r 72]) (pc2 := 40) b_99_39_1 rfl rfl ?_
      refine ov_iald d_99_40 (zb_72 I) (zs_72 I) (by omega) ?_
      have g7 := ra_72 I c
      refine ov_ifle (tgt := 64) d_99_41 (by decide) (by omega) (fun c8 => ?_) (fun c8 => ?_)
      · skip
        refine ov_blk (ls2 := [(0, ov_r 70), (1, ov_i c), (2, ov_i way), (3, ov_i s), (4, ov_i 0)]) (st2 := [ov_r 70, ov_i 0]) (pc2 := 70) b_99_64_4 rfl rfl ?_
        refine ov_getf (v := ov_r 74) d_99_70 fl_Town_21 (zb_70 I) (zs_70 I) (congrArg ov_r (rg_70_5 I)) ?_
        refine ov_blk (ls2 := [(0, ov_r 70), (1, ov_i c), (2, ov_i way), (3, ov_i s), (4, ov_i 0)]) (st2 := [ov_i c, ov_r 74, ov_i 0]) (pc2 := 74) b_99_73_1 rfl rfl ?_
        refine ov_iald d_99_74 (zb_74 I) (zs_74 I) (by omega) ?_
        have g9 := ra_74 I c
        refine ov_icge (tgt := 96) d_99_75 (by decide) (by omega) (by omega) (fun c10 => ?_) (fun c10 => ?_)
        · skip
          refine ov_blk (ls2 := [(0, ov_r 70), (1, ov_i c), (2, ov_i way), (3, ov_i s), (4, ov_i 0)]) (st2 := [ov_i way]) (pc2 := 97) b_99_96_1 rfl rfl ?_
          refine ov_ifne (tgt := 112) d_99_97 (by decide) (by omega) (fun c11 => ?_) (fun c11 => ?_)
          · skip
            refine ov_blk (ls2 := [(0, ov_r 70), (1, ov_i c), (2, ov_i way), (3, ov_i s), (4, ov_i 0)]) (st2 := [ov_i 0]) (pc2 := 113) b_99_112_1 rfl rfl ?_
            exact ov_reti (st := []) d_99_113 rfl ⟨_, rfl, rfl, rfl, (by show 0 ≤ 0 ∧ 0 ≤ 60; omega)⟩
          · skip
            refine ov_blk (ls2 := [(0, ov_r 70), (1, ov_i c), (2, ov_i way), (3, ov_i s), (4, ov_i 0)]) (st2 := [ov_r 70]) (pc2 := 101) b_99_100_1 rfl rfl ?_
            refine ov_getf (v := ov_r 72) d_99_101 fl_Town_15 (zb_70 I) (zs_70 I) (congrArg ov_r (rg_70_3 I)) ?_
            refine ov_blk (ls2 := [(0, ov_r 70), (1, ov_i c), (2, ov_i way), (3, ov_i s), (4, ov_i 0)]) (st2 := [ov_i c, ov_r 72]) (pc2 := 105) b_99_104_1 rfl rfl ?_
            refine ov_iald d_99_105 (zb_72 I) (zs_72 I) (by omega) ?_
            refine ov_blk (ls2 := [(0, ov_r 70), (1, ov_i c), (2, ov_i way), (3, ov_i s), (4, ov_i 0)]) (st2 := [ov_i ((h 72 c) - 0)]) (pc2 := 109) b_99_106_2 rfl rfl ?_
            refine ov_goto (tgt := 113) d_99_109 (by decide) ?_
            exact ov_reti (st := []) d_99_113 rfl ⟨_, rfl, rfl, rfl, (by show 0 ≤ ((h 72 c) - 0) ∧ ((h 72 c) - 0) ≤ 60; omega)⟩
        · skip
          refine ov_blk (ls2 := [(0, ov_r 70), (1, ov_i c), (2, ov_i way), (3, ov_i s), (4, ov_i 0)]) (st2 := [ov_i way]) (pc2 := 79) b_99_78_1 rfl rfl ?_
          refine ov_ifne (tgt := 86) d_99_79 (by decide) (by omega) (fun c13 => ?_) (fun c13 => ?_)
          · skip
            refine ov_blk (ls2 := [(0, ov_r 70), (1, ov_i c), (2, ov_i way), (3, ov_i s), (4, ov_i 0)]) (st2 := [ov_r 70]) (pc2 := 87) b_99_86_1 rfl rfl ?_
            refine ov_getf (v := ov_r 74) d_99_87 fl_Town_21 (zb_70 I) (zs_70 I) (congrArg ov_r (rg_70_5 I)) ?_
            refine ov_blk (ls2 := [(0, ov_r 70), (1, ov_i c), (2, ov_i way), (3, ov_i s), (4, ov_i 0)]) (st2 := [ov_i c, ov_r 74]) (pc2 := 91) b_99_90_1 rfl rfl ?_
            refine ov_iald d_99_91 (zb_74 I) (zs_74 I) (by omega) ?_
            refine ov_blk (ls2 := [(0, ov_r 70), (1, ov_i c), (2, ov_i way), (3, ov_i s), (4, ov_i 0)]) (st2 := [ov_i ((h 74 c) - 0)]) (pc2 := 95) b_99_92_2 rfl rfl ?_
            exact ov_reti (st := []) d_99_95 rfl ⟨_, rfl, rfl, rfl, (by show 0 ≤ ((h 74 c) - 0) ∧ ((h 74 c) - 0) ≤ 60; omega)⟩
          · skip
            refine ov_blk (ls2 := [(0, ov_r 70), (1, ov_i c), (2, ov_i way), (3, ov_i s), (4, ov_i 0)]) (st2 := [ov_i 0]) (pc2 := 83) b_99_82_1 rfl rfl ?_
            refine ov_goto (tgt := 95) d_99_83 (by decide) ?_
            exact ov_reti (st := []) d_99_95 rfl ⟨_, rfl, rfl, rfl, (by show 0 ≤ 0 ∧ 0 ≤ 60; omega)⟩
      · skip
        refine ov_blk (ls2 := [(0, ov_r 70), (1, ov_i c), (2, ov_i way), (3, ov_i s)]) (st2 := [ov_r 70, ov_i s]) (pc2 := 46) b_99_44_2 rfl rfl ?_
        refine ov_getf (v := ov_r 73) d_99_46 fl_Town_18 (zb_70 I) (zs_70 I) (congrArg ov_r (rg_70_4 I)) ?_
        refine ov_blk (ls2 := [(0, ov_r 70), (1, ov_i c), (2, ov_i way), (3, ov_i s)]) (st2 := [ov_i c, ov_r 73, ov_i s]) (pc2 := 50) b_99_49_1 rfl rfl ?_
        refine ov_iald d_99_50 (zb_73 I) (zs_73 I) (by omega) ?_
        have g15 := ra_73 I c
        refine ov_blk (ls2 := [(0, ov_r 70), (1, ov_i c), (2, ov_i way), (3, ov_i s)]) (st2 := [ov_i (s - (h 73 c))]) (pc2 := 52) b_99_51_1 rfl rfl ?_
        refine ov_havw (fun w16 gw16 qw16 => ?_)
        refine ov_blk (ls2 := [(0, ov_r 70), (1, ov_i c), (2, ov_i way), (3, ov_i s)]) (st2 := [ov_r 70, ov_i w16]) (pc2 := 53) b_99_52_1 rfl rfl ?_
        refine ov_getf (v := ov_r 72) d_99_53 fl_Town_15 (zb_70 I) (zs_70 I) (congrArg ov_r (rg_70_3 I)) ?_
        refine ov_blk (ls2 := [(0, ov_r 70), (1, ov_i c), (2, ov_i way), (3, ov_i s)]) (st2 := [ov_i c, ov_r 72, ov_i w16]) (pc2 := 57) b_99_56_1 rfl rfl ?_
        refine ov_iald d_99_57 (zb_72 I) (zs_72 I) (by omega) ?_
        refine ov_cS (as := [ov_i w16, ov_i (h 72 c)]) (st := []) (d2 := d - 1) d_99_58 lk_Town_103 rfl (Nat.le_of_ble_eq_true rfl) (by omega) (c_Math_floorMod_III (d - 1) (by omega) U I w16 (h 72 c) (by omega) (by omega) (by omega)) ?_
        rintro _ _ _ ⟨v19, rfl, rfl, rfl, f18⟩
        show ov_R u d ov_m99 61 [(0, ov_r 70), (1, ov_i c), (2, ov_i way), (3, ov_i s)] [ov_i v19] z h (P_Town_waitFor_70 F z h c way s)
        have f20 : 0 ≤ v19 ∧ v19 < (h 72 c) := f18
        clear f18
        refine ov_goto (tgt := 65) d_99_61 (by decide) ?_
        refine ov_blk (ls2 := [(0, ov_r 70), (1, ov_i c), (2, ov_i way), (3, ov_i s), (4, ov_i v19)]) (st2 := [ov_r 70, ov_i v19]) (pc2 := 70) b_99_65_3 rfl rfl ?_
        refine ov_getf (v := ov_r 74) d_99_70 fl_Town_21 (zb_70 I) (zs_70 I) (congrArg ov_r (rg_70_5 I)) ?_
        refine ov_blk (ls2 := [(0, ov_r 70), (1, ov_i c), (2, ov_i way), (3, ov_i s), (4, ov_i v19)]) (st2 := [ov_i c, ov_r 74, ov_i v19]) (pc2 := 74) b_99_73_1 rfl rfl ?_
        refine ov_iald d_99_74 (zb_74 I) (zs_74 I) (by omega) ?_
        have g21 := ra_74 I c
        refine ov_icge (tgt := 96) d_99_75 (by decide) (by omega) (by omega) (fun c22 => ?_) (fun c22 => ?_)
        · skip
          refine ov_blk (ls2 := [(0, ov_r 70), (1, ov_i c), (2, ov_i way), (3, ov_i s), (4, ov_i v19)]) (st2 := [ov_i way]) (pc2 := 97) b_99_96_1 rfl rfl ?_
          refine ov_ifne (tgt := 112) d_99_97 (by decide) (by omega) (fun c23 => ?_) (fun c23 => ?_)
          · skip
            refine ov_blk (ls2 := [(0, ov_r 70), (1, ov_i c), (2, ov_i way), (3, ov_i s), (4, ov_i v19)]) (st2 := [ov_i 0]) (pc2 := 113) b_99_112_1 rfl rfl ?_
            exact ov_reti (st := []) d_99_113 rfl ⟨_, rfl, rfl, rfl, (by show 0 ≤ 0 ∧ 0 ≤ 60; omega)⟩
          · skip
            refine ov_blk (ls2 := [(0, ov_r 70), (1, ov_i c), (2, ov_i way), (3, ov_i s), (4, ov_i v19)]) (st2 := [ov_r 70]) (pc2 := 101) b_99_100_1 rfl rfl ?_
            refine ov_getf (v := ov_r 72) d_99_101 fl_Town_15 (zb_70 I) (zs_70 I) (congrArg ov_r (rg_70_3 I)) ?_
            refine ov_blk (ls2 := [(0, ov_r 70), (1, ov_i c), (2, ov_i way), (3, ov_i s), (4, ov_i v19)]) (st2 := [ov_i c, ov_r 72]) (pc2 := 105) b_99_104_1 rfl rfl ?_
            refine ov_iald d_99_105 (zb_72 I) (zs_72 I) (by omega) ?_
            refine ov_blk (ls2 := [(0, ov_r 70), (1, ov_i c), (2, ov_i way), (3, ov_i s), (4, ov_i v19)]) (st2 := [ov_i ((h 72 c) - v19)]) (pc2 := 109) b_99_106_2 rfl rfl ?_
            refine ov_goto (tgt := 113) d_99_109 (by decide) ?_
            exact ov_reti (st := []) d_99_113 rfl ⟨_, rfl, rfl, rfl, (by show 0 ≤ ((h 72 c) - v19) ∧ ((h 72 c) - v19) ≤ 60; omega)⟩
        · skip
          refine ov_blk (ls2 := [(0, ov_r 70), (1, ov_i c), (2, ov_i way), (3, ov_i s), (4, ov_i v19)]) (st2 := [ov_i way]) (pc2 := 79) b_99_78_1 rfl rfl ?_
          refine ov_ifne (tgt := 86) d_99_79 (by decide) (by omega) (fun c25 => ?_) (fun c25 => ?_)
          · skip
            refine ov_blk (ls2 := [(0, ov_r 70), (1, ov_i c), (2, ov_i way), (3, ov_i s), (4, ov_i v19)]) (st2 := [ov_r 70]) (pc2 := 87) b_99_86_1 rfl rfl ?_
            refine ov_getf (v := ov_r 74) d_99_87 fl_Town_21 (zb_70 I) (zs_70 I) (congrArg ov_r (rg_70_5 I)) ?_
            refine ov_blk (ls2 := [(0, ov_r 70), (1, ov_i c), (2, ov_i way), (3, ov_i s), (4, ov_i v19)]) (st2 := [ov_i c, ov_r 74]) (pc2 := 91) b_99_90_1 rfl rfl ?_
            refine ov_iald d_99_91 (zb_74 I) (zs_74 I) (by omega) ?_
            refine ov_blk (ls2 := [(0, ov_r 70), (1, ov_i c), (2, ov_i way), (3, ov_i s), (4, ov_i v19)]) (st2 := [ov_i ((h 74 c) - v19)]) (pc2 := 95) b_99_92_2 rfl rfl ?_
            exact ov_reti (st := []) d_99_95 rfl ⟨_, rfl, rfl, rfl, (by show 0 ≤ ((h 74 c) - v19) ∧ ((h 74 c) - v19) ≤ 60; omega)⟩
          · skip
            refine ov_blk (ls2 := [(0, ov_r 70), (1, ov_i c), (2, ov_i way), (3, ov_i s), (4, ov_i v19)]) (st2 := [ov_i 0]) (pc2 := 83) b_99_82_1 rfl rfl ?_
            refine ov_goto (tgt := 95) d_99_83 (by decide) ?_
            exact ov_reti (st := []) d_99_95 rfl ⟨_, rfl, rfl, rfl, (by show 0 ≤ 0 ∧ 0 ≤ 60; omega)⟩
    · skip
      refine ov_blk (ls2 := [(0, ov_r 70), (1, ov_i c), (2, ov_i way), (3, ov_i s)]) (st2 := [ov_i 0]) (pc2 := 34) b_99_33_1 rfl rfl ?_
      exact ov_reti (st := []) d_99_34 rfl ⟨_, rfl, rfl, rfl, (by show 0 ≤ 0 ∧ 0 ≤ 60; omega)⟩
  · skip
    refine ov_blk (ls2 := [(0, ov_r 70), (1, ov_i c), (2, ov_i way), (3, ov_i s)]) (st2 := [ov_i way]) (pc2 := 11) b_99_10_1 rfl rfl ?_
    refine ov_ifne (tgt := 23) d_99_11 (by decide) (by omega) (fun c27 => ?_) (fun c27 => ?_)
    · skip
      refine ov_blk (ls2 := [(0, ov_r 70), (1, ov_i c), (2, ov_i way), (3, ov_i s)]) (st2 := [ov_i 0]) (pc2 := 24) b_99_23_1 rfl rfl ?_
      exact ov_reti (st := []) d_99_24 rfl ⟨_, rfl, rfl, rfl, (by show 0 ≤ 0 ∧ 0 ≤ 60; omega)⟩
    · skip
      refine ov_blk (ls2 := [(0, ov_r 70), (1, ov_i c), (2, ov_i way), (3, ov_i s)]) (st2 := [ov_r 70]) (pc2 := 15) b_99_14_1 rfl rfl ?_
      refine ov_getf (v := ov_r 73) d_99_15 fl_Town_18 (zb_70 I) (zs_70 I) (congrArg ov_r (rg_70_4 I)) ?_
      refine ov_blk (ls2 := [(0, ov_r 70), (1, ov_i c), (2, ov_i way), (3, ov_i s)]) (st2 := [ov_i c, ov_r 73]) (pc2 := 19) b_99_18_1 rfl rfl ?_
      refine ov_iald d_99_19 (zb_73 I) (zs_73 I) (by omega) ?_
      have g28 := ra_73 I c
      refine ov_goto (tgt := 24) d_99_20 (by decide) ?_
      exact ov_reti (st := []) d_99_24 rfl ⟨_, rfl, rfl, rfl, (by show 0 ≤ (h 73 c) ∧ (h 73 c) ≤ 60; omega)⟩
abbrev P_Town_shareRound_70 (F : ov_H) (z : ov_Z) (h : ov_H) (c : Int) (many : Int) : Option ov_V → ov_Z → ov_H → Prop := fun r0 z' h' => ∃ r : Int, r0 = some (ov_i r) ∧ z = z' ∧ h = h' ∧ ((r = 0 ∨ r = 1))
set_option maxHeartbeats 4000000 in
theorem c_Town_shareRound_70 {u : ov_U} {F : ov_H} {z : ov_Z} {h : ov_H} (d : Nat) (hd : 1 ≤ d) (U : ov_cap u) (I : ov_I F z h) (c : Int) (many : Int) (g_c : ov_g c) (g_many : ov_g many) (p0 : 0 ≤ c ∧ c ≤ 53) (p1 : many ≤ 4) : ov_T u d ov_m177 [ov_r 70, ov_i c, ov_i many] z h (P_Town_shareRound_70 F z h c many) := by
  refine ov_en rfl (Nat.le_of_ble_eq_true rfl) ?_
  show ov_R u d ov_m177 0 [(0, ov_r 70), (1, ov_i c), (2, ov_i many)] [] z h (P_Town_shareRound_70 F z h c many)
  refine ov_blk (ls2 := [(0, ov_r 70), (1, ov_i c), (2, ov_i many), (3, ov_i 0)]) (st2 := []) (pc2 := 2) b_177_0_2 rfl rfl ?_
  have L4 : ∀ (n1 : Nat) (x3 : Int) (q3 : 0 ≤ x3 ∧ (x3 ≤ 4)), 4 - x3 < (n1 : Int) → ov_R u d ov_m177 2 [(0, ov_r 70), (1, ov_i c), (2, ov_i many), (3, ov_i x3)] [] z h (P_Town_shareRound_70 F z h c many) := by
    intro n1
    induction n1 with
    | zero =>
      intro x3 q3 hn5
      exact absurd hn5 (by omega)
    | succ n1 ih2 =>
      intro x3 q3 hn5
      refine ov_blk (ls2 := [(0, ov_r 70), (1, ov_i c), (2, ov_i many), (3, ov_i x3)]) (st2 := [ov_i many, ov_i x3]) (pc2 := 4) b_177_2_2 rfl rfl ?_
      refine ov_icge (tgt := 55) d_177_4 (by decide) (by omega) (by omega) (fun c6 => ?_) (fun c6 => ?_)
      · skip
        refine ov_blk (ls2 := [(0, ov_r 70), (1, ov_i c), (2, ov_i many), (3, ov_i x3)]) (st2 := [ov_i 1]) (pc2 := 56) b_177_55_1 rfl rfl ?_
        exact ov_retz (st := []) d_177_56 rfl (by omega) ⟨_, rfl, rfl, rfl, (by show (1 = 0 ∨ 1 = 1); omega)⟩
      · skip
        refine ov_blk (ls2 := [(0, ov_r 70), (1, ov_i c), (2, ov_i many), (3, ov_i x3), (4, ov_i (c + (x3 * 6)))]) (st2 := [ov_i 54, ov_i (c + (x3 * 6))]) (pc2 := 19) b_177_7_8 rfl rfl ?_
        refine ov_icge (tgt := 47) d_177_19 (by decide) (by omega) (by omega) (fun c7 => ?_) (fun c7 => ?_)
        · skip
          refine ov_blk (ls2 := [(0, ov_r 70), (1, ov_i c), (2, ov_i many), (3, ov_i x3), (4, ov_i (c + (x3 * 6)))]) (st2 := [ov_i 0]) (pc2 := 48) b_177_47_1 rfl rfl ?_
          exact ov_retz (st := []) d_177_48 rfl (by omega) ⟨_, rfl, rfl, rfl, (by show (0 = 0 ∨ 0 = 1); omega)⟩
        · skip
          refine ov_blk (ls2 := [(0, ov_r 70), (1, ov_i c), (2, ov_i many), (3, ov_i x3), (4, ov_i (c + (x3 * 6)))]) (st2 := [ov_i (c + (x3 * 6)), ov_r 70]) (pc2 := 25) b_177_22_2 rfl rfl ?_
          refine ov_cV (as := [ov_i (c + (x3 * 6))]) (st := []) (d2 := d - 1) d_177_25 lk_Town_89 rfl (Nat.le_of_ble_eq_true rfl) (c := 9) (zb_70 I) (zs_70 I) ⟨by decide, rfl⟩ (by omega) (c_Town_isTimed_70 (d - 1) (by omega) U I (c + (x3 * 6)) (by omega) (by omega)) ?_
          rintro _ _ _ ⟨v9, rfl, rfl, rfl, f8⟩
          show ov_R u d ov_m177 28 [(0, ov_r 70), (1, ov_i c), (2, ov_i many), (3, ov_i x3), (4, ov_i (c + (x3 * 6)))] [ov_i v9] z h (P_Town_shareRound_70 F z h c many)
          have f10 : (v9 = 0 ∨ v9 = 1) := f8
          clear f8
          refine ov_ifeq (tgt := 47) d_177_28 (by decide) (by omega) (fun c11 => ?_) (fun c11 => ?_)
          · skip
            refine ov_blk (ls2 := [(0, ov_r 70), (1, ov_i c), (2, ov_i many), (3, ov_i x3), (4, ov_i (c + (x3 * 6)))]) (st2 := [ov_i 0]) (pc2 := 48) b_177_47_1 rfl rfl ?_
            exact ov_retz (st := []) d_177_48 rfl (by omega) ⟨_, rfl, rfl, rfl, (by show (0 = 0 ∨ 0 = 1); omega)⟩
          · skip
            refine ov_blk (ls2 := [(0, ov_r 70), (1, ov_i c), (2, ov_i many), (3, ov_i x3), (4, ov_i (c + (x3 * 6)))]) (st2 := [ov_r 70]) (pc2 := 32) b_177_31_1 rfl rfl ?_
            refine ov_getf (v := ov_r 72) d_177_32 fl_Town_15 (zb_70 I) (zs_70 I) (congrArg ov_r (rg_70_3 I)) ?_
            refine ov_blk (ls2 := [(0, ov_r 70), (1, ov_i c), (2, ov_i many), (3, ov_i x3), (4, ov_i (c + (x3 * 6)))]) (st2 := [ov_i (c + (x3 * 6)), ov_r 72]) (pc2 := 37) b_177_35_1 rfl rfl ?_
            refine ov_iald d_177_37 (zb_72 I) (zs_72 I) (by omega) ?_
            have g12 := ra_72 I (c + (x3 * 6))
            refine ov_blk (ls2 := [(0, ov_r 70), (1, ov_i c), (2, ov_i many), (3, ov_i x3), (4, ov_i (c + (x3 * 6)))]) (st2 := [ov_r 70, ov_i (h 72 (c + (x3 * 6)))]) (pc2 := 39) b_177_38_1 rfl rfl ?_
            refine ov_getf (v := ov_r 72) d_177_39 fl_Town_15 (zb_70 I) (zs_70 I) (congrArg ov_r (rg_70_3 I)) ?_
            refine ov_blk (ls2 := [(0, ov_r 70), (1, ov_i c), (2, ov_i many), (3, ov_i x3), (4, ov_i (c + (x3 * 6)))]) (st2 := [ov_i c, ov_r 72, ov_i (h 72 (c + (x3 * 6)))]) (pc2 := 43) b_177_42_1 rfl rfl ?_
            refine ov_iald d_177_43 (zb_72 I) (zs_72 I) (by omega) ?_
            have g13 := ra_72 I c
            refine ov_iceq (tgt := 49) d_177_44 (by decide) (by omega) (by omega) (fun c14 => ?_) (fun c14 => ?_)
            · skip
              refine ov_blk (ls2 := [(0, ov_r 70), (1, ov_i c), (2, ov_i many), (3, ov_i (x3 + 1)), (4, ov_i (c + (x3 * 6)))]) (st2 := []) (pc2 := 52) b_177_49_1 rfl rfl ?_
              refine ov_goto (tgt := 2) d_177_52 (by decide) ?_
              refine ov_sub (ls2 := [(0, ov_r 70), (1, ov_i c), (2, ov_i many), (3, ov_i (x3 + 1))]) (List.Sublist.subset (by repeat (first | exact List.Sublist.refl _ | apply List.Sublist.cons_cons | apply List.Sublist.cons))) ?_
              exact ih2 (x3 + 1) (by show 0 ≤ (x3 + 1) ∧ ((x3 + 1) ≤ 4); omega) (by omega)
            · skip
              refine ov_blk (ls2 := [(0, ov_r 70), (1, ov_i c), (2, ov_i many), (3, ov_i x3), (4, ov_i (c + (x3 * 6)))]) (st2 := [ov_i 0]) (pc2 := 48) b_177_47_1 rfl rfl ?_
              exact ov_retz (st := []) d_177_48 rfl (by omega) ⟨_, rfl, rfl, rfl, (by show (0 = 0 ∨ 0 = 1); omega)⟩
  exact L4 5 0 (by show 0 ≤ 0 ∧ (0 ≤ 4); omega) (by omega)
abbrev P_Town_hasRule_70 (F : ov_H) (z : ov_Z) (h : ov_H) (n : Int) : Option ov_V → ov_Z → ov_H → Prop := fun r0 z' h' => ∃ r : Int, r0 = some (ov_i r) ∧ z = z' ∧ h = h' ∧ ((r = 0 ∨ r = 1))
set_option maxHeartbeats 4000000 in
theorem c_Town_hasRule_70 {u : ov_U} {F : ov_H} {z : ov_Z} {h : ov_H} (d : Nat) (hd : 0 ≤ d) (U : ov_cap u) (I : ov_I F z h) (n : Int) : ov_T u d ov_m68 [ov_r 70, ov_l n] z h (P_Town_hasRule_70 F z h n) := by
  refine ov_en rfl (Nat.le_of_ble_eq_true rfl) ?_
  show ov_R u d ov_m68 0 [(0, ov_r 70), (1, ov_l n)] [] z h (P_Town_hasRule_70 F z h n)
  refine ov_blk (ls2 := [(0, ov_r 70), (1, ov_l n), (3, ov_i 0)]) (st2 := []) (pc2 := 2) b_68_0_2 rfl rfl ?_
  have L4 : ∀ (n1 : Nat) (x3 : Int) (q3 : 0 ≤ x3 ∧ x3 ≤ 4), 4 - x3 < (n1 : Int) → ov_R u d ov_m68 2 [(0, ov_r 70), (1, ov_l n), (3, ov_i x3)] [] z h (P_Town_hasRule_70 F z h n) := by
    intro n1
    induction n1 with
    | zero =>
      intro x3 q3 hn5
      exact absurd hn5 (by omega)
    | succ n1 ih2 =>
      intro x3 q3 hn5
      refine ov_blk (ls2 := [(0, ov_r 70), (1, ov_l n), (3, ov_i x3)]) (st2 := [ov_r 70, ov_i x3]) (pc2 := 4) b_68_2_2 rfl rfl ?_
      refine ov_getf (v := ov_i (h 70 11)) d_68_4 fl_Town_69 (zb_70 I) (zs_70 I) rfl ?_
      have g6 := rg_70_11 I
      refine ov_icge (tgt := 29) d_68_7 (by decide) (by omega) (by omega) (fun c7 => ?_) (fun c7 => ?_)
      · skip
        refine ov_blk (ls2 := [(0, ov_r 70), (1, ov_l n), (3, ov_i x3)]) (st2 := [ov_i 0]) (pc2 := 30) b_68_29_1 rfl rfl ?_
        exact ov_retz (st := []) d_68_30 rfl (by omega) ⟨_, rfl, rfl, rfl, (by show (0 = 0 ∨ 0 = 1); omega)⟩
      · skip
        refine ov_blk (ls2 := [(0, ov_r 70), (1, ov_l n), (3, ov_i x3)]) (st2 := [ov_r 70]) (pc2 := 11) b_68_10_1 rfl rfl ?_
        refine ov_getf (v := ov_r 78) d_68_11 fl_Town_33 (zb_70 I) (zs_70 I) (congrArg ov_r (rg_70_13 I)) ?_
        refine ov_blk (ls2 := [(0, ov_r 70), (1, ov_l n), (3, ov_i x3)]) (st2 := [ov_i x3, ov_r 78]) (pc2 := 15) b_68_14_1 rfl rfl ?_
        refine ov_lald d_68_15 (zb_78 I) (zs_78 I) (by omega) ?_
        refine ov_blk (ls2 := [(0, ov_r 70), (1, ov_l n), (3, ov_i x3)]) (st2 := [ov_i (ov_lcmp (h 78 x3) n)]) (pc2 := 18) b_68_16_2 rfl rfl ?_
        have g8 := ov_lcg (h 78 x3) n
        refine ov_ifne (tgt := 23) d_68_18 (by decide) (by omega) (fun c9 => ?_) (fun c9 => ?_)
        · skip
          refine ov_blk (ls2 := [(0, ov_r 70), (1, ov_l n), (3, ov_i (x3 + 1))]) (st2 := []) (pc2 := 26) b_68_23_1 rfl rfl ?_
          refine ov_goto (tgt := 2) d_68_26 (by decide) ?_
          exact ih2 (x3 + 1) (by show 0 ≤ (x3 + 1) ∧ (x3 + 1) ≤ 4; omega) (by omega)
        · skip
          refine ov_blk (ls2 := [(0, ov_r 70), (1, ov_l n), (3, ov_i x3)]) (st2 := [ov_i 1]) (pc2 := 22) b_68_21_1 rfl rfl ?_
          exact ov_retz (st := []) d_68_22 rfl (by omega) ⟨_, rfl, rfl, rfl, (by show (1 = 0 ∨ 1 = 1); omega)⟩
  exact L4 5 0 (by show 0 ≤ 0 ∧ 0 ≤ 4; omega) (by omega)
abbrev P_Town_addCode_70 (F : ov_H) (z : ov_Z) (h : ov_H) (one : Int) : Option ov_V → ov_Z → ov_H → Prop := fun r0 z' h' => r0 = none ∧ ov_I F z' h' ∧ ((h' 3 2) = (h 3 2) ∧ (h' 36 7) = (h 36 7) ∧ (h' 1 1) = (h 1 1) ∧ (h' 90 2) = (h 90 2) ∧ (h' 0 10) = (h 0 10) ∧ (h' 0 11) = (h 0 11) ∧ (h' 0 12) = (h 0 12) ∧ (h' 0 13) = (h 0 13) ∧ (h' 3 1) = (h 3 1) ∧ (h' 36 8) = (h 36 8) ∧ (h' 46 3) = (h 46 3) ∧ (h' 46 4) = (h 46 4) ∧ (h' 49 4) = (h 49 4) ∧ (h' 49 5) = (h 49 5) ∧ (h' 64 0) = (h 64 0) ∧ (h' 76 0) = (h 76 0))
set_option maxHeartbeats 4000000 in
theorem c_Town_addCode_70 {u : ov_U} {F : ov_H} {z : ov_Z} {h : ov_H} (d : Nat) (hd : 0 ≤ d) (U : ov_cap u) (I : ov_I F z h) (hw : ov_kw 1210106411235346586009600 F) (one : Int) (g_one : ov_g one) : ov_T u d ov_m75 [ov_r 70, ov_i one] z h (P_Town_addCode_70 F z h one) := by
  refine ov_en rfl (Nat.le_of_ble_eq_true rfl) ?_
  show ov_R u d ov_m75 0 [(0, ov_r 70), (1, ov_i one)] [] z h (P_Town_addCode_70 F z h one)
  refine ov_blk (ls2 := [(0, ov_r 70), (1, ov_i one)]) (st2 := [ov_r 70]) (pc2 := 1) b_75_0_1 rfl rfl ?_
  refine ov_getf (v := ov_i (h 70 16)) d_75_1 fl_Town_72 (zb_70 I) (zs_70 I) rfl ?_
  have g1 := rg_70_16 I
  refine ov_blk (ls2 := [(0, ov_r 70), (1, ov_i one)]) (st2 := [ov_i 1000, ov_i (h 70 16)]) (pc2 := 7) b_75_4_1 rfl rfl ?_
  refine ov_icge (tgt := 30) d_75_7 (by decide) (by omega) (by omega) (fun c2 => ?_) (fun c2 => ?_)
  · skip
    exact ov_retv (st := []) d_75_30 rfl ⟨rfl, I, (by show (h 3 2) = (h 3 2) ∧ (h 36 7) = (h 36 7) ∧ (h 1 1) = (h 1 1) ∧ (h 90 2) = (h 90 2) ∧ (h 0 10) = (h 0 10) ∧ (h 0 11) = (h 0 11) ∧ (h 0 12) = (h 0 12) ∧ (h 0 13) = (h 0 13) ∧ (h 3 1) = (h 3 1) ∧ (h 36 8) = (h 36 8) ∧ (h 46 3) = (h 46 3) ∧ (h 46 4) = (h 46 4) ∧ (h 49 4) = (h 49 4) ∧ (h 49 5) = (h 49 5) ∧ (h 64 0) = (h 64 0) ∧ (h 76 0) = (h 76 0); omega)⟩
  · skip
    refine ov_blk (ls2 := [(0, ov_r 70), (1, ov_i one)]) (st2 := [ov_r 70]) (pc2 := 11) b_75_10_1 rfl rfl ?_
    refine ov_getf (v := ov_r 80) d_75_11 fl_Town_40 (zb_70 I) (zs_70 I) (congrArg ov_r (rg_70_15 I)) ?_
    refine ov_blk (ls2 := [(0, ov_r 70), (1, ov_i one)]) (st2 := [ov_r 70, ov_r 80]) (pc2 := 15) b_75_14_1 rfl rfl ?_
    refine ov_getf (v := ov_i (h 70 16)) d_75_15 fl_Town_72 (zb_70 I) (zs_70 I) rfl ?_
    refine ov_blk (ls2 := [(0, ov_r 70), (1, ov_i one)]) (st2 := [ov_i one, ov_i (h 70 16), ov_r 80]) (pc2 := 19) b_75_18_1 rfl rfl ?_
    refine ov_iast d_75_19 (zb_80 I) (zs_80 I) (by omega) ?_
    have I4 := ua_80 (k := (h 70 16)) (x := one) I (by omega) (hw 80 (by decide +kernel))
    refine ov_blk (ls2 := [(0, ov_r 70), (1, ov_i one)]) (st2 := [ov_r 70, ov_r 70]) (pc2 := 22) b_75_20_2 rfl rfl ?_
    refine ov_getf (v := ov_i (h 70 16)) d_75_22 fl_Town_72 (zb_70 I4) (zs_70 I4) rfl ?_
    refine ov_blk (ls2 := [(0, ov_r 70), (1, ov_i one)]) (st2 := [ov_i ((h 70 16) + 1), ov_r 70]) (pc2 := 27) b_75_25_2 rfl rfl ?_
    refine ov_putf (x := ((h 70 16) + 1)) d_75_27 fl_Town_72 (zb_70 I4) (zs_70 I4) rfl nk_0 rfl ?_
    have I6 := up_70_16 (x := ((h 70 16) + 1)) I4 (by omega) (hw 70 (by decide +kernel))
    exact ov_retv (st := []) d_75_30 rfl ⟨rfl, I6, (by show (h 3 2) = (h 3 2) ∧ (h 36 7) = (h 36 7) ∧ (h 1 1) = (h 1 1) ∧ (h 90 2) = (h 90 2) ∧ (h 0 10) = (h 0 10) ∧ (h 0 11) = (h 0 11) ∧ (h 0 12) = (h 0 12) ∧ (h 0 13) = (h 0 13) ∧ (h 3 1) = (h 3 1) ∧ (h 36 8) = (h 36 8) ∧ (h 46 3) = (h 46 3) ∧ (h 46 4) = (h 46 4) ∧ (h 49 4) = (h 49 4) ∧ (h 49 5) = (h 49 5) ∧ (h 64 0) = (h 64 0) ∧ (h 76 0) = (h 76 0); omega)⟩
abbrev P_Town_addRule_70 (F : ov_H) (z : ov_Z) (h : ov_H) (n : Int) : Option ov_V → ov_Z → ov_H → Prop := fun r0 z' h' => r0 = none ∧ ov_I F z' h' ∧ ((h' 36 7) = (h 36 7) ∧ (h' 1 1) = (h 1 1) ∧ (h' 90 2) = (h 90 2) ∧ (h' 0 10) = (h 0 10) ∧ (h' 0 11) = (h 0 11) ∧ (h' 0 12) = (h 0 12) ∧ (h' 0 13) = (h 0 13) ∧ (h' 3 1) = (h 3 1) ∧ (h' 36 8) = (h 36 8) ∧ (h' 46 3) = (h 46 3) ∧ (h' 46 4) = (h 46 4) ∧ (h' 49 4) = (h 49 4) ∧ (h' 49 5) = (h 49 5) ∧ (h' 64 0) = (h 64 0) ∧ (h' 76 0) = (h 76 0))
set_option maxHeartbeats 4000000 in
theorem c_Town_addRule_70 {u : ov_U} {F : ov_H} {z : ov_Z} {h : ov_H} (d : Nat) (hd : 0 ≤ d) (U : ov_cap u) (I : ov_I F z h) (hw : ov_kw 907874956331689292333056 F) (n : Int) : ov_T u d ov_m76 [ov_r 70, ov_l n] z h (P_Town_addRule_70 F z h n) := by
  refine ov_en rfl (Nat.le_of_ble_eq_true rfl) ?_
  show ov_R u d ov_m76 0 [(0, ov_r 70), (1, ov_l n)] [] z h (P_Town_addRule_70 F z h n)
  refine ov_blk (ls2 := [(0, ov_r 70), (1, ov_l n)]) (st2 := [ov_r 70]) (pc2 := 1) b_76_0_1 rfl rfl ?_
  refine ov_getf (v := ov_i (h 70 11)) d_76_1 fl_Town_69 (zb_70 I) (zs_70 I) rfl ?_
  have g1 := rg_70_11 I
  refine ov_blk (ls2 := [(0, ov_r 70), (1, ov_l n)]) (st2 := [ov_i 4, ov_i (h 70 11)]) (pc2 := 5) b_76_4_1 rfl rfl ?_
  refine ov_icge (tgt := 41) d_76_5 (by decide) (by omega) (by omega) (fun c2 => ?_) (fun c2 => ?_)
  · skip
    exact ov_retv (st := []) d_76_41 rfl ⟨rfl, I, (by show (h 36 7) = (h 36 7) ∧ (h 1 1) = (h 1 1) ∧ (h 90 2) = (h 90 2) ∧ (h 0 10) = (h 0 10) ∧ (h 0 11) = (h 0 11) ∧ (h 0 12) = (h 0 12) ∧ (h 0 13) = (h 0 13) ∧ (h 3 1) = (h 3 1) ∧ (h 36 8) = (h 36 8) ∧ (h 46 3) = (h 46 3) ∧ (h 46 4) = (h 46 4) ∧ (h 49 4) = (h 49 4) ∧ (h 49 5) = (h 49 5) ∧ (h 64 0) = (h 64 0) ∧ (h 76 0) = (h 76 0); omega)⟩
  · skip
    refine ov_blk (ls2 := [(0, ov_r 70), (1, ov_l n)]) (st2 := [ov_r 70]) (pc2 := 9) b_76_8_1 rfl rfl ?_
    refine ov_getf (v := ov_r 78) d_76_9 fl_Town_33 (zb_70 I) (zs_70 I) (congrArg ov_r (rg_70_13 I)) ?_
    refine ov_blk (ls2 := [(0, ov_r 70), (1, ov_l n)]) (st2 := [ov_r 70, ov_r 78]) (pc2 := 13) b_76_12_1 rfl rfl ?_
    refine ov_getf (v := ov_i (h 70 11)) d_76_13 fl_Town_69 (zb_70 I) (zs_70 I) rfl ?_
    refine ov_blk (ls2 := [(0, ov_r 70), (1, ov_l n)]) (st2 := [ov_l n, ov_i (h 70 11), ov_r 78]) (pc2 := 17) b_76_16_1 rfl rfl ?_
    refine ov_last d_76_17 (zb_78 I) (zs_78 I) (by omega) ?_
    have I4 := ua_78 (k := (h 70 11)) (x := n) I (hw 78 (by decide +kernel))
    refine ov_blk (ls2 := [(0, ov_r 70), (1, ov_l n)]) (st2 := [ov_r 70]) (pc2 := 19) b_76_18_1 rfl rfl ?_
    refine ov_getf (v := ov_r 79) d_76_19 fl_Town_37 (zb_70 I4) (zs_70 I4) (congrArg ov_r (rg_70_14 I4)) ?_
    refine ov_blk (ls2 := [(0, ov_r 70), (1, ov_l n)]) (st2 := [ov_r 70, ov_r 79]) (pc2 := 23) b_76_22_1 rfl rfl ?_
    refine ov_getf (v := ov_i (h 70 11)) d_76_23 fl_Town_69 (zb_70 I4) (zs_70 I4) rfl ?_
    refine ov_blk (ls2 := [(0, ov_r 70), (1, ov_l n)]) (st2 := [ov_r 70, ov_i (h 70 11), ov_r 79]) (pc2 := 27) b_76_26_1 rfl rfl ?_
    refine ov_getf (v := ov_i (h 70 16)) d_76_27 fl_Town_72 (zb_70 I4) (zs_70 I4) rfl ?_
    have g6 := rg_70_16 I
    refine ov_iast d_76_30 (zb_79 I4) (zs_79 I4) (by omega) ?_
    have I7 := ua_79 (k := (h 70 11)) (x := (h 70 16)) I4 (by omega) (hw 79 (by decide +kernel))
    refine ov_blk (ls2 := [(0, ov_r 70), (1, ov_l n)]) (st2 := [ov_r 70, ov_r 70]) (pc2 := 33) b_76_31_2 rfl rfl ?_
    refine ov_getf (v := ov_i (h 70 11)) d_76_33 fl_Town_69 (zb_70 I7) (zs_70 I7) rfl ?_
    refine ov_blk (ls2 := [(0, ov_r 70), (1, ov_l n)]) (st2 := [ov_i ((h 70 11) + 1), ov_r 70]) (pc2 := 38) b_76_36_2 rfl rfl ?_
    refine ov_putf (x := ((h 70 11) + 1)) d_76_38 fl_Town_69 (zb_70 I7) (zs_70 I7) rfl nk_0 rfl ?_
    have I9 := up_70_11 (x := ((h 70 11) + 1)) I7 (by omega) (hw 70 (by decide +kernel))
    exact ov_retv (st := []) d_76_41 rfl ⟨rfl, I9, (by show (h 36 7) = (h 36 7) ∧ (h 1 1) = (h 1 1) ∧ (h 90 2) = (h 90 2) ∧ (h 0 10) = (h 0 10) ∧ (h 0 11) = (h 0 11) ∧ (h 0 12) = (h 0 12) ∧ (h 0 13) = (h 0 13) ∧ (h 3 1) = (h 3 1) ∧ (h 36 8) = (h 36 8) ∧ (h 46 3) = (h 46 3) ∧ (h 46 4) = (h 46 4) ∧ (h 49 4) = (h 49 4) ∧ (h 49 5) = (h 49 5) ∧ (h 64 0) = (h 64 0) ∧ (h 76 0) = (h 76 0); omega)⟩
abbrev P_Town_placeOrNumber_70 (F : ov_H) (z : ov_Z) (h : ov_H) (one : Int) (c : Int) : Option ov_V → ov_Z → ov_H → Prop := fun r0 z' h' => ∃ r : Int, r0 = some (ov_i r) ∧ z = z' ∧ h = h' ∧ (-2147483648 ≤ r ∧ r ≤ 2147483647)
set_option maxHeartbeats 4000000 in
theorem c_Town_placeOrNumber_70 {u : ov_U} {F : ov_H} {z : ov_Z} {h : ov_H} (d : Nat) (hd : 0 ≤ d) (U : ov_cap u) (I : ov_I F z h) (one : Int) (c : Int) (g_one : ov_g one) (g_c : ov_g c) (p0 : 0 ≤ c ∧ c ≤ 53) (p1 : 8 ≤ one) : ov_T u d ov_m139 [ov_r 70, ov_i one, ov_i c] z h (P_Town_placeOrNumber_70 F z h one c) := by
  refine ov_en rfl (Nat.le_of_ble_eq_true rfl) ?_
  show ov_R u d ov_m139 0 [(0, ov_r 70), (1, ov_i one), (2, ov_i c)] [] z h (P_Town_placeOrNumber_70 F z h one c)
  refine ov_blk (ls2 := [(0, ov_r 70), (1, ov_i one), (2, ov_i c)]) (st2 := [ov_i 10, ov_i one]) (pc2 := 3) b_139_0_2 rfl rfl ?_
  refine ov_icne (tgt := 18) d_139_3 (by decide) (by omega) (by omega) (fun c1 => ?_) (fun c1 => ?_)
  · skip
    refine ov_blk (ls2 := [(0, ov_r 70), (1, ov_i one), (2, ov_i c)]) (st2 := [ov_i 11, ov_i one]) (pc2 := 21) b_139_18_2 rfl rfl ?_
    refine ov_icne (tgt := 38) d_139_21 (by decide) (by omega) (by omega) (fun c2 => ?_) (fun c2 => ?_)
    · skip
      refine ov_blk (ls2 := [(0, ov_r 70), (1, ov_i one), (2, ov_i c)]) (st2 := [ov_i (one - 16)]) (pc2 := 42) b_139_38_3 rfl rfl ?_
      exact ov_reti (st := []) d_139_42 rfl ⟨_, rfl, rfl, rfl, (by show -2147483648 ≤ (one - 16) ∧ (one - 16) ≤ 2147483647; omega)⟩
    · skip
      refine ov_blk (ls2 := [(0, ov_r 70), (1, ov_i one), (2, ov_i c)]) (st2 := [ov_r 70]) (pc2 := 25) b_139_24_1 rfl rfl ?_
      refine ov_getf (v := ov_i (h 70 1)) d_139_25 fl_Town_50 (zb_70 I) (zs_70 I) rfl ?_
      have g3 := rg_70_1 I
      refine ov_blk (ls2 := [(0, ov_r 70), (1, ov_i one), (2, ov_i c)]) (st2 := [ov_i 6, ov_i c, ov_i ((h 70 1) - 1)]) (pc2 := 33) b_139_28_4 rfl rfl ?_
      refine ov_idiv d_139_33 (by omega) (by omega) (by omega) ?_
      have g4 := ov_td (a := c) (b := 6) (by omega)
      refine ov_blk (ls2 := [(0, ov_r 70), (1, ov_i one), (2, ov_i c)]) (st2 := [ov_i (((h 70 1) - 1) - (Int.tdiv c 6))]) (pc2 := 35) b_139_34_1 rfl rfl ?_
      refine ov_goto (tgt := 42) d_139_35 (by decide) ?_
      exact ov_reti (st := []) d_139_42 rfl ⟨_, rfl, rfl, rfl, (by show -2147483648 ≤ (((h 70 1) - 1) - (Int.tdiv c 6)) ∧ (((h 70 1) - 1) - (Int.tdiv c 6)) ≤ 2147483647; omega)⟩
  · skip
    refine ov_blk (ls2 := [(0, ov_r 70), (1, ov_i one), (2, ov_i c)]) (st2 := [ov_r 70]) (pc2 := 7) b_139_6_1 rfl rfl ?_
    refine ov_getf (v := ov_i (h 70 0)) d_139_7 fl_Town_46 (zb_70 I) (zs_70 I) rfl ?_
    have g5 := rg_70_0 I
    refine ov_blk (ls2 := [(0, ov_r 70), (1, ov_i one), (2, ov_i c)]) (st2 := [ov_i 6, ov_i c, ov_i ((h 70 0) - 1)]) (pc2 := 15) b_139_10_4 rfl rfl ?_
    refine ov_irem d_139_15 (by omega) (by omega) (by omega) ?_
    have g6 := ov_tm (a := c) (b := 6) (by omega)
    have g7 := ov_tmg (a := c) (b := 6) (by omega) (by omega)
    refine ov_blk (ls2 := [(0, ov_r 70), (1, ov_i one), (2, ov_i c)]) (st2 := [ov_i (((h 70 0) - 1) - (Int.tmod c 6))]) (pc2 := 17) b_139_16_1 rfl rfl ?_
    exact ov_reti (st := []) d_139_17 rfl ⟨_, rfl, rfl, rfl, (by show -2147483648 ≤ (((h 70 0) - 1) - (Int.tmod c 6)) ∧ (((h 70 0) - 1) - (Int.tmod c 6)) ≤ 2147483647; omega)⟩
abbrev P_Town_ruleSaysOver_70 (F : ov_H) (z : ov_Z) (h : ov_H) (rule : Int) (c : Int) (ow : Int) (nw : Int) : Option ov_V → ov_Z → ov_H → Prop := fun r0 z' h' => ∃ r : Int, r0 = some (ov_i r) ∧ ov_I F z' h' ∧ ((r = 0 ∨ r = 1) ∧ (h' 36 7) = (h 36 7) ∧ (h' 1 1) = (h 1 1) ∧ (h' 90 2) = (h 90 2) ∧ (h' 0 10) = (h 0 10) ∧ (h' 0 11) = (h 0 11) ∧ (h' 0 12) = (h 0 12) ∧ (h' 0 13) = (h 0 13) ∧ (h' 3 1) = (h 3 1) ∧ (h' 36 8) = (h 36 8) ∧ (h' 46 3) = (h 46 3) ∧ (h' 46 4) = (h 46 4) ∧ (h' 49 4) = (h 49 4) ∧ (h' 49 5) = (h 49 5) ∧ (h' 64 0) = (h 64 0) ∧ (h' 76 0) = (h 76 0))
set_option maxHeartbeats 4000000 in
theorem c_Town_ruleSaysOver_70 {u : ov_U} {F : ov_H} {z : ov_Z} {h : ov_H} (d : Nat) (hd : 1 ≤ d) (U : ov_cap u) (I : ov_I F z h) (hw : ov_kw 2417851639229258349412352 F) (rule : Int) (c : Int) (ow : Int) (nw : Int) (g_rule : ov_g rule) (g_c : ov_g c) (g_ow : ov_g ow) (g_nw : ov_g nw) (p0 : 0 ≤ c ∧ c ≤ 53) : ov_T u d ov_m138 [ov_r 70, ov_i rule, ov_i c, ov_i ow, ov_i nw] z h (P_Town_ruleSaysOver_70 F z h rule c ow nw) := by
  refine ov_en rfl (Nat.le_of_ble_eq_true rfl) ?_
  show ov_R u d ov_m138 0 [(0, ov_r 70), (1, ov_i rule), (2, ov_i c), (3, ov_i ow), (4, ov_i nw)] [] z h (P_Town_ruleSaysOver_70 F z h rule c ow nw)
  refine ov_blk (ls2 := [(0, ov_r 70), (1, ov_i rule), (2, ov_i c), (3, ov_i ow), (4, ov_i nw)]) (st2 := [ov_i rule]) (pc2 := 1) b_138_0_1 rfl rfl ?_
  refine ov_iflt (tgt := 12) d_138_1 (by decide) (by omega) (fun c1 => ?_) (fun c1 => ?_)
  · skip
    refine ov_blk (ls2 := [(0, ov_r 70), (1, ov_i rule), (2, ov_i c), (3, ov_i ow), (4, ov_i nw)]) (st2 := [ov_i 0]) (pc2 := 13) b_138_12_1 rfl rfl ?_
    exact ov_retz (st := []) d_138_13 rfl (by omega) ⟨_, rfl, I, (by show (0 = 0 ∨ 0 = 1) ∧ (h 36 7) = (h 36 7) ∧ (h 1 1) = (h 1 1) ∧ (h 90 2) = (h 90 2) ∧ (h 0 10) = (h 0 10) ∧ (h 0 11) = (h 0 11) ∧ (h 0 12) = (h 0 12) ∧ (h 0 13) = (h 0 13) ∧ (h 3 1) = (h 3 1) ∧ (h 36 8) = (h 36 8) ∧ (h 46 3) = (h 46 3) ∧ (h 46 4) = (h 46 4) ∧ (h 49 4) = (h 49 4) ∧ (h 49 5) = (h 49 5) ∧ (h 64 0) = (h 64 0) ∧ (h 76 0) = (h 76 0); omega)⟩
  · skip
    refine ov_blk (ls2 := [(0, ov_r 70), (1, ov_i rule), (2, ov_i c), (3, ov_i ow), (4, ov_i nw)]) (st2 := [ov_r 70, ov_i rule]) (pc2 := 6) b_138_4_2 rfl rfl ?_
    refine ov_getf (v := ov_i (h 70 11)) d_138_6 fl_Town_69 (zb_70 I) (zs_70 I) rfl ?_
    have g2 := rg_70_11 I
    refine ov_iclt (tgt := 14) d_138_9 (by decide) (by omega) (by omega) (fun c3 => ?_) (fun c3 => ?_)
    · skip
      refine ov_blk (ls2 := [(0, ov_r 70), (1, ov_i rule), (2, ov_i c), (3, ov_i ow), (4, ov_i nw), (5, ov_i 0)]) (st2 := [ov_i rule]) (pc2 := 18) b_138_14_3 rfl rfl ?_
      refine ov_ifne (tgt := 25) d_138_18 (by decide) (by omega) (fun c4 => ?_) (fun c4 => ?_)
      · skip
        refine ov_blk (ls2 := [(0, ov_r 70), (1, ov_i rule), (2, ov_i c), (3, ov_i ow), (4, ov_i nw), (5, ov_i 0)]) (st2 := [ov_r 70]) (pc2 := 26) b_138_25_1 rfl rfl ?_
        refine ov_getf (v := ov_r 79) d_138_26 fl_Town_37 (zb_70 I) (zs_70 I) (congrArg ov_r (rg_70_14 I)) ?_
        refine ov_blk (ls2 := [(0, ov_r 70), (1, ov_i rule), (2, ov_i c), (3, ov_i ow), (4, ov_i nw), (5, ov_i 0)]) (st2 := [ov_i (rule - 1), ov_r 79]) (pc2 := 32) b_138_29_3 rfl rfl ?_
        refine ov_iald d_138_32 (zb_79 I) (zs_79 I) (by omega) ?_
        have g5 := ra_79 I (rule - 1)
        refine ov_blk (ls2 := [(0, ov_r 70), (1, ov_i rule), (2, ov_i c), (3, ov_i ow), (4, ov_i nw), (5, ov_i 0), (6, ov_i (h 79 (rule - 1)))]) (st2 := []) (pc2 := 35) b_138_33_1 rfl rfl ?_
        have L9 : ∀ (n6 : Nat) (x5 : Int) (x6 : Int) (z10 : ov_Z) (h11 : ov_H) (I12 : ov_I F z10 h11) (q8 : 0 ≤ x5 ∧ x5 ≤ 64 ∧ 0 ≤ x6 ∧ x6 ≤ 1000 ∧ 0 ≤ rule ∧ rule ≤ 3 ∧ (h11 36 7) = (h 36 7) ∧ (h11 1 1) = (h 1 1) ∧ (h11 90 2) = (h 90 2) ∧ (h11 0 10) = (h 0 10) ∧ (h11 0 11) = (h 0 11) ∧ (h11 0 12) = (h 0 12) ∧ (h11 0 13) = (h 0 13) ∧ (h11 3 1) = (h 3 1) ∧ (h11 36 8) = (h 36 8) ∧ (h11 46 3) = (h 46 3) ∧ (h11 46 4) = (h 46 4) ∧ (h11 49 4) = (h 49 4) ∧ (h11 49 5) = (h 49 5) ∧ (h11 64 0) = (h 64 0) ∧ (h11 76 0) = (h 76 0)), 1000 - x6 < (n6 : Int) → ov_R u d ov_m138 35 [(0, ov_r 70), (1, ov_i rule), (2, ov_i c), (3, ov_i ow), (4, ov_i nw), (5, ov_i x5), (6, ov_i x6)] [] z10 h11 (P_Town_ruleSaysOver_70 F z h rule c ow nw) := by
          intro n6
          induction n6 with
          | zero =>
            intro x5 x6 z10 h11 I12 q8 hn13
            exact absurd hn13 (by omega)
          | succ n6 ih7 =>
            intro x5 x6 z10 h11 I12 q8 hn13
            refine ov_blk (ls2 := [(0, ov_r 70), (1, ov_i rule), (2, ov_i c), (3, ov_i ow), (4, ov_i nw), (5, ov_i x5), (6, ov_i x6)]) (st2 := [ov_r 70, ov_i x6]) (pc2 := 38) b_138_35_2 rfl rfl ?_
            refine ov_getf (v := ov_r 79) d_138_38 fl_Town_37 (zb_70 I12) (zs_70 I12) (congrArg ov_r (rg_70_14 I12)) ?_
            refine ov_blk (ls2 := [(0, ov_r 70), (1, ov_i rule), (2, ov_i c), (3, ov_i ow), (4, ov_i nw), (5, ov_i x5), (6, ov_i x6)]) (st2 := [ov_i rule, ov_r 79, ov_i x6]) (pc2 := 42) b_138_41_1 rfl rfl ?_
            refine ov_iald d_138_42 (zb_79 I12) (zs_79 I12) (by omega) ?_
            have g14 := ra_79 I12 rule
            refine ov_icge (tgt := 197) d_138_43 (by decide) (by omega) (by omega) (fun c15 => ?_) (fun c15 => ?_)
            · skip
              refine ov_blk (ls2 := [(0, ov_r 70), (1, ov_i rule), (2, ov_i c), (3, ov_i ow), (4, ov_i nw), (5, ov_i x5), (6, ov_i x6)]) (st2 := [ov_r 70]) (pc2 := 198) b_138_197_1 rfl rfl ?_
              refine ov_getf (v := ov_r 81) d_138_198 fl_Town_43 (zb_70 I12) (zs_70 I12) (congrArg ov_r (rg_70_17 I12)) ?_
              refine ov_blk (ls2 := [(0, ov_r 70), (1, ov_i rule), (2, ov_i c), (3, ov_i ow), (4, ov_i nw), (5, ov_i x5), (6, ov_i x6)]) (st2 := [ov_i 0, ov_r 81]) (pc2 := 202) b_138_201_1 rfl rfl ?_
              refine ov_iald d_138_202 (zb_81 I12) (zs_81 I12) (by omega) ?_
              have g16 := ra_81 I12 0
              refine ov_ifeq (tgt := 210) d_138_203 (by decide) (by omega) (fun c17 => ?_) (fun c17 => ?_)
              · skip
                refine ov_blk (ls2 := [(0, ov_r 70), (1, ov_i rule), (2, ov_i c), (3, ov_i ow), (4, ov_i nw), (5, ov_i x5), (6, ov_i x6)]) (st2 := [ov_i 0]) (pc2 := 211) b_138_210_1 rfl rfl ?_
                exact ov_retz (st := []) d_138_211 rfl (by omega) ⟨_, rfl, I12, (by show (0 = 0 ∨ 0 = 1) ∧ (h11 36 7) = (h 36 7) ∧ (h11 1 1) = (h 1 1) ∧ (h11 90 2) = (h 90 2) ∧ (h11 0 10) = (h 0 10) ∧ (h11 0 11) = (h 0 11) ∧ (h11 0 12) = (h 0 12) ∧ (h11 0 13) = (h 0 13) ∧ (h11 3 1) = (h 3 1) ∧ (h11 36 8) = (h 36 8) ∧ (h11 46 3) = (h 46 3) ∧ (h11 46 4) = (h 46 4) ∧ (h11 49 4) = (h 49 4) ∧ (h11 49 5) = (h 49 5) ∧ (h11 64 0) = (h 64 0) ∧ (h11 76 0) = (h 76 0); omega)⟩
              · skip
                refine ov_blk (ls2 := [(0, ov_r 70), (1, ov_i rule), (2, ov_i c), (3, ov_i ow), (4, ov_i nw), (5, ov_i x5), (6, ov_i x6)]) (st2 := [ov_i 1]) (pc2 := 207) b_138_206_1 rfl rfl ?_
                refine ov_goto (tgt := 211) d_138_207 (by decide) ?_
                exact ov_retz (st := []) d_138_211 rfl (by omega) ⟨_, rfl, I12, (by show (1 = 0 ∨ 1 = 1) ∧ (h11 36 7) = (h 36 7) ∧ (h11 1 1) = (h 1 1) ∧ (h11 90 2) = (h 90 2) ∧ (h11 0 10) = (h 0 10) ∧ (h11 0 11) = (h 0 11) ∧ (h11 0 12) = (h 0 12) ∧ (h11 0 13) = (h 0 13) ∧ (h11 3 1) = (h 3 1) ∧ (h11 36 8) = (h 36 8) ∧ (h11 46 3) = (h 46 3) ∧ (h11 46 4) = (h 46 4) ∧ (h11 49 4) = (h 49 4) ∧ (h11 49 5) = (h 49 5) ∧ (h11 64 0) = (h 64 0) ∧ (h11 76 0) = (h 76 0); omega)⟩
            · skip
              refine ov_blk (ls2 := [(0, ov_r 70), (1, ov_i rule), (2, ov_i c), (3, ov_i ow), (4, ov_i nw), (5, ov_i x5), (6, ov_i x6)]) (st2 := [ov_r 70]) (pc2 := 47) b_138_46_1 rfl rfl ?_
              refine ov_getf (v := ov_r 80) d_138_47 fl_Town_40 (zb_70 I12) (zs_70 I12) (congrArg ov_r (rg_70_15 I12)) ?_
              refine ov_blk (ls2 := [(0, ov_r 70), (1, ov_i rule), (2, ov_i c), (3, ov_i ow), (4, ov_i nw), (5, ov_i x5), (6, ov_i x6)]) (st2 := [ov_i x6, ov_r 80]) (pc2 := 52) b_138_50_1 rfl rfl ?_
              refine ov_iald d_138_52 (zb_80 I12) (zs_80 I12) (by omega) ?_
              have g18 := ra_80 I12 x6
              refine ov_blk (ls2 := [(0, ov_r 70), (1, ov_i rule), (2, ov_i c), (3, ov_i ow), (4, ov_i nw), (5, ov_i x5), (6, ov_i x6), (7, ov_i (h11 80 x6))]) (st2 := [ov_i (h11 80 x6)]) (pc2 := 57) b_138_53_2 rfl rfl ?_
              refine ov_ifne (tgt := 95) d_138_57 (by decide) (by omega) (fun c19 => ?_) (fun c19 => ?_)
              · skip
                refine ov_blk (ls2 := [(0, ov_r 70), (1, ov_i rule), (2, ov_i c), (3, ov_i ow), (4, ov_i nw), (5, ov_i x5), (6, ov_i x6), (7, ov_i (h11 80 x6))]) (st2 := [ov_i 8, ov_i (h11 80 x6)]) (pc2 := 99) b_138_95_2 rfl rfl ?_
                refine ov_iclt (tgt := 152) d_138_99 (by decide) (by omega) (by omega) (fun c20 => ?_) (fun c20 => ?_)
                · skip
                  refine ov_blk (ls2 := [(0, ov_r 70), (1, ov_i rule), (2, ov_i c), (3, ov_i ow), (4, ov_i nw), (5, ov_i x5), (6, ov_i x6), (7, ov_i (h11 80 x6))]) (st2 := [ov_i 2, ov_i x5]) (pc2 := 155) b_138_152_2 rfl rfl ?_
                  refine ov_iclt (tgt := 191) d_138_155 (by decide) (by omega) (by omega) (fun c21 => ?_) (fun c21 => ?_)
                  · skip
                    refine ov_blk (ls2 := [(0, ov_r 70), (1, ov_i rule), (2, ov_i c), (3, ov_i ow), (4, ov_i nw), (5, ov_i x5), (6, ov_i (x6 + 1)), (7, ov_i (h11 80 x6))]) (st2 := []) (pc2 := 194) b_138_191_1 rfl rfl ?_
                    refine ov_goto (tgt := 35) d_138_194 (by decide) ?_
                    refine ov_sub (ls2 := [(0, ov_r 70), (1, ov_i rule), (2, ov_i c), (3, ov_i ow), (4, ov_i nw), (5, ov_i x5), (6, ov_i (x6 + 1))]) (List.Sublist.subset (by repeat (first | exact List.Sublist.refl _ | apply List.Sublist.cons_cons | apply List.Sublist.cons))) ?_
                    exact ih7 x5 (x6 + 1) _ _ I12 (by show 0 ≤ x5 ∧ x5 ≤ 64 ∧ 0 ≤ (x6 + 1) ∧ (x6 + 1) ≤ 1000 ∧ 0 ≤ rule ∧ rule ≤ 3 ∧ (h11 36 7) = (h 36 7) ∧ (h11 1 1) = (h 1 1) ∧ (h11 90 2) = (h 90 2) ∧ (h11 0 10) = (h 0 10) ∧ (h11 0 11) = (h 0 11) ∧ (h11 0 12) = (h 0 12) ∧ (h11 0 13) = (h 0 13) ∧ (h11 3 1) = (h 3 1) ∧ (h11 36 8) = (h 36 8) ∧ (h11 46 3) = (h 46 3) ∧ (h11 46 4) = (h 46 4) ∧ (h11 49 4) = (h 49 4) ∧ (h11 49 5) = (h 49 5) ∧ (h11 64 0) = (h 64 0) ∧ (h11 76 0) = (h 76 0); omega) (by omega)
                  · skip
                    refine ov_blk (ls2 := [(0, ov_r 70), (1, ov_i rule), (2, ov_i c), (3, ov_i ow), (4, ov_i nw), (5, ov_i (x5 + (-1))), (6, ov_i x6), (7, ov_i (h11 80 x6))]) (st2 := [ov_r 70]) (pc2 := 162) b_138_158_2 rfl rfl ?_
                    refine ov_getf (v := ov_r 81) d_138_162 fl_Town_43 (zb_70 I12) (zs_70 I12) (congrArg ov_r (rg_70_17 I12)) ?_
                    refine ov_blk (ls2 := [(0, ov_r 70), (1, ov_i rule), (2, ov_i c), (3, ov_i ow), (4, ov_i nw), (5, ov_i (x5 + (-1))), (6, ov_i x6), (7, ov_i (h11 80 x6))]) (st2 := [ov_r 70, ov_i (h11 80 x6), ov_i ((x5 + (-1)) - 1), ov_r 81]) (pc2 := 172) b_138_165_5 rfl rfl ?_
                    refine ov_getf (v := ov_r 81) d_138_172 fl_Town_43 (zb_70 I12) (zs_70 I12) (congrArg ov_r (rg_70_17 I12)) ?_
                    refine ov_blk (ls2 := [(0, ov_r 70), (1, ov_i rule), (2, ov_i c), (3, ov_i ow), (4, ov_i nw), (5, ov_i (x5 + (-1))), (6, ov_i x6), (7, ov_i (h11 80 x6))]) (st2 := [ov_i ((x5 + (-1)) - 1), ov_r 81, ov_i (h11 80 x6), ov_i ((x5 + (-1)) - 1), ov_r 81]) (pc2 := 179) b_138_175_3 rfl rfl ?_
                    refine ov_iald d_138_179 (zb_81 I12) (zs_81 I12) (by omega) ?_
                    have g22 := ra_81 I12 ((x5 + (-1)) - 1)
                    refine ov_blk (ls2 := [(0, ov_r 70), (1, ov_i rule), (2, ov_i c), (3, ov_i ow), (4, ov_i nw), (5, ov_i (x5 + (-1))), (6, ov_i x6), (7, ov_i (h11 80 x6))]) (st2 := [ov_r 70, ov_i (h11 81 ((x5 + (-1)) - 1)), ov_i (h11 80 x6), ov_i ((x5 + (-1)) - 1), ov_r 81]) (pc2 := 181) b_138_180_1 rfl rfl ?_
                    refine ov_getf (v := ov_r 81) d_138_181 fl_Town_43 (zb_70 I12) (zs_70 I12) (congrArg ov_r (rg_70_17 I12)) ?_
                    refine ov_blk (ls2 := [(0, ov_r 70), (1, ov_i rule), (2, ov_i c), (3, ov_i ow), (4, ov_i nw), (5, ov_i (x5 + (-1))), (6, ov_i x6), (7, ov_i (h11 80 x6))]) (st2 := [ov_i (x5 + (-1)), ov_r 81, ov_i (h11 81 ((x5 + (-1)) - 1)), ov_i (h11 80 x6), ov_i ((x5 + (-1)) - 1), ov_r 81]) (pc2 := 186) b_138_184_1 rfl rfl ?_
                    refine ov_iald d_138_186 (zb_81 I12) (zs_81 I12) (by omega) ?_
                    have g23 := ra_81 I12 (x5 + (-1))
                    refine ov_cS (as := [ov_i (h11 80 x6), ov_i (h11 81 ((x5 + (-1)) - 1)), ov_i (h11 81 (x5 + (-1)))]) (st := [ov_i ((x5 + (-1)) - 1), ov_r 81]) (d2 := d - 1) d_138_187 lk_Town_109 rfl (Nat.le_of_ble_eq_true rfl) (by omega) (c_Town_joined (d - 1) (by omega) U I12 (h11 80 x6) (h11 81 ((x5 + (-1)) - 1)) (h11 81 (x5 + (-1))) (by omega) (by omega) (by omega)) ?_
                    rintro _ _ _ ⟨v25, rfl, rfl, rfl, f24⟩
                    show ov_R u d ov_m138 190 [(0, ov_r 70), (1, ov_i rule), (2, ov_i c), (3, ov_i ow), (4, ov_i nw), (5, ov_i (x5 + (-1))), (6, ov_i x6), (7, ov_i (h11 80 x6))] [ov_i v25, ov_i ((x5 + (-1)) - 1), ov_r 81] z10 h11 (P_Town_ruleSaysOver_70 F z h rule c ow nw)
                    have f26 : -2147483648 ≤ v25 ∧ v25 ≤ 2147483647 := f24
                    clear f24
                    refine ov_iast d_138_190 (zb_81 I12) (zs_81 I12) (by omega) ?_
                    have I27 := ua_81 (k := ((x5 + (-1)) - 1)) (x := v25) I12 (by omega) (hw 81 (by decide +kernel))
                    refine ov_blk (ls2 := [(0, ov_r 70), (1, ov_i rule), (2, ov_i c), (3, ov_i ow), (4, ov_i nw), (5, ov_i (x5 + (-1))), (6, ov_i (x6 + 1)), (7, ov_i (h11 80 x6))]) (st2 := []) (pc2 := 194) b_138_191_1 rfl rfl ?_
                    refine ov_goto (tgt := 35) d_138_194 (by decide) ?_
                    refine ov_sub (ls2 := [(0, ov_r 70), (1, ov_i rule), (2, ov_i c), (3, ov_i ow), (4, ov_i nw), (5, ov_i (x5 + (-1))), (6, ov_i (x6 + 1))]) (List.Sublist.subset (by repeat (first | exact List.Sublist.refl _ | apply List.Sublist.cons_cons | apply List.Sublist.cons))) ?_
                    exact ih7 (x5 + (-1)) (x6 + 1) _ _ I27 (by show 0 ≤ (x5 + (-1)) ∧ (x5 + (-1)) ≤ 64 ∧ 0 ≤ (x6 + 1) ∧ (x6 + 1) ≤ 1000 ∧ 0 ≤ rule ∧ rule ≤ 3 ∧ (h11 36 7) = (h 36 7) ∧ (h11 1 1) = (h 1 1) ∧ (h11 90 2) = (h 90 2) ∧ (h11 0 10) = (h 0 10) ∧ (h11 0 11) = (h 0 11) ∧ (h11 0 12) = (h 0 12) ∧ (h11 0 13) = (h 0 13) ∧ (h11 3 1) = (h 3 1) ∧ (h11 36 8) = (h 36 8) ∧ (h11 46 3) = (h 46 3) ∧ (h11 46 4) = (h 46 4) ∧ (h11 49 4) = (h 49 4) ∧ (h11 49 5) = (h 49 5) ∧ (h11 64 0) = (h 64 0) ∧ (h11 76 0) = (h 76 0); omega) (by omega)
                · skip
                  refine ov_blk (ls2 := [(0, ov_r 70), (1, ov_i rule), (2, ov_i c), (3, ov_i ow), (4, ov_i nw), (5, ov_i x5), (6, ov_i x6), (7, ov_i (h11 80 x6))]) (st2 := [ov_i 64, ov_i x5]) (pc2 := 106) b_138_102_2 rfl rfl ?_
                  refine ov_icge (tgt := 152) d_138_106 (by decide) (by omega) (by omega) (fun c28 => ?_) (fun c28 => ?_)
                  · skip
                    refine ov_blk (ls2 := [(0, ov_r 70), (1, ov_i rule), (2, ov_i c), (3, ov_i ow), (4, ov_i nw), (5, ov_i x5), (6, ov_i x6), (7, ov_i (h11 80 x6))]) (st2 := [ov_i 2, ov_i x5]) (pc2 := 155) b_138_152_2 rfl rfl ?_
                    refine ov_iclt (tgt := 191) d_138_155 (by decide) (by omega) (by omega) (fun c29 => ?_) (fun c29 => ?_)
                    · skip
                      refine ov_blk (ls2 := [(0, ov_r 70), (1, ov_i rule), (2, ov_i c), (3, ov_i ow), (4, ov_i nw), (5, ov_i x5), (6, ov_i (x6 + 1)), (7, ov_i (h11 80 x6))]) (st2 := []) (pc2 := 194) b_138_191_1 rfl rfl ?_
                      refine ov_goto (tgt := 35) d_138_194 (by decide) ?_
                      refine ov_sub (ls2 := [(0, ov_r 70), (1, ov_i rule), (2, ov_i c), (3, ov_i ow), (4, ov_i nw), (5, ov_i x5), (6, ov_i (x6 + 1))]) (List.Sublist.subset (by repeat (first | exact List.Sublist.refl _ | apply List.Sublist.cons_cons | apply List.Sublist.cons))) ?_
                      exact ih7 x5 (x6 + 1) _ _ I12 (by show 0 ≤ x5 ∧ x5 ≤ 64 ∧ 0 ≤ (x6 + 1) ∧ (x6 + 1) ≤ 1000 ∧ 0 ≤ rule ∧ rule ≤ 3 ∧ (h11 36 7) = (h 36 7) ∧ (h11 1 1) = (h 1 1) ∧ (h11 90 2) = (h 90 2) ∧ (h11 0 10) = (h 0 10) ∧ (h11 0 11) = (h 0 11) ∧ (h11 0 12) = (h 0 12) ∧ (h11 0 13) = (h 0 13) ∧ (h11 3 1) = (h 3 1) ∧ (h11 36 8) = (h 36 8) ∧ (h11 46 3) = (h 46 3) ∧ (h11 46 4) = (h 46 4) ∧ (h11 49 4) = (h 49 4) ∧ (h11 49 5) = (h 49 5) ∧ (h11 64 0) = (h 64 0) ∧ (h11 76 0) = (h 76 0); omega) (by omega)
                    · skip
                      refine ov_blk (ls2 := [(0, ov_r 70), (1, ov_i rule), (2, ov_i c), (3, ov_i ow), (4, ov_i nw), (5, ov_i (x5 + (-1))), (6, ov_i x6), (7, ov_i (h11 80 x6))]) (st2 := [ov_r 70]) (pc2 := 162) b_138_158_2 rfl rfl ?_
                      refine ov_getf (v := ov_r 81) d_138_162 fl_Town_43 (zb_70 I12) (zs_70 I12) (congrArg ov_r (rg_70_17 I12)) ?_
                      refine ov_blk (ls2 := [(0, ov_r 70), (1, ov_i rule), (2, ov_i c), (3, ov_i ow), (4, ov_i nw), (5, ov_i (x5 + (-1))), (6, ov_i x6), (7, ov_i (h11 80 x6))]) (st2 := [ov_r 70, ov_i (h11 80 x6), ov_i ((x5 + (-1)) - 1), ov_r 81]) (pc2 := 172) b_138_165_5 rfl rfl ?_
                      refine ov_getf (v := ov_r 81) d_138_172 fl_Town_43 (zb_70 I12) (zs_70 I12) (congrArg ov_r (rg_70_17 I12)) ?_
                      refine ov_blk (ls2 := [(0, ov_r 70), (1, ov_i rule), (2, ov_i c), (3, ov_i ow), (4, ov_i nw), (5, ov_i (x5 + (-1))), (6, ov_i x6), (7, ov_i (h11 80 x6))]) (st2 := [ov_i ((x5 + (-1)) - 1), ov_r 81, ov_i (h11 80 x6), ov_i ((x5 + (-1)) - 1), ov_r 81]) (pc2 := 179) b_138_175_3 rfl rfl ?_
                      refine ov_iald d_138_179 (zb_81 I12) (zs_81 I12) (by omega) ?_
                      have g30 := ra_81 I12 ((x5 + (-1)) - 1)
                      refine ov_blk (ls2 := [(0, ov_r 70), (1, ov_i rule), (2, ov_i c), (3, ov_i ow), (4, ov_i nw), (5, ov_i (x5 + (-1))), (6, ov_i x6), (7, ov_i (h11 80 x6))]) (st2 := [ov_r 70, ov_i (h11 81 ((x5 + (-1)) - 1)), ov_i (h11 80 x6), ov_i ((x5 + (-1)) - 1), ov_r 81]) (pc2 := 181) b_138_180_1 rfl rfl ?_
                      refine ov_getf (v := ov_r 81) d_138_181 fl_Town_43 (zb_70 I12) (zs_70 I12) (congrArg ov_r (rg_70_17 I12)) ?_
                      refine ov_blk (ls2 := [(0, ov_r 70), (1, ov_i rule), (2, ov_i c), (3, ov_i ow), (4, ov_i nw), (5, ov_i (x5 + (-1))), (6, ov_i x6), (7, ov_i (h11 80 x6))]) (st2 := [ov_i (x5 + (-1)), ov_r 81, ov_i (h11 81 ((x5 + (-1)) - 1)), ov_i (h11 80 x6), ov_i ((x5 + (-1)) - 1), ov_r 81]) (pc2 := 186) b_138_184_1 rfl rfl ?_
                      refine ov_iald d_138_186 (zb_81 I12) (zs_81 I12) (by omega) ?_
                      have g31 := ra_81 I12 (x5 + (-1))
                      refine ov_cS (as := [ov_i (h11 80 x6), ov_i (h11 81 ((x5 + (-1)) - 1)), ov_i (h11 81 (x5 + (-1)))]) (st := [ov_i ((x5 + (-1)) - 1), ov_r 81]) (d2 := d - 1) d_138_187 lk_Town_109 rfl (Nat.le_of_ble_eq_true rfl) (by omega) (c_Town_joined (d - 1) (by omega) U I12 (h11 80 x6) (h11 81 ((x5 + (-1)) - 1)) (h11 81 (x5 + (-1))) (by omega) (by omega) (by omega)) ?_
                      rintro _ _ _ ⟨v33, rfl, rfl, rfl, f32⟩
                      show ov_R u d ov_m138 190 [(0, ov_r 70), (1, ov_i rule), (2, ov_i c), (3, ov_i ow), (4, ov_i nw), (5, ov_i (x5 + (-1))), (6, ov_i x6), (7, ov_i (h11 80 x6))] [ov_i v33, ov_i ((x5 + (-1)) - 1), ov_r 81] z10 h11 (P_Town_ruleSaysOver_70 F z h rule c ow nw)
                      have f34 : -2147483648 ≤ v33 ∧ v33 ≤ 2147483647 := f32
                      clear f32
                      refine ov_iast d_138_190 (zb_81 I12) (zs_81 I12) (by omega) ?_
                      have I35 := ua_81 (k := ((x5 + (-1)) - 1)) (x := v33) I12 (by omega) (hw 81 (by decide +kernel))
                      refine ov_blk (ls2 := [(0, ov_r 70), (1, ov_i rule), (2, ov_i c), (3, ov_i ow), (4, ov_i nw), (5, ov_i (x5 + (-1))), (6, ov_i (x6 + 1)), (7, ov_i (h11 80 x6))]) (st2 := []) (pc2 := 194) b_138_191_1 rfl rfl ?_
                      refine ov_goto (tgt := 35) d_138_194 (by decide) ?_
                      refine ov_sub (ls2 := [(0, ov_r 70), (1, ov_i rule), (2, ov_i c), (3, ov_i ow), (4, ov_i nw), (5, ov_i (x5 + (-1))), (6, ov_i (x6 + 1))]) (List.Sublist.subset (by repeat (first | exact List.Sublist.refl _ | apply List.Sublist.cons_cons | apply List.Sublist.cons))) ?_
                      exact ih7 (x5 + (-1)) (x6 + 1) _ _ I35 (by show 0 ≤ (x5 + (-1)) ∧ (x5 + (-1)) ≤ 64 ∧ 0 ≤ (x6 + 1) ∧ (x6 + 1) ≤ 1000 ∧ 0 ≤ rule ∧ rule ≤ 3 ∧ (h11 36 7) = (h 36 7) ∧ (h11 1 1) = (h 1 1) ∧ (h11 90 2) = (h 90 2) ∧ (h11 0 10) = (h 0 10) ∧ (h11 0 11) = (h 0 11) ∧ (h11 0 12) = (h 0 12) ∧ (h11 0 13) = (h 0 13) ∧ (h11 3 1) = (h 3 1) ∧ (h11 36 8) = (h 36 8) ∧ (h11 46 3) = (h 46 3) ∧ (h11 46 4) = (h 46 4) ∧ (h11 49 4) = (h 49 4) ∧ (h11 49 5) = (h 49 5) ∧ (h11 64 0) = (h 64 0) ∧ (h11 76 0) = (h 76 0); omega) (by omega)
                  · skip
                    refine ov_blk (ls2 := [(0, ov_r 70), (1, ov_i rule), (2, ov_i c), (3, ov_i ow), (4, ov_i nw), (5, ov_i x5), (6, ov_i x6), (7, ov_i (h11 80 x6))]) (st2 := [ov_r 70]) (pc2 := 110) b_138_109_1 rfl rfl ?_
                    refine ov_getf (v := ov_r 81) d_138_110 fl_Town_43 (zb_70 I12) (zs_70 I12) (congrArg ov_r (rg_70_17 I12)) ?_
                    refine ov_blk (ls2 := [(0, ov_r 70), (1, ov_i rule), (2, ov_i c), (3, ov_i ow), (4, ov_i nw), (5, ov_i x5), (6, ov_i x6), (7, ov_i (h11 80 x6))]) (st2 := [ov_i 8, ov_i (h11 80 x6), ov_i x5, ov_r 81]) (pc2 := 119) b_138_113_3 rfl rfl ?_
                    refine ov_icne (tgt := 126) d_138_119 (by decide) (by omega) (by omega) (fun c36 => ?_) (fun c36 => ?_)
                    · skip
                      refine ov_blk (ls2 := [(0, ov_r 70), (1, ov_i rule), (2, ov_i c), (3, ov_i ow), (4, ov_i nw), (5, ov_i x5), (6, ov_i x6), (7, ov_i (h11 80 x6))]) (st2 := [ov_i 9, ov_i (h11 80 x6), ov_i x5, ov_r 81]) (pc2 := 130) b_138_126_2 rfl rfl ?_
                      refine ov_icne (tgt := 138) d_138_130 (by decide) (by omega) (by omega) (fun c37 => ?_) (fun c37 => ?_)
                      · skip
                        refine ov_blk (ls2 := [(0, ov_r 70), (1, ov_i rule), (2, ov_i c), (3, ov_i ow), (4, ov_i nw), (5, ov_i x5), (6, ov_i x6), (7, ov_i (h11 80 x6))]) (st2 := [ov_i c, ov_i (h11 80 x6), ov_r 70, ov_i x5, ov_r 81]) (pc2 := 142) b_138_138_3 rfl rfl ?_
                        refine ov_cV (as := [ov_i (h11 80 x6), ov_i c]) (st := [ov_i x5, ov_r 81]) (d2 := d - 1) d_138_142 lk_Town_106 rfl (Nat.le_of_ble_eq_true rfl) (c := 9) (zb_70 I12) (zs_70 I12) ⟨by decide, rfl⟩ (by omega) (c_Town_placeOrNumber_70 (d - 1) (by omega) U I12 (h11 80 x6) c (by omega) (by omega) (by omega) (by omega)) ?_
                        rintro _ _ _ ⟨v39, rfl, rfl, rfl, f38⟩
                        show ov_R u d ov_m138 145 [(0, ov_r 70), (1, ov_i rule), (2, ov_i c), (3, ov_i ow), (4, ov_i nw), (5, ov_i x5), (6, ov_i x6), (7, ov_i (h11 80 x6))] [ov_i v39, ov_i x5, ov_r 81] z10 h11 (P_Town_ruleSaysOver_70 F z h rule c ow nw)
                        have f40 : -2147483648 ≤ v39 ∧ v39 ≤ 2147483647 := f38
                        clear f38
                        refine ov_iast d_138_145 (zb_81 I12) (zs_81 I12) (by omega) ?_
                        have I41 := ua_81 (k := x5) (x := v39) I12 (by omega) (hw 81 (by decide +kernel))
                        refine ov_blk (ls2 := [(0, ov_r 70), (1, ov_i rule), (2, ov_i c), (3, ov_i ow), (4, ov_i nw), (5, ov_i (x5 + 1)), (6, ov_i x6), (7, ov_i (h11 80 x6))]) (st2 := []) (pc2 := 149) b_138_146_1 rfl rfl ?_
                        refine ov_goto (tgt := 191) d_138_149 (by decide) ?_
                        refine ov_blk (ls2 := [(0, ov_r 70), (1, ov_i rule), (2, ov_i c), (3, ov_i ow), (4, ov_i nw), (5, ov_i (x5 + 1)), (6, ov_i (x6 + 1)), (7, ov_i (h11 80 x6))]) (st2 := []) (pc2 := 194) b_138_191_1 rfl rfl ?_
                        refine ov_goto (tgt := 35) d_138_194 (by decide) ?_
                        refine ov_sub (ls2 := [(0, ov_r 70), (1, ov_i rule), (2, ov_i c), (3, ov_i ow), (4, ov_i nw), (5, ov_i (x5 + 1)), (6, ov_i (x6 + 1))]) (List.Sublist.subset (by repeat (first | exact List.Sublist.refl _ | apply List.Sublist.cons_cons | apply List.Sublist.cons))) ?_
                        exact ih7 (x5 + 1) (x6 + 1) _ _ I41 (by show 0 ≤ (x5 + 1) ∧ (x5 + 1) ≤ 64 ∧ 0 ≤ (x6 + 1) ∧ (x6 + 1) ≤ 1000 ∧ 0 ≤ rule ∧ rule ≤ 3 ∧ (h11 36 7) = (h 36 7) ∧ (h11 1 1) = (h 1 1) ∧ (h11 90 2) = (h 90 2) ∧ (h11 0 10) = (h 0 10) ∧ (h11 0 11) = (h 0 11) ∧ (h11 0 12) = (h 0 12) ∧ (h11 0 13) = (h 0 13) ∧ (h11 3 1) = (h 3 1) ∧ (h11 36 8) = (h 36 8) ∧ (h11 46 3) = (h 46 3) ∧ (h11 46 4) = (h 46 4) ∧ (h11 49 4) = (h 49 4) ∧ (h11 49 5) = (h 49 5) ∧ (h11 64 0) = (h 64 0) ∧ (h11 76 0) = (h 76 0); omega) (by omega)
                      · skip
                        refine ov_blk (ls2 := [(0, ov_r 70), (1, ov_i rule), (2, ov_i c), (3, ov_i ow), (4, ov_i nw), (5, ov_i x5), (6, ov_i x6), (7, ov_i (h11 80 x6))]) (st2 := [ov_i nw, ov_i x5, ov_r 81]) (pc2 := 135) b_138_133_1 rfl rfl ?_
                        refine ov_goto (tgt := 145) d_138_135 (by decide) ?_
                        refine ov_iast d_138_145 (zb_81 I12) (zs_81 I12) (by omega) ?_
                        have I42 := ua_81 (k := x5) (x := nw) I12 (by omega) (hw 81 (by decide +kernel))
                        refine ov_blk (ls2 := [(0, ov_r 70), (1, ov_i rule), (2, ov_i c), (3, ov_i ow), (4, ov_i nw), (5, ov_i (x5 + 1)), (6, ov_i x6), (7, ov_i (h11 80 x6))]) (st2 := []) (pc2 := 149) b_138_146_1 rfl rfl ?_
                        refine ov_goto (tgt := 191) d_138_149 (by decide) ?_
                        refine ov_blk (ls2 := [(0, ov_r 70), (1, ov_i rule), (2, ov_i c), (3, ov_i ow), (4, ov_i nw), (5, ov_i (x5 + 1)), (6, ov_i (x6 + 1)), (7, ov_i (h11 80 x6))]) (st2 := []) (pc2 := 194) b_138_191_1 rfl rfl ?_
                        refine ov_goto (tgt := 35) d_138_194 (by decide) ?_
                        refine ov_sub (ls2 := [(0, ov_r 70), (1, ov_i rule), (2, ov_i c), (3, ov_i ow), (4, ov_i nw), (5, ov_i (x5 + 1)), (6, ov_i (x6 + 1))]) (List.Sublist.subset (by repeat (first | exact List.Sublist.refl _ | apply List.Sublist.cons_cons | apply List.Sublist.cons))) ?_
                        exact ih7 (x5 + 1) (x6 + 1) _ _ I42 (by show 0 ≤ (x5 + 1) ∧ (x5 + 1) ≤ 64 ∧ 0 ≤ (x6 + 1) ∧ (x6 + 1) ≤ 1000 ∧ 0 ≤ rule ∧ rule ≤ 3 ∧ (h11 36 7) = (h 36 7) ∧ (h11 1 1) = (h 1 1) ∧ (h11 90 2) = (h 90 2) ∧ (h11 0 10) = (h 0 10) ∧ (h11 0 11) = (h 0 11) ∧ (h11 0 12) = (h 0 12) ∧ (h11 0 13) = (h 0 13) ∧ (h11 3 1) = (h 3 1) ∧ (h11 36 8) = (h 36 8) ∧ (h11 46 3) = (h 46 3) ∧ (h11 46 4) = (h 46 4) ∧ (h11 49 4) = (h 49 4) ∧ (h11 49 5) = (h 49 5) ∧ (h11 64 0) = (h 64 0) ∧ (h11 76 0) = (h 76 0); omega) (by omega)
                    · skip
                      refine ov_blk (ls2 := [(0, ov_r 70), (1, ov_i rule), (2, ov_i c), (3, ov_i ow), (4, ov_i nw), (5, ov_i x5), (6, ov_i x6), (7, ov_i (h11 80 x6))]) (st2 := [ov_i ow, ov_i x5, ov_r 81]) (pc2 := 123) b_138_122_1 rfl rfl ?_
                      refine ov_goto (tgt := 145) d_138_123 (by decide) ?_
                      refine ov_iast d_138_145 (zb_81 I12) (zs_81 I12) (by omega) ?_
                      have I43 := ua_81 (k := x5) (x := ow) I12 (by omega) (hw 81 (by decide +kernel))
                      refine ov_blk (ls2 := [(0, ov_r 70), (1, ov_i rule), (2, ov_i c), (3, ov_i ow), (4, ov_i nw), (5, ov_i (x5 + 1)), (6, ov_i x6), (7, ov_i (h11 80 x6))]) (st2 := []) (pc2 := 149) b_138_146_1 rfl rfl ?_
                      refine ov_goto (tgt := 191) d_138_149 (by decide) ?_
                      refine ov_blk (ls2 := [(0, ov_r 70), (1, ov_i rule), (2, ov_i c), (3, ov_i ow), (4, ov_i nw), (5, ov_i (x5 + 1)), (6, ov_i (x6 + 1)), (7, ov_i (h11 80 x6))]) (st2 := []) (pc2 := 194) b_138_191_1 rfl rfl ?_
                      refine ov_goto (tgt := 35) d_138_194 (by decide) ?_
                      refine ov_sub (ls2 := [(0, ov_r 70), (1, ov_i rule), (2, ov_i c), (3, ov_i ow), (4, ov_i nw), (5, ov_i (x5 + 1)), (6, ov_i (x6 + 1))]) (List.Sublist.subset (by repeat (first | exact List.Sublist.refl _ | apply List.Sublist.cons_cons | apply List.Sublist.cons))) ?_
                      exact ih7 (x5 + 1) (x6 + 1) _ _ I43 (by show 0 ≤ (x5 + 1) ∧ (x5 + 1) ≤ 64 ∧ 0 ≤ (x6 + 1) ∧ (x6 + 1) ≤ 1000 ∧ 0 ≤ rule ∧ rule ≤ 3 ∧ (h11 36 7) = (h 36 7) ∧ (h11 1 1) = (h 1 1) ∧ (h11 90 2) = (h 90 2) ∧ (h11 0 10) = (h 0 10) ∧ (h11 0 11) = (h 0 11) ∧ (h11 0 12) = (h 0 12) ∧ (h11 0 13) = (h 0 13) ∧ (h11 3 1) = (h 3 1) ∧ (h11 36 8) = (h 36 8) ∧ (h11 46 3) = (h 46 3) ∧ (h11 46 4) = (h 46 4) ∧ (h11 49 4) = (h 49 4) ∧ (h11 49 5) = (h 49 5) ∧ (h11 64 0) = (h 64 0) ∧ (h11 76 0) = (h 76 0); omega) (by omega)
              · skip
                refine ov_blk (ls2 := [(0, ov_r 70), (1, ov_i rule), (2, ov_i c), (3, ov_i ow), (4, ov_i nw), (5, ov_i x5), (6, ov_i x6), (7, ov_i (h11 80 x6))]) (st2 := [ov_i 1, ov_i x5]) (pc2 := 63) b_138_60_2 rfl rfl ?_
                refine ov_iclt (tgt := 95) d_138_63 (by decide) (by omega) (by omega) (fun c44 => ?_) (fun c44 => ?_)
                · skip
                  refine ov_blk (ls2 := [(0, ov_r 70), (1, ov_i rule), (2, ov_i c), (3, ov_i ow), (4, ov_i nw), (5, ov_i x5), (6, ov_i x6), (7, ov_i (h11 80 x6))]) (st2 := [ov_i 8, ov_i (h11 80 x6)]) (pc2 := 99) b_138_95_2 rfl rfl ?_
                  refine ov_iclt (tgt := 152) d_138_99 (by decide) (by omega) (by omega) (fun c45 => ?_) (fun c45 => ?_)
                  · skip
                    refine ov_blk (ls2 := [(0, ov_r 70), (1, ov_i rule), (2, ov_i c), (3, ov_i ow), (4, ov_i nw), (5, ov_i x5), (6, ov_i x6), (7, ov_i (h11 80 x6))]) (st2 := [ov_i 2, ov_i x5]) (pc2 := 155) b_138_152_2 rfl rfl ?_
                    refine ov_iclt (tgt := 191) d_138_155 (by decide) (by omega) (by omega) (fun c46 => ?_) (fun c46 => ?_)
                    · skip
                      refine ov_blk (ls2 := [(0, ov_r 70), (1, ov_i rule), (2, ov_i c), (3, ov_i ow), (4, ov_i nw), (5, ov_i x5), (6, ov_i (x6 + 1)), (7, ov_i (h11 80 x6))]) (st2 := []) (pc2 := 194) b_138_191_1 rfl rfl ?_
                      refine ov_goto (tgt := 35) d_138_194 (by decide) ?_
                      refine ov_sub (ls2 := [(0, ov_r 70), (1, ov_i rule), (2, ov_i c), (3, ov_i ow), (4, ov_i nw), (5, ov_i x5), (6, ov_i (x6 + 1))]) (List.Sublist.subset (by repeat (first | exact List.Sublist.refl _ | apply List.Sublist.cons_cons | apply List.Sublist.cons))) ?_
                      exact ih7 x5 (x6 + 1) _ _ I12 (by show 0 ≤ x5 ∧ x5 ≤ 64 ∧ 0 ≤ (x6 + 1) ∧ (x6 + 1) ≤ 1000 ∧ 0 ≤ rule ∧ rule ≤ 3 ∧ (h11 36 7) = (h 36 7) ∧ (h11 1 1) = (h 1 1) ∧ (h11 90 2) = (h 90 2) ∧ (h11 0 10) = (h 0 10) ∧ (h11 0 11) = (h 0 11) ∧ (h11 0 12) = (h 0 12) ∧ (h11 0 13) = (h 0 13) ∧ (h11 3 1) = (h 3 1) ∧ (h11 36 8) = (h 36 8) ∧ (h11 46 3) = (h 46 3) ∧ (h11 46 4) = (h 46 4) ∧ (h11 49 4) = (h 49 4) ∧ (h11 49 5) = (h 49 5) ∧ (h11 64 0) = (h 64 0) ∧ (h11 76 0) = (h 76 0); omega) (by omega)
                    · skip
                      refine ov_blk (ls2 := [(0, ov_r 70), (1, ov_i rule), (2, ov_i c), (3, ov_i ow), (4, ov_i nw), (5, ov_i (x5 + (-1))), (6, ov_i x6), (7, ov_i (h11 80 x6))]) (st2 := [ov_r 70]) (pc2 := 162) b_138_158_2 rfl rfl ?_
                      refine ov_getf (v := ov_r 81) d_138_162 fl_Town_43 (zb_70 I12) (zs_70 I12) (congrArg ov_r (rg_70_17 I12)) ?_
                      refine ov_blk (ls2 := [(0, ov_r 70), (1, ov_i rule), (2, ov_i c), (3, ov_i ow), (4, ov_i nw), (5, ov_i (x5 + (-1))), (6, ov_i x6), (7, ov_i (h11 80 x6))]) (st2 := [ov_r 70, ov_i (h11 80 x6), ov_i ((x5 + (-1)) - 1), ov_r 81]) (pc2 := 172) b_138_165_5 rfl rfl ?_
                      refine ov_getf (v := ov_r 81) d_138_172 fl_Town_43 (zb_70 I12) (zs_70 I12) (congrArg ov_r (rg_70_17 I12)) ?_
                      refine ov_blk (ls2 := [(0, ov_r 70), (1, ov_i rule), (2, ov_i c), (3, ov_i ow), (4, ov_i nw), (5, ov_i (x5 + (-1))), (6, ov_i x6), (7, ov_i (h11 80 x6))]) (st2 := [ov_i ((x5 + (-1)) - 1), ov_r 81, ov_i (h11 80 x6), ov_i ((x5 + (-1)) - 1), ov_r 81]) (pc2 := 179) b_138_175_3 rfl rfl ?_
                      refine ov_iald d_138_179 (zb_81 I12) (zs_81 I12) (by omega) ?_
                      have g47 := ra_81 I12 ((x5 + (-1)) - 1)
                      refine ov_blk (ls2 := [(0, ov_r 70), (1, ov_i rule), (2, ov_i c), (3, ov_i ow), (4, ov_i nw), (5, ov_i (x5 + (-1))), (6, ov_i x6), (7, ov_i (h11 80 x6))]) (st2 := [ov_r 70, ov_i (h11 81 ((x5 + (-1)) - 1)), ov_i (h11 80 x6), ov_i ((x5 + (-1)) - 1), ov_r 81]) (pc2 := 181) b_138_180_1 rfl rfl ?_
                      refine ov_getf (v := ov_r 81) d_138_181 fl_Town_43 (zb_70 I12) (zs_70 I12) (congrArg ov_r (rg_70_17 I12)) ?_
                      refine ov_blk (ls2 := [(0, ov_r 70), (1, ov_i rule), (2, ov_i c), (3, ov_i ow), (4, ov_i nw), (5, ov_i (x5 + (-1))), (6, ov_i x6), (7, ov_i (h11 80 x6))]) (st2 := [ov_i (x5 + (-1)), ov_r 81, ov_i (h11 81 ((x5 + (-1)) - 1)), ov_i (h11 80 x6), ov_i ((x5 + (-1)) - 1), ov_r 81]) (pc2 := 186) b_138_184_1 rfl rfl ?_
                      refine ov_iald d_138_186 (zb_81 I12) (zs_81 I12) (by omega) ?_
                      have g48 := ra_81 I12 (x5 + (-1))
                      refine ov_cS (as := [ov_i (h11 80 x6), ov_i (h11 81 ((x5 + (-1)) - 1)), ov_i (h11 81 (x5 + (-1)))]) (st := [ov_i ((x5 + (-1)) - 1), ov_r 81]) (d2 := d - 1) d_138_187 lk_Town_109 rfl (Nat.le_of_ble_eq_true rfl) (by omega) (c_Town_joined (d - 1) (by omega) U I12 (h11 80 x6) (h11 81 ((x5 + (-1)) - 1)) (h11 81 (x5 + (-1))) (by omega) (by omega) (by omega)) ?_
                      rintro _ _ _ ⟨v50, rfl, rfl, rfl, f49⟩
                      show ov_R u d ov_m138 190 [(0, ov_r 70), (1, ov_i rule), (2, ov_i c), (3, ov_i ow), (4, ov_i nw), (5, ov_i (x5 + (-1))), (6, ov_i x6), (7, ov_i (h11 80 x6))] [ov_i v50, ov_i ((x5 + (-1)) - 1), ov_r 81] z10 h11 (P_Town_ruleSaysOver_70 F z h rule c ow nw)
                      have f51 : -2147483648 ≤ v50 ∧ v50 ≤ 2147483647 := f49
                      clear f49
                      refine ov_iast d_138_190 (zb_81 I12) (zs_81 I12) (by omega) ?_
                      have I52 := ua_81 (k := ((x5 + (-1)) - 1)) (x := v50) I12 (by omega) (hw 81 (by decide +kernel))
                      refine ov_blk (ls2 := [(0, ov_r 70), (1, ov_i rule), (2, ov_i c), (3, ov_i ow), (4, ov_i nw), (5, ov_i (x5 + (-1))), (6, ov_i (x6 + 1)), (7, ov_i (h11 80 x6))]) (st2 := []) (pc2 := 194) b_138_191_1 rfl rfl ?_
                      refine ov_goto (tgt := 35) d_138_194 (by decide) ?_
                      refine ov_sub (ls2 := [(0, ov_r 70), (1, ov_i rule), (2, ov_i c), (3, ov_i ow), (4, ov_i nw), (5, ov_i (x5 + (-1))), (6, ov_i (x6 + 1))]) (List.Sublist.subset (by repeat (first | exact List.Sublist.refl _ | apply List.Sublist.cons_cons | apply List.Sublist.cons))) ?_
                      exact ih7 (x5 + (-1)) (x6 + 1) _ _ I52 (by show 0 ≤ (x5 + (-1)) ∧ (x5 + (-1)) ≤ 64 ∧ 0 ≤ (x6 + 1) ∧ (x6 + 1) ≤ 1000 ∧ 0 ≤ rule ∧ rule ≤ 3 ∧ (h11 36 7) = (h 36 7) ∧ (h11 1 1) = (h 1 1) ∧ (h11 90 2) = (h 90 2) ∧ (h11 0 10) = (h 0 10) ∧ (h11 0 11) = (h 0 11) ∧ (h11 0 12) = (h 0 12) ∧ (h11 0 13) = (h 0 13) ∧ (h11 3 1) = (h 3 1) ∧ (h11 36 8) = (h 36 8) ∧ (h11 46 3) = (h 46 3) ∧ (h11 46 4) = (h 46 4) ∧ (h11 49 4) = (h 49 4) ∧ (h11 49 5) = (h 49 5) ∧ (h11 64 0) = (h 64 0) ∧ (h11 76 0) = (h 76 0); omega) (by omega)
                  · skip
                    refine ov_blk (ls2 := [(0, ov_r 70), (1, ov_i rule), (2, ov_i c), (3, ov_i ow), (4, ov_i nw), (5, ov_i x5), (6, ov_i x6), (7, ov_i (h11 80 x6))]) (st2 := [ov_i 64, ov_i x5]) (pc2 := 106) b_138_102_2 rfl rfl ?_
                    refine ov_icge (tgt := 152) d_138_106 (by decide) (by omega) (by omega) (fun c53 => ?_) (fun c53 => ?_)
                    · skip
                      refine ov_blk (ls2 := [(0, ov_r 70), (1, ov_i rule), (2, ov_i c), (3, ov_i ow), (4, ov_i nw), (5, ov_i x5), (6, ov_i x6), (7, ov_i (h11 80 x6))]) (st2 := [ov_i 2, ov_i x5]) (pc2 := 155) b_138_152_2 rfl rfl ?_
                      refine ov_iclt (tgt := 191) d_138_155 (by decide) (by omega) (by omega) (fun c54 => ?_) (fun c54 => ?_)
                      · skip
                        refine ov_blk (ls2 := [(0, ov_r 70), (1, ov_i rule), (2, ov_i c), (3, ov_i ow), (4, ov_i nw), (5, ov_i x5), (6, ov_i (x6 + 1)), (7, ov_i (h11 80 x6))]) (st2 := []) (pc2 := 194) b_138_191_1 rfl rfl ?_
                        refine ov_goto (tgt := 35) d_138_194 (by decide) ?_
                        refine ov_sub (ls2 := [(0, ov_r 70), (1, ov_i rule), (2, ov_i c), (3, ov_i ow), (4, ov_i nw), (5, ov_i x5), (6, ov_i (x6 + 1))]) (List.Sublist.subset (by repeat (first | exact List.Sublist.refl _ | apply List.Sublist.cons_cons | apply List.Sublist.cons))) ?_
                        exact ih7 x5 (x6 + 1) _ _ I12 (by show 0 ≤ x5 ∧ x5 ≤ 64 ∧ 0 ≤ (x6 + 1) ∧ (x6 + 1) ≤ 1000 ∧ 0 ≤ rule ∧ rule ≤ 3 ∧ (h11 36 7) = (h 36 7) ∧ (h11 1 1) = (h 1 1) ∧ (h11 90 2) = (h 90 2) ∧ (h11 0 10) = (h 0 10) ∧ (h11 0 11) = (h 0 11) ∧ (h11 0 12) = (h 0 12) ∧ (h11 0 13) = (h 0 13) ∧ (h11 3 1) = (h 3 1) ∧ (h11 36 8) = (h 36 8) ∧ (h11 46 3) = (h 46 3) ∧ (h11 46 4) = (h 46 4) ∧ (h11 49 4) = (h 49 4) ∧ (h11 49 5) = (h 49 5) ∧ (h11 64 0) = (h 64 0) ∧ (h11 76 0) = (h 76 0); omega) (by omega)
                      · skip
                        refine ov_blk (ls2 := [(0, ov_r 70), (1, ov_i rule), (2, ov_i c), (3, ov_i ow), (4, ov_i nw), (5, ov_i (x5 + (-1))), (6, ov_i x6), (7, ov_i (h11 80 x6))]) (st2 := [ov_r 70]) (pc2 := 162) b_138_158_2 rfl rfl ?_
                        refine ov_getf (v := ov_r 81) d_138_162 fl_Town_43 (zb_70 I12) (zs_70 I12) (congrArg ov_r (rg_70_17 I12)) ?_
                        refine ov_blk (ls2 := [(0, ov_r 70), (1, ov_i rule), (2, ov_i c), (3, ov_i ow), (4, ov_i nw), (5, ov_i (x5 + (-1))), (6, ov_i x6), (7, ov_i (h11 80 x6))]) (st2 := [ov_r 70, ov_i (h11 80 x6), ov_i ((x5 + (-1)) - 1), ov_r 81]) (pc2 := 172) b_138_165_5 rfl rfl ?_
                        refine ov_getf (v := ov_r 81) d_138_172 fl_Town_43 (zb_70 I12) (zs_70 I12) (congrArg ov_r (rg_70_17 I12)) ?_
                        refine ov_blk (ls2 := [(0, ov_r 70), (1, ov_i rule), (2, ov_i c), (3, ov_i ow), (4, ov_i nw), (5, ov_i (x5 + (-1))), (6, ov_i x6), (7, ov_i (h11 80 x6))]) (st2 := [ov_i ((x5 + (-1)) - 1), ov_r 81, ov_i (h11 80 x6), ov_i ((x5 + (-1)) - 1), ov_r 81]) (pc2 := 179) b_138_175_3 rfl rfl ?_
                        refine ov_iald d_138_179 (zb_81 I12) (zs_81 I12) (by omega) ?_
                        have g55 := ra_81 I12 ((x5 + (-1)) - 1)
                        refine ov_blk (ls2 := [(0, ov_r 70), (1, ov_i rule), (2, ov_i c), (3, ov_i ow), (4, ov_i nw), (5, ov_i (x5 + (-1))), (6, ov_i x6), (7, ov_i (h11 80 x6))]) (st2 := [ov_r 70, ov_i (h11 81 ((x5 + (-1)) - 1)), ov_i (h11 80 x6), ov_i ((x5 + (-1)) - 1), ov_r 81]) (pc2 := 181) b_138_180_1 rfl rfl ?_
                        refine ov_getf (v := ov_r 81) d_138_181 fl_Town_43 (zb_70 I12) (zs_70 I12) (congrArg ov_r (rg_70_17 I12)) ?_
                        refine ov_blk (ls2 := [(0, ov_r 70), (1, ov_i rule), (2, ov_i c), (3, ov_i ow), (4, ov_i nw), (5, ov_i (x5 + (-1))), (6, ov_i x6), (7, ov_i (h11 80 x6))]) (st2 := [ov_i (x5 + (-1)), ov_r 81, ov_i (h11 81 ((x5 + (-1)) - 1)), ov_i (h11 80 x6), ov_i ((x5 + (-1)) - 1), ov_r 81]) (pc2 := 186) b_138_184_1 rfl rfl ?_
                        refine ov_iald d_138_186 (zb_81 I12) (zs_81 I12) (by omega) ?_
                        have g56 := ra_81 I12 (x5 + (-1))
                        refine ov_cS (as := [ov_i (h11 80 x6), ov_i (h11 81 ((x5 + (-1)) - 1)), ov_i (h11 81 (x5 + (-1)))]) (st := [ov_i ((x5 + (-1)) - 1), ov_r 81]) (d2 := d - 1) d_138_187 lk_Town_109 rfl (Nat.le_of_ble_eq_true rfl) (by omega) (c_Town_joined (d - 1) (by omega) U I12 (h11 80 x6) (h11 81 ((x5 + (-1)) - 1)) (h11 81 (x5 + (-1))) (by omega) (by omega) (by omega)) ?_
                        rintro _ _ _ ⟨v58, rfl, rfl, rfl, f57⟩
                        show ov_R u d ov_m138 190 [(0, ov_r 70), (1, ov_i rule), (2, ov_i c), (3, ov_i ow), (4, ov_i nw), (5, ov_i (x5 + (-1))), (6, ov_i x6), (7, ov_i (h11 80 x6))] [ov_i v58, ov_i ((x5 + (-1)) - 1), ov_r 81] z10 h11 (P_Town_ruleSaysOver_70 F z h rule c ow nw)
                        have f59 : -2147483648 ≤ v58 ∧ v58 ≤ 2147483647 := f57
                        clear f57
                        refine ov_iast d_138_190 (zb_81 I12) (zs_81 I12) (by omega) ?_
                        have I60 := ua_81 (k := ((x5 + (-1)) - 1)) (x := v58) I12 (by omega) (hw 81 (by decide +kernel))
                        refine ov_blk (ls2 := [(0, ov_r 70), (1, ov_i rule), (2, ov_i c), (3, ov_i ow), (4, ov_i nw), (5, ov_i (x5 + (-1))), (6, ov_i (x6 + 1)), (7, ov_i (h11 80 x6))]) (st2 := []) (pc2 := 194) b_138_191_1 rfl rfl ?_
                        refine ov_goto (tgt := 35) d_138_194 (by decide) ?_
                        refine ov_sub (ls2 := [(0, ov_r 70), (1, ov_i rule), (2, ov_i c), (3, ov_i ow), (4, ov_i nw), (5, ov_i (x5 + (-1))), (6, ov_i (x6 + 1))]) (List.Sublist.subset (by repeat (first | exact List.Sublist.refl _ | apply List.Sublist.cons_cons | apply List.Sublist.cons))) ?_
                        exact ih7 (x5 + (-1)) (x6 + 1) _ _ I60 (by show 0 ≤ (x5 + (-1)) ∧ (x5 + (-1)) ≤ 64 ∧ 0 ≤ (x6 + 1) ∧ (x6 + 1) ≤ 1000 ∧ 0 ≤ rule ∧ rule ≤ 3 ∧ (h11 36 7) = (h 36 7) ∧ (h11 1 1) = (h 1 1) ∧ (h11 90 2) = (h 90 2) ∧ (h11 0 10) = (h 0 10) ∧ (h11 0 11) = (h 0 11) ∧ (h11 0 12) = (h 0 12) ∧ (h11 0 13) = (h 0 13) ∧ (h11 3 1) = (h 3 1) ∧ (h11 36 8) = (h 36 8) ∧ (h11 46 3) = (h 46 3) ∧ (h11 46 4) = (h 46 4) ∧ (h11 49 4) = (h 49 4) ∧ (h11 49 5) = (h 49 5) ∧ (h11 64 0) = (h 64 0) ∧ (h11 76 0) = (h 76 0); omega) (by omega)
                    · skip
                      refine ov_blk (ls2 := [(0, ov_r 70), (1, ov_i rule), (2, ov_i c), (3, ov_i ow), (4, ov_i nw), (5, ov_i x5), (6, ov_i x6), (7, ov_i (h11 80 x6))]) (st2 := [ov_r 70]) (pc2 := 110) b_138_109_1 rfl rfl ?_
                      refine ov_getf (v := ov_r 81) d_138_110 fl_Town_43 (zb_70 I12) (zs_70 I12) (congrArg ov_r (rg_70_17 I12)) ?_
                      refine ov_blk (ls2 := [(0, ov_r 70), (1, ov_i rule), (2, ov_i c), (3, ov_i ow), (4, ov_i nw), (5, ov_i x5), (6, ov_i x6), (7, ov_i (h11 80 x6))]) (st2 := [ov_i 8, ov_i (h11 80 x6), ov_i x5, ov_r 81]) (pc2 := 119) b_138_113_3 rfl rfl ?_
                      refine ov_icne (tgt := 126) d_138_119 (by decide) (by omega) (by omega) (fun c61 => ?_) (fun c61 => ?_)
                      · skip
                        refine ov_blk (ls2 := [(0, ov_r 70), (1, ov_i rule), (2, ov_i c), (3, ov_i ow), (4, ov_i nw), (5, ov_i x5), (6, ov_i x6), (7, ov_i (h11 80 x6))]) (st2 := [ov_i 9, ov_i (h11 80 x6), ov_i x5, ov_r 81]) (pc2 := 130) b_138_126_2 rfl rfl ?_
                        refine ov_icne (tgt := 138) d_138_130 (by decide) (by omega) (by omega) (fun c62 => ?_) (fun c62 => ?_)
                        · skip
                          refine ov_blk (ls2 := [(0, ov_r 70), (1, ov_i rule), (2, ov_i c), (3, ov_i ow), (4, ov_i nw), (5, ov_i x5), (6, ov_i x6), (7, ov_i (h11 80 x6))]) (st2 := [ov_i c, ov_i (h11 80 x6), ov_r 70, ov_i x5, ov_r 81]) (pc2 := 142) b_138_138_3 rfl rfl ?_
                          refine ov_cV (as := [ov_i (h11 80 x6), ov_i c]) (st := [ov_i x5, ov_r 81]) (d2 := d - 1) d_138_142 lk_Town_106 rfl (Nat.le_of_ble_eq_true rfl) (c := 9) (zb_70 I12) (zs_70 I12) ⟨by decide, rfl⟩ (by omega) (c_Town_placeOrNumber_70 (d - 1) (by omega) U I12 (h11 80 x6) c (by omega) (by omega) (by omega) (by omega)) ?_
                          rintro _ _ _ ⟨v64, rfl, rfl, rfl, f63⟩
                          show ov_R u d ov_m138 145 [(0, ov_r 70), (1, ov_i rule), (2, ov_i c), (3, ov_i ow), (4, ov_i nw), (5, ov_i x5), (6, ov_i x6), (7, ov_i (h11 80 x6))] [ov_i v64, ov_i x5, ov_r 81] z10 h11 (P_Town_ruleSaysOver_70 F z h rule c ow nw)
                          have f65 : -2147483648 ≤ v64 ∧ v64 ≤ 2147483647 := f63
                          clear f63
                          refine ov_iast d_138_145 (zb_81 I12) (zs_81 I12) (by omega) ?_
                          have I66 := ua_81 (k := x5) (x := v64) I12 (by omega) (hw 81 (by decide +kernel))
                          refine ov_blk (ls2 := [(0, ov_r 70), (1, ov_i rule), (2, ov_i c), (3, ov_i ow), (4, ov_i nw), (5, ov_i (x5 + 1)), (6, ov_i x6), (7, ov_i (h11 80 x6))]) (st2 := []) (pc2 := 149) b_138_146_1 rfl rfl ?_
                          refine ov_goto (tgt := 191) d_138_149 (by decide) ?_
                          refine ov_blk (ls2 := [(0, ov_r 70), (1, ov_i rule), (2, ov_i c), (3, ov_i ow), (4, ov_i nw), (5, ov_i (x5 + 1)), (6, ov_i (x6 + 1)), (7, ov_i (h11 80 x6))]) (st2 := []) (pc2 := 194) b_138_191_1 rfl rfl ?_
                          refine ov_goto (tgt := 35) d_138_194 (by decide) ?_
                          refine ov_sub (ls2 := [(0, ov_r 70), (1, ov_i rule), (2, ov_i c), (3, ov_i ow), (4, ov_i nw), (5, ov_i (x5 + 1)), (6, ov_i (x6 + 1))]) (List.Sublist.subset (by repeat (first | exact List.Sublist.refl _ | apply List.Sublist.cons_cons | apply List.Sublist.cons))) ?_
                          exact ih7 (x5 + 1) (x6 + 1) _ _ I66 (by show 0 ≤ (x5 + 1) ∧ (x5 + 1) ≤ 64 ∧ 0 ≤ (x6 + 1) ∧ (x6 + 1) ≤ 1000 ∧ 0 ≤ rule ∧ rule ≤ 3 ∧ (h11 36 7) = (h 36 7) ∧ (h11 1 1) = (h 1 1) ∧ (h11 90 2) = (h 90 2) ∧ (h11 0 10) = (h 0 10) ∧ (h11 0 11) = (h 0 11) ∧ (h11 0 12) = (h 0 12) ∧ (h11 0 13) = (h 0 13) ∧ (h11 3 1) = (h 3 1) ∧ (h11 36 8) = (h 36 8) ∧ (h11 46 3) = (h 46 3) ∧ (h11 46 4) = (h 46 4) ∧ (h11 49 4) = (h 49 4) ∧ (h11 49 5) = (h 49 5) ∧ (h11 64 0) = (h 64 0) ∧ (h11 76 0) = (h 76 0); omega) (by omega)
                        · skip
                          refine ov_blk (ls2 := [(0, ov_r 70), (1, ov_i rule), (2, ov_i c), (3, ov_i ow), (4, ov_i nw), (5, ov_i x5), (6, ov_i x6), (7, ov_i (h11 80 x6))]) (st2 := [ov_i nw, ov_i x5, ov_r 81]) (pc2 := 135) b_138_133_1 rfl rfl ?_
                          refine ov_goto (tgt := 145) d_138_135 (by decide) ?_
                          refine ov_iast d_138_145 (zb_81 I12) (zs_81 I12) (by omega) ?_
                          have I67 := ua_81 (k := x5) (x := nw) I12 (by omega) (hw 81 (by decide +kernel))
                          refine ov_blk (ls2 := [(0, ov_r 70), (1, ov_i rule), (2, ov_i c), (3, ov_i ow), (4, ov_i nw), (5, ov_i (x5 + 1)), (6, ov_i x6), (7, ov_i (h11 80 x6))]) (st2 := []) (pc2 := 149) b_138_146_1 rfl rfl ?_
                          refine ov_goto (tgt := 191) d_138_149 (by decide) ?_
                          refine ov_blk (ls2 := [(0, ov_r 70), (1, ov_i rule), (2, ov_i c), (3, ov_i ow), (4, ov_i nw), (5, ov_i (x5 + 1)), (6, ov_i (x6 + 1)), (7, ov_i (h11 80 x6))]) (st2 := []) (pc2 := 194) b_138_191_1 rfl rfl ?_
                          refine ov_goto (tgt := 35) d_138_194 (by decide) ?_
                          refine ov_sub (ls2 := [(0, ov_r 70), (1, ov_i rule), (2, ov_i c), (3, ov_i ow), (4, ov_i nw), (5, ov_i (x5 + 1)), (6, ov_i (x6 + 1))]) (List.Sublist.subset (by repeat (first | exact List.Sublist.refl _ | apply List.Sublist.cons_cons | apply List.Sublist.cons))) ?_
                          exact ih7 (x5 + 1) (x6 + 1) _ _ I67 (by show 0 ≤ (x5 + 1) ∧ (x5 + 1) ≤ 64 ∧ 0 ≤ (x6 + 1) ∧ (x6 + 1) ≤ 1000 ∧ 0 ≤ rule ∧ rule ≤ 3 ∧ (h11 36 7) = (h 36 7) ∧ (h11 1 1) = (h 1 1) ∧ (h11 90 2) = (h 90 2) ∧ (h11 0 10) = (h 0 10) ∧ (h11 0 11) = (h 0 11) ∧ (h11 0 12) = (h 0 12) ∧ (h11 0 13) = (h 0 13) ∧ (h11 3 1) = (h 3 1) ∧ (h11 36 8) = (h 36 8) ∧ (h11 46 3) = (h 46 3) ∧ (h11 46 4) = (h 46 4) ∧ (h11 49 4) = (h 49 4) ∧ (h11 49 5) = (h 49 5) ∧ (h11 64 0) = (h 64 0) ∧ (h11 76 0) = (h 76 0); omega) (by omega)
                      · skip
                        refine ov_blk (ls2 := [(0, ov_r 70), (1, ov_i rule), (2, ov_i c), (3, ov_i ow), (4, ov_i nw), (5, ov_i x5), (6, ov_i x6), (7, ov_i (h11 80 x6))]) (st2 := [ov_i ow, ov_i x5, ov_r 81]) (pc2 := 123) b_138_122_1 rfl rfl ?_
                        refine ov_goto (tgt := 145) d_138_123 (by decide) ?_
                        refine ov_iast d_138_145 (zb_81 I12) (zs_81 I12) (by omega) ?_
                        have I68 := ua_81 (k := x5) (x := ow) I12 (by omega) (hw 81 (by decide +kernel))
                        refine ov_blk (ls2 := [(0, ov_r 70), (1, ov_i rule), (2, ov_i c), (3, ov_i ow), (4, ov_i nw), (5, ov_i (x5 + 1)), (6, ov_i x6), (7, ov_i (h11 80 x6))]) (st2 := []) (pc2 := 149) b_138_146_1 rfl rfl ?_
                        refine ov_goto (tgt := 191) d_138_149 (by decide) ?_
                        refine ov_blk (ls2 := [(0, ov_r 70), (1, ov_i rule), (2, ov_i c), (3, ov_i ow), (4, ov_i nw), (5, ov_i (x5 + 1)), (6, ov_i (x6 + 1)), (7, ov_i (h11 80 x6))]) (st2 := []) (pc2 := 194) b_138_191_1 rfl rfl ?_
                        refine ov_goto (tgt := 35) d_138_194 (by decide) ?_
                        refine ov_sub (ls2 := [(0, ov_r 70), (1, ov_i rule), (2, ov_i c), (3, ov_i ow), (4, ov_i nw), (5, ov_i (x5 + 1)), (6, ov_i (x6 + 1))]) (List.Sublist.subset (by repeat (first | exact List.Sublist.refl _ | apply List.Sublist.cons_cons | apply List.Sublist.cons))) ?_
                        exact ih7 (x5 + 1) (x6 + 1) _ _ I68 (by show 0 ≤ (x5 + 1) ∧ (x5 + 1) ≤ 64 ∧ 0 ≤ (x6 + 1) ∧ (x6 + 1) ≤ 1000 ∧ 0 ≤ rule ∧ rule ≤ 3 ∧ (h11 36 7) = (h 36 7) ∧ (h11 1 1) = (h 1 1) ∧ (h11 90 2) = (h 90 2) ∧ (h11 0 10) = (h 0 10) ∧ (h11 0 11) = (h 0 11) ∧ (h11 0 12) = (h 0 12) ∧ (h11 0 13) = (h 0 13) ∧ (h11 3 1) = (h 3 1) ∧ (h11 36 8) = (h 36 8) ∧ (h11 46 3) = (h 46 3) ∧ (h11 46 4) = (h 46 4) ∧ (h11 49 4) = (h 49 4) ∧ (h11 49 5) = (h 49 5) ∧ (h11 64 0) = (h 64 0) ∧ (h11 76 0) = (h 76 0); omega) (by omega)
                · skip
                  refine ov_blk (ls2 := [(0, ov_r 70), (1, ov_i rule), (2, ov_i c), (3, ov_i ow), (4, ov_i nw), (5, ov_i x5), (6, ov_i x6), (7, ov_i (h11 80 x6))]) (st2 := [ov_r 70]) (pc2 := 67) b_138_66_1 rfl rfl ?_
                  refine ov_getf (v := ov_r 81) d_138_67 fl_Town_43 (zb_70 I12) (zs_70 I12) (congrArg ov_r (rg_70_17 I12)) ?_
                  refine ov_blk (ls2 := [(0, ov_r 70), (1, ov_i rule), (2, ov_i c), (3, ov_i ow), (4, ov_i nw), (5, ov_i x5), (6, ov_i x6), (7, ov_i (h11 80 x6))]) (st2 := [ov_r 70, ov_i (x5 - 1), ov_r 81]) (pc2 := 75) b_138_70_4 rfl rfl ?_
                  refine ov_getf (v := ov_r 81) d_138_75 fl_Town_43 (zb_70 I12) (zs_70 I12) (congrArg ov_r (rg_70_17 I12)) ?_
                  refine ov_blk (ls2 := [(0, ov_r 70), (1, ov_i rule), (2, ov_i c), (3, ov_i ow), (4, ov_i nw), (5, ov_i x5), (6, ov_i x6), (7, ov_i (h11 80 x6))]) (st2 := [ov_i (x5 - 1), ov_r 81, ov_i (x5 - 1), ov_r 81]) (pc2 := 82) b_138_78_3 rfl rfl ?_
                  refine ov_iald d_138_82 (zb_81 I12) (zs_81 I12) (by omega) ?_
                  have g69 := ra_81 I12 (x5 - 1)
                  refine ov_ifne (tgt := 90) d_138_83 (by decide) (by omega) (fun c70 => ?_) (fun c70 => ?_)
                  · skip
                    refine ov_blk (ls2 := [(0, ov_r 70), (1, ov_i rule), (2, ov_i c), (3, ov_i ow), (4, ov_i nw), (5, ov_i x5), (6, ov_i x6), (7, ov_i (h11 80 x6))]) (st2 := [ov_i 0, ov_i (x5 - 1), ov_r 81]) (pc2 := 91) b_138_90_1 rfl rfl ?_
                    refine ov_iast d_138_91 (zb_81 I12) (zs_81 I12) (by omega) ?_
                    have I71 := ua_81 (k := (x5 - 1)) (x := 0) I12 (by omega) (hw 81 (by decide +kernel))
                    refine ov_goto (tgt := 191) d_138_92 (by decide) ?_
                    refine ov_blk (ls2 := [(0, ov_r 70), (1, ov_i rule), (2, ov_i c), (3, ov_i ow), (4, ov_i nw), (5, ov_i x5), (6, ov_i (x6 + 1)), (7, ov_i (h11 80 x6))]) (st2 := []) (pc2 := 194) b_138_191_1 rfl rfl ?_
                    refine ov_goto (tgt := 35) d_138_194 (by decide) ?_
                    refine ov_sub (ls2 := [(0, ov_r 70), (1, ov_i rule), (2, ov_i c), (3, ov_i ow), (4, ov_i nw), (5, ov_i x5), (6, ov_i (x6 + 1))]) (List.Sublist.subset (by repeat (first | exact List.Sublist.refl _ | apply List.Sublist.cons_cons | apply List.Sublist.cons))) ?_
                    exact ih7 x5 (x6 + 1) _ _ I71 (by show 0 ≤ x5 ∧ x5 ≤ 64 ∧ 0 ≤ (x6 + 1) ∧ (x6 + 1) ≤ 1000 ∧ 0 ≤ rule ∧ rule ≤ 3 ∧ (h11 36 7) = (h 36 7) ∧ (h11 1 1) = (h 1 1) ∧ (h11 90 2) = (h 90 2) ∧ (h11 0 10) = (h 0 10) ∧ (h11 0 11) = (h 0 11) ∧ (h11 0 12) = (h 0 12) ∧ (h11 0 13) = (h 0 13) ∧ (h11 3 1) = (h 3 1) ∧ (h11 36 8) = (h 36 8) ∧ (h11 46 3) = (h 46 3) ∧ (h11 46 4) = (h 46 4) ∧ (h11 49 4) = (h 49 4) ∧ (h11 49 5) = (h 49 5) ∧ (h11 64 0) = (h 64 0) ∧ (h11 76 0) = (h 76 0); omega) (by omega)
                  · skip
                    refine ov_blk (ls2 := [(0, ov_r 70), (1, ov_i rule), (2, ov_i c), (3, ov_i ow), (4, ov_i nw), (5, ov_i x5), (6, ov_i x6), (7, ov_i (h11 80 x6))]) (st2 := [ov_i 1, ov_i (x5 - 1), ov_r 81]) (pc2 := 87) b_138_86_1 rfl rfl ?_
                    refine ov_goto (tgt := 91) d_138_87 (by decide) ?_
                    refine ov_iast d_138_91 (zb_81 I12) (zs_81 I12) (by omega) ?_
                    have I72 := ua_81 (k := (x5 - 1)) (x := 1) I12 (by omega) (hw 81 (by decide +kernel))
                    refine ov_goto (tgt := 191) d_138_92 (by decide) ?_
                    refine ov_blk (ls2 := [(0, ov_r 70), (1, ov_i rule), (2, ov_i c), (3, ov_i ow), (4, ov_i nw), (5, ov_i x5), (6, ov_i (x6 + 1)), (7, ov_i (h11 80 x6))]) (st2 := []) (pc2 := 194) b_138_191_1 rfl rfl ?_
                    refine ov_goto (tgt := 35) d_138_194 (by decide) ?_
                    refine ov_sub (ls2 := [(0, ov_r 70), (1, ov_i rule), (2, ov_i c), (3, ov_i ow), (4, ov_i nw), (5, ov_i x5), (6, ov_i (x6 + 1))]) (List.Sublist.subset (by repeat (first | exact List.Sublist.refl _ | apply List.Sublist.cons_cons | apply List.Sublist.cons))) ?_
                    exact ih7 x5 (x6 + 1) _ _ I72 (by show 0 ≤ x5 ∧ x5 ≤ 64 ∧ 0 ≤ (x6 + 1) ∧ (x6 + 1) ≤ 1000 ∧ 0 ≤ rule ∧ rule ≤ 3 ∧ (h11 36 7) = (h 36 7) ∧ (h11 1 1) = (h 1 1) ∧ (h11 90 2) = (h 90 2) ∧ (h11 0 10) = (h 0 10) ∧ (h11 0 11) = (h 0 11) ∧ (h11 0 12) = (h 0 12) ∧ (h11 0 13) = (h 0 13) ∧ (h11 3 1) = (h 3 1) ∧ (h11 36 8) = (h 36 8) ∧ (h11 46 3) = (h 46 3) ∧ (h11 46 4) = (h 46 4) ∧ (h11 49 4) = (h 49 4) ∧ (h11 49 5) = (h 49 5) ∧ (h11 64 0) = (h 64 0) ∧ (h11 76 0) = (h 76 0); omega) (by omega)
        exact L9 1001 0 (h 79 (rule - 1)) _ _ I (by show 0 ≤ 0 ∧ 0 ≤ 64 ∧ 0 ≤ (h 79 (rule - 1)) ∧ (h 79 (rule - 1)) ≤ 1000 ∧ 0 ≤ rule ∧ rule ≤ 3 ∧ (h 36 7) = (h 36 7) ∧ (h 1 1) = (h 1 1) ∧ (h 90 2) = (h 90 2) ∧ (h 0 10) = (h 0 10) ∧ (h 0 11) = (h 0 11) ∧ (h 0 12) = (h 0 12) ∧ (h 0 13) = (h 0 13) ∧ (h 3 1) = (h 3 1) ∧ (h 36 8) = (h 36 8) ∧ (h 46 3) = (h 46 3) ∧ (h 46 4) = (h 46 4) ∧ (h 49 4) = (h 49 4) ∧ (h 49 5) = (h 49 5) ∧ (h 64 0) = (h 64 0) ∧ (h 76 0) = (h 76 0); omega) (by omega)
      · skip
        refine ov_blk (ls2 := [(0, ov_r 70), (1, ov_i rule), (2, ov_i c), (3, ov_i ow), (4, ov_i nw), (5, ov_i 0)]) (st2 := [ov_i 0]) (pc2 := 22) b_138_21_1 rfl rfl ?_
        refine ov_goto (tgt := 33) d_138_22 (by decide) ?_
        refine ov_blk (ls2 := [(0, ov_r 70), (1, ov_i rule), (2, ov_i c), (3, ov_i ow), (4, ov_i nw), (5, ov_i 0), (6, ov_i 0)]) (st2 := []) (pc2 := 35) b_138_33_1 rfl rfl ?_
        have L76 : ∀ (n73 : Nat) (x5_ : Int) (x6_ : Int) (z77 : ov_Z) (h78 : ov_H) (I79 : ov_I F z77 h78) (q75 : 0 ≤ x5_ ∧ x5_ ≤ 64 ∧ 0 ≤ x6_ ∧ x6_ ≤ 1000 ∧ 0 ≤ rule ∧ rule ≤ 3 ∧ (h78 36 7) = (h 36 7) ∧ (h78 1 1) = (h 1 1) ∧ (h78 90 2) = (h 90 2) ∧ (h78 0 10) = (h 0 10) ∧ (h78 0 11) = (h 0 11) ∧ (h78 0 12) = (h 0 12) ∧ (h78 0 13) = (h 0 13) ∧ (h78 3 1) = (h 3 1) ∧ (h78 36 8) = (h 36 8) ∧ (h78 46 3) = (h 46 3) ∧ (h78 46 4) = (h 46 4) ∧ (h78 49 4) = (h 49 4) ∧ (h78 49 5) = (h 49 5) ∧ (h78 64 0) = (h 64 0) ∧ (h78 76 0) = (h 76 0)), 1000 - x6_ < (n73 : Int) → ov_R u d ov_m138 35 [(0, ov_r 70), (1, ov_i rule), (2, ov_i c), (3, ov_i ow), (4, ov_i nw), (5, ov_i x5_), (6, ov_i x6_)] [] z77 h78 (P_Town_ruleSaysOver_70 F z h rule c ow nw) := by
          intro n73
          induction n73 with
          | zero =>
            intro x5_ x6_ z77 h78 I79 q75 hn80
            exact absurd hn80 (by omega)
          | succ n73 ih74 =>
            intro x5_ x6_ z77 h78 I79 q75 hn80
            refine ov_blk (ls2 := [(0, ov_r 70), (1, ov_i rule), (2, ov_i c), (3, ov_i ow), (4, ov_i nw), (5, ov_i x5_), (6, ov_i x6_)]) (st2 := [ov_r 70, ov_i x6_]) (pc2 := 38) b_138_35_2 rfl rfl ?_
            refine ov_getf (v := ov_r 79) d_138_38 fl_Town_37 (zb_70 I79) (zs_70 I79) (congrArg ov_r (rg_70_14 I79)) ?_
            refine ov_blk (ls2 := [(0, ov_r 70), (1, ov_i rule), (2, ov_i c), (3, ov_i ow), (4, ov_i nw), (5, ov_i x5_), (6, ov_i x6_)]) (st2 := [ov_i rule, ov_r 79, ov_i x6_]) (pc2 := 42) b_138_41_1 rfl rfl ?_
            refine ov_iald d_138_42 (zb_79 I79) (zs_79 I79) (by omega) ?_
            have g81 := ra_79 I79 rule
            refine ov_icge (tgt := 197) d_138_43 (by decide) (by omega) (by omega) (fun c82 => ?_) (fun c82 => ?_)
            · skip
              refine ov_blk (ls2 := [(0, ov_r 70), (1, ov_i rule), (2, ov_i c), (3, ov_i ow), (4, ov_i nw), (5, ov_i x5_), (6, ov_i x6_)]) (st2 := [ov_r 70]) (pc2 := 198) b_138_197_1 rfl rfl ?_
              refine ov_getf (v := ov_r 81) d_138_198 fl_Town_43 (zb_70 I79) (zs_70 I79) (congrArg ov_r (rg_70_17 I79)) ?_
              refine ov_blk (ls2 := [(0, ov_r 70), (1, ov_i rule), (2, ov_i c), (3, ov_i ow), (4, ov_i nw), (5, ov_i x5_), (6, ov_i x6_)]) (st2 := [ov_i 0, ov_r 81]) (pc2 := 202) b_138_201_1 rfl rfl ?_
              refine ov_iald d_138_202 (zb_81 I79) (zs_81 I79) (by omega) ?_
              have g83 := ra_81 I79 0
              refine ov_ifeq (tgt := 210) d_138_203 (by decide) (by omega) (fun c84 => ?_) (fun c84 => ?_)
              · skip
                refine ov_blk (ls2 := [(0, ov_r 70), (1, ov_i rule), (2, ov_i c), (3, ov_i ow), (4, ov_i nw), (5, ov_i x5_), (6, ov_i x6_)]) (st2 := [ov_i 0]) (pc2 := 211) b_138_210_1 rfl rfl ?_
                exact ov_retz (st := []) d_138_211 rfl (by omega) ⟨_, rfl, I79, (by show (0 = 0 ∨ 0 = 1) ∧ (h78 36 7) = (h 36 7) ∧ (h78 1 1) = (h 1 1) ∧ (h78 90 2) = (h 90 2) ∧ (h78 0 10) = (h 0 10) ∧ (h78 0 11) = (h 0 11) ∧ (h78 0 12) = (h 0 12) ∧ (h78 0 13) = (h 0 13) ∧ (h78 3 1) = (h 3 1) ∧ (h78 36 8) = (h 36 8) ∧ (h78 46 3) = (h 46 3) ∧ (h78 46 4) = (h 46 4) ∧ (h78 49 4) = (h 49 4) ∧ (h78 49 5) = (h 49 5) ∧ (h78 64 0) = (h 64 0) ∧ (h78 76 0) = (h 76 0); omega)⟩
              · skip
                refine ov_blk (ls2 := [(0, ov_r 70), (1, ov_i rule), (2, ov_i c), (3, ov_i ow), (4, ov_i nw), (5, ov_i x5_), (6, ov_i x6_)]) (st2 := [ov_i 1]) (pc2 := 207) b_138_206_1 rfl rfl ?_
                refine ov_goto (tgt := 211) d_138_207 (by decide) ?_
                exact ov_retz (st := []) d_138_211 rfl (by omega) ⟨_, rfl, I79, (by show (1 = 0 ∨ 1 = 1) ∧ (h78 36 7) = (h 36 7) ∧ (h78 1 1) = (h 1 1) ∧ (h78 90 2) = (h 90 2) ∧ (h78 0 10) = (h 0 10) ∧ (h78 0 11) = (h 0 11) ∧ (h78 0 12) = (h 0 12) ∧ (h78 0 13) = (h 0 13) ∧ (h78 3 1) = (h 3 1) ∧ (h78 36 8) = (h 36 8) ∧ (h78 46 3) = (h 46 3) ∧ (h78 46 4) = (h 46 4) ∧ (h78 49 4) = (h 49 4) ∧ (h78 49 5) = (h 49 5) ∧ (h78 64 0) = (h 64 0) ∧ (h78 76 0) = (h 76 0); omega)⟩
            · skip
              refine ov_blk (ls2 := [(0, ov_r 70), (1, ov_i rule), (2, ov_i c), (3, ov_i ow), (4, ov_i nw), (5, ov_i x5_), (6, ov_i x6_)]) (st2 := [ov_r 70]) (pc2 := 47) b_138_46_1 rfl rfl ?_
              refine ov_getf (v := ov_r 80) d_138_47 fl_Town_40 (zb_70 I79) (zs_70 I79) (congrArg ov_r (rg_70_15 I79)) ?_
              refine ov_blk (ls2 := [(0, ov_r 70), (1, ov_i rule), (2, ov_i c), (3, ov_i ow), (4, ov_i nw), (5, ov_i x5_), (6, ov_i x6_)]) (st2 := [ov_i x6_, ov_r 80]) (pc2 := 52) b_138_50_1 rfl rfl ?_
              refine ov_iald d_138_52 (zb_80 I79) (zs_80 I79) (by omega) ?_
              have g85 := ra_80 I79 x6_
              refine ov_blk (ls2 := [(0, ov_r 70), (1, ov_i rule), (2, ov_i c), (3, ov_i ow), (4, ov_i nw), (5, ov_i x5_), (6, ov_i x6_), (7, ov_i (h78 80 x6_))]) (st2 := [ov_i (h78 80 x6_)]) (pc2 := 57) b_138_53_2 rfl rfl ?_
              refine ov_ifne (tgt := 95) d_138_57 (by decide) (by omega) (fun c86 => ?_) (fun c86 => ?_)
              · skip
                refine ov_blk (ls2 := [(0, ov_r 70), (1, ov_i rule), (2, ov_i c), (3, ov_i ow), (4, ov_i nw), (5, ov_i x5_), (6, ov_i x6_), (7, ov_i (h78 80 x6_))]) (st2 := [ov_i 8, ov_i (h78 80 x6_)]) (pc2 := 99) b_138_95_2 rfl rfl ?_
                refine ov_iclt (tgt := 152) d_138_99 (by decide) (by omega) (by omega) (fun c87 => ?_) (fun c87 => ?_)
                · skip
                  refine ov_blk (ls2 := [(0, ov_r 70), (1, ov_i rule), (2, ov_i c), (3, ov_i ow), (4, ov_i nw), (5, ov_i x5_), (6, ov_i x6_), (7, ov_i (h78 80 x6_))]) (st2 := [ov_i 2, ov_i x5_]) (pc2 := 155) b_138_152_2 rfl rfl ?_
                  refine ov_iclt (tgt := 191) d_138_155 (by decide) (by omega) (by omega) (fun c88 => ?_) (fun c88 => ?_)
                  · skip
                    refine ov_blk (ls2 := [(0, ov_r 70), (1, ov_i rule), (2, ov_i c), (3, ov_i ow), (4, ov_i nw), (5, ov_i x5_), (6, ov_i (x6_ + 1)), (7, ov_i (h78 80 x6_))]) (st2 := []) (pc2 := 194) b_138_191_1 rfl rfl ?_
                    refine ov_goto (tgt := 35) d_138_194 (by decide) ?_
                    refine ov_sub (ls2 := [(0, ov_r 70), (1, ov_i rule), (2, ov_i c), (3, ov_i ow), (4, ov_i nw), (5, ov_i x5_), (6, ov_i (x6_ + 1))]) (List.Sublist.subset (by repeat (first | exact List.Sublist.refl _ | apply List.Sublist.cons_cons | apply List.Sublist.cons))) ?_
                    exact ih74 x5_ (x6_ + 1) _ _ I79 (by show 0 ≤ x5_ ∧ x5_ ≤ 64 ∧ 0 ≤ (x6_ + 1) ∧ (x6_ + 1) ≤ 1000 ∧ 0 ≤ rule ∧ rule ≤ 3 ∧ (h78 36 7) = (h 36 7) ∧ (h78 1 1) = (h 1 1) ∧ (h78 90 2) = (h 90 2) ∧ (h78 0 10) = (h 0 10) ∧ (h78 0 11) = (h 0 11) ∧ (h78 0 12) = (h 0 12) ∧ (h78 0 13) = (h 0 13) ∧ (h78 3 1) = (h 3 1) ∧ (h78 36 8) = (h 36 8) ∧ (h78 46 3) = (h 46 3) ∧ (h78 46 4) = (h 46 4) ∧ (h78 49 4) = (h 49 4) ∧ (h78 49 5) = (h 49 5) ∧ (h78 64 0) = (h 64 0) ∧ (h78 76 0) = (h 76 0); omega) (by omega)
                  · skip
                    refine ov_blk (ls2 := [(0, ov_r 70), (1, ov_i rule), (2, ov_i c), (3, ov_i ow), (4, ov_i nw), (5, ov_i (x5_ + (-1))), (6, ov_i x6_), (7, ov_i (h78 80 x6_))]) (st2 := [ov_r 70]) (pc2 := 162) b_138_158_2 rfl rfl ?_
                    refine ov_getf (v := ov_r 81) d_138_162 fl_Town_43 (zb_70 I79) (zs_70 I79) (congrArg ov_r (rg_70_17 I79)) ?_
                    refine ov_blk (ls2 := [(0, ov_r 70), (1, ov_i rule), (2, ov_i c), (3, ov_i ow), (4, ov_i nw), (5, ov_i (x5_ + (-1))), (6, ov_i x6_), (7, ov_i (h78 80 x6_))]) (st2 := [ov_r 70, ov_i (h78 80 x6_), ov_i ((x5_ + (-1)) - 1), ov_r 81]) (pc2 := 172) b_138_165_5 rfl rfl ?_
                    refine ov_getf (v := ov_r 81) d_138_172 fl_Town_43 (zb_70 I79) (zs_70 I79) (congrArg ov_r (rg_70_17 I79)) ?_
                    refine ov_blk (ls2 := [(0, ov_r 70), (1, ov_i rule), (2, ov_i c), (3, ov_i ow), (4, ov_i nw), (5, ov_i (x5_ + (-1))), (6, ov_i x6_), (7, ov_i (h78 80 x6_))]) (st2 := [ov_i ((x5_ + (-1)) - 1), ov_r 81, ov_i (h78 80 x6_), ov_i ((x5_ + (-1)) - 1), ov_r 81]) (pc2 := 179) b_138_175_3 rfl rfl ?_
                    refine ov_iald d_138_179 (zb_81 I79) (zs_81 I79) (by omega) ?_
                    have g89 := ra_81 I79 ((x5_ + (-1)) - 1)
                    refine ov_blk (ls2 := [(0, ov_r 70), (1, ov_i rule), (2, ov_i c), (3, ov_i ow), (4, ov_i nw), (5, ov_i (x5_ + (-1))), (6, ov_i x6_), (7, ov_i (h78 80 x6_))]) (st2 := [ov_r 70, ov_i (h78 81 ((x5_ + (-1)) - 1)), ov_i (h78 80 x6_), ov_i ((x5_ + (-1)) - 1), ov_r 81]) (pc2 := 181) b_138_180_1 rfl rfl ?_
                    refine ov_getf (v := ov_r 81) d_138_181 fl_Town_43 (zb_70 I79) (zs_70 I79) (congrArg ov_r (rg_70_17 I79)) ?_
                    refine ov_blk (ls2 := [(0, ov_r 70), (1, ov_i rule), (2, ov_i c), (3, ov_i ow), (4, ov_i nw), (5, ov_i (x5_ + (-1))), (6, ov_i x6_), (7, ov_i (h78 80 x6_))]) (st2 := [ov_i (x5_ + (-1)), ov_r 81, ov_i (h78 81 ((x5_ + (-1)) - 1)), ov_i (h78 80 x6_), ov_i ((x5_ + (-1)) - 1), ov_r 81]) (pc2 := 186) b_138_184_1 rfl rfl ?_
                    refine ov_iald d_138_186 (zb_81 I79) (zs_81 I79) (by omega) ?_
                    have g90 := ra_81 I79 (x5_ + (-1))
                    refine ov_cS (as := [ov_i (h78 80 x6_), ov_i (h78 81 ((x5_ + (-1)) - 1)), ov_i (h78 81 (x5_ + (-1)))]) (st := [ov_i ((x5_ + (-1)) - 1), ov_r 81]) (d2 := d - 1) d_138_187 lk_Town_109 rfl (Nat.le_of_ble_eq_true rfl) (by omega) (c_Town_joined (d - 1) (by omega) U I79 (h78 80 x6_) (h78 81 ((x5_ + (-1)) - 1)) (h78 81 (x5_ + (-1))) (by omega) (by omega) (by omega)) ?_
                    rintro _ _ _ ⟨v92, rfl, rfl, rfl, f91⟩
                    show ov_R u d ov_m138 190 [(0, ov_r 70), (1, ov_i rule), (2, ov_i c), (3, ov_i ow), (4, ov_i nw), (5, ov_i (x5_ + (-1))), (6, ov_i x6_), (7, ov_i (h78 80 x6_))] [ov_i v92, ov_i ((x5_ + (-1)) - 1), ov_r 81] z77 h78 (P_Town_ruleSaysOver_70 F z h rule c ow nw)
                    have f93 : -2147483648 ≤ v92 ∧ v92 ≤ 2147483647 := f91
                    clear f91
                    refine ov_iast d_138_190 (zb_81 I79) (zs_81 I79) (by omega) ?_
                    have I94 := ua_81 (k := ((x5_ + (-1)) - 1)) (x := v92) I79 (by omega) (hw 81 (by decide +kernel))
                    refine ov_blk (ls2 := [(0, ov_r 70), (1, ov_i rule), (2, ov_i c), (3, ov_i ow), (4, ov_i nw), (5, ov_i (x5_ + (-1))), (6, ov_i (x6_ + 1)), (7, ov_i (h78 80 x6_))]) (st2 := []) (pc2 := 194) b_138_191_1 rfl rfl ?_
                    refine ov_goto (tgt := 35) d_138_194 (by decide) ?_
                    refine ov_sub (ls2 := [(0, ov_r 70), (1, ov_i rule), (2, ov_i c), (3, ov_i ow), (4, ov_i nw), (5, ov_i (x5_ + (-1))), (6, ov_i (x6_ + 1))]) (List.Sublist.subset (by repeat (first | exact List.Sublist.refl _ | apply List.Sublist.cons_cons | apply List.Sublist.cons))) ?_
                    exact ih74 (x5_ + (-1)) (x6_ + 1) _ _ I94 (by show 0 ≤ (x5_ + (-1)) ∧ (x5_ + (-1)) ≤ 64 ∧ 0 ≤ (x6_ + 1) ∧ (x6_ + 1) ≤ 1000 ∧ 0 ≤ rule ∧ rule ≤ 3 ∧ (h78 36 7) = (h 36 7) ∧ (h78 1 1) = (h 1 1) ∧ (h78 90 2) = (h 90 2) ∧ (h78 0 10) = (h 0 10) ∧ (h78 0 11) = (h 0 11) ∧ (h78 0 12) = (h 0 12) ∧ (h78 0 13) = (h 0 13) ∧ (h78 3 1) = (h 3 1) ∧ (h78 36 8) = (h 36 8) ∧ (h78 46 3) = (h 46 3) ∧ (h78 46 4) = (h 46 4) ∧ (h78 49 4) = (h 49 4) ∧ (h78 49 5) = (h 49 5) ∧ (h78 64 0) = (h 64 0) ∧ (h78 76 0) = (h 76 0); omega) (by omega)
                · skip
                  refine ov_blk (ls2 := [(0, ov_r 70), (1, ov_i rule), (2, ov_i c), (3, ov_i ow), (4, ov_i nw), (5, ov_i x5_), (6, ov_i x6_), (7, ov_i (h78 80 x6_))]) (st2 := [ov_i 64, ov_i x5_]) (pc2 := 106) b_138_102_2 rfl rfl ?_
                  refine ov_icge (tgt := 152) d_138_106 (by decide) (by omega) (by omega) (fun c95 => ?_) (fun c95 => ?_)
                  · skip
                    refine ov_blk (ls2 := [(0, ov_r 70), (1, ov_i rule), (2, ov_i c), (3, ov_i ow), (4, ov_i nw), (5, ov_i x5_), (6, ov_i x6_), (7, ov_i (h78 80 x6_))]) (st2 := [ov_i 2, ov_i x5_]) (pc2 := 155) b_138_152_2 rfl rfl ?_
                    refine ov_iclt (tgt := 191) d_138_155 (by decide) (by omega) (by omega) (fun c96 => ?_) (fun c96 => ?_)
                    · skip
                      refine ov_blk (ls2 := [(0, ov_r 70), (1, ov_i rule), (2, ov_i c), (3, ov_i ow), (4, ov_i nw), (5, ov_i x5_), (6, ov_i (x6_ + 1)), (7, ov_i (h78 80 x6_))]) (st2 := []) (pc2 := 194) b_138_191_1 rfl rfl ?_
                      refine ov_goto (tgt := 35) d_138_194 (by decide) ?_
                      refine ov_sub (ls2 := [(0, ov_r 70), (1, ov_i rule), (2, ov_i c), (3, ov_i ow), (4, ov_i nw), (5, ov_i x5_), (6, ov_i (x6_ + 1))]) (List.Sublist.subset (by repeat (first | exact List.Sublist.refl _ | apply List.Sublist.cons_cons | apply List.Sublist.cons))) ?_
                      exact ih74 x5_ (x6_ + 1) _ _ I79 (by show 0 ≤ x5_ ∧ x5_ ≤ 64 ∧ 0 ≤ (x6_ + 1) ∧ (x6_ + 1) ≤ 1000 ∧ 0 ≤ rule ∧ rule ≤ 3 ∧ (h78 36 7) = (h 36 7) ∧ (h78 1 1) = (h 1 1) ∧ (h78 90 2) = (h 90 2) ∧ (h78 0 10) = (h 0 10) ∧ (h78 0 11) = (h 0 11) ∧ (h78 0 12) = (h 0 12) ∧ (h78 0 13) = (h 0 13) ∧ (h78 3 1) = (h 3 1) ∧ (h78 36 8) = (h 36 8) ∧ (h78 46 3) = (h 46 3) ∧ (h78 46 4) = (h 46 4) ∧ (h78 49 4) = (h 49 4) ∧ (h78 49 5) = (h 49 5) ∧ (h78 64 0) = (h 64 0) ∧ (h78 76 0) = (h 76 0); omega) (by omega)
                    · skip
                      refine ov_blk (ls2 := [(0, ov_r 70), (1, ov_i rule), (2, ov_i c), (3, ov_i ow), (4, ov_i nw), (5, ov_i (x5_ + (-1))), (6, ov_i x6_), (7, ov_i (h78 80 x6_))]) (st2 := [ov_r 70]) (pc2 := 162) b_138_158_2 rfl rfl ?_
                      refine ov_getf (v := ov_r 81) d_138_162 fl_Town_43 (zb_70 I79) (zs_70 I79) (congrArg ov_r (rg_70_17 I79)) ?_
                      refine ov_blk (ls2 := [(0, ov_r 70), (1, ov_i rule), (2, ov_i c), (3, ov_i ow), (4, ov_i nw), (5, ov_i (x5_ + (-1))), (6, ov_i x6_), (7, ov_i (h78 80 x6_))]) (st2 := [ov_r 70, ov_i (h78 80 x6_), ov_i ((x5_ + (-1)) - 1), ov_r 81]) (pc2 := 172) b_138_165_5 rfl rfl ?_
                      refine ov_getf (v := ov_r 81) d_138_172 fl_Town_43 (zb_70 I79) (zs_70 I79) (congrArg ov_r (rg_70_17 I79)) ?_
                      refine ov_blk (ls2 := [(0, ov_r 70), (1, ov_i rule), (2, ov_i c), (3, ov_i ow), (4, ov_i nw), (5, ov_i (x5_ + (-1))), (6, ov_i x6_), (7, ov_i (h78 80 x6_))]) (st2 := [ov_i ((x5_ + (-1)) - 1), ov_r 81, ov_i (h78 80 x6_), ov_i ((x5_ + (-1)) - 1), ov_r 81]) (pc2 := 179) b_138_175_3 rfl rfl ?_
                      refine ov_iald d_138_179 (zb_81 I79) (zs_81 I79) (by omega) ?_
                      have g97 := ra_81 I79 ((x5_ + (-1)) - 1)
                      refine ov_blk (ls2 := [(0, ov_r 70), (1, ov_i rule), (2, ov_i c), (3, ov_i ow), (4, ov_i nw), (5, ov_i (x5_ + (-1))), (6, ov_i x6_), (7, ov_i (h78 80 x6_))]) (st2 := [ov_r 70, ov_i (h78 81 ((x5_ + (-1)) - 1)), ov_i (h78 80 x6_), ov_i ((x5_ + (-1)) - 1), ov_r 81]) (pc2 := 181) b_138_180_1 rfl rfl ?_
                      refine ov_getf (v := ov_r 81) d_138_181 fl_Town_43 (zb_70 I79) (zs_70 I79) (congrArg ov_r (rg_70_17 I79)) ?_
                      refine ov_blk (ls2 := [(0, ov_r 70), (1, ov_i rule), (2, ov_i c), (3, ov_i ow), (4, ov_i nw), (5, ov_i (x5_ + (-1))), (6, ov_i x6_), (7, ov_i (h78 80 x6_))]) (st2 := [ov_i (x5_ + (-1)), ov_r 81, ov_i (h78 81 ((x5_ + (-1)) - 1)), ov_i (h78 80 x6_), ov_i ((x5_ + (-1)) - 1), ov_r 81]) (pc2 := 186) b_138_184_1 rfl rfl ?_
                      refine ov_iald d_138_186 (zb_81 I79) (zs_81 I79) (by omega) ?_
                      have g98 := ra_81 I79 (x5_ + (-1))
                      refine ov_cS (as := [ov_i (h78 80 x6_), ov_i (h78 81 ((x5_ + (-1)) - 1)), ov_i (h78 81 (x5_ + (-1)))]) (st := [ov_i ((x5_ + (-1)) - 1), ov_r 81]) (d2 := d - 1) d_138_187 lk_Town_109 rfl (Nat.le_of_ble_eq_true rfl) (by omega) (c_Town_joined (d - 1) (by omega) U I79 (h78 80 x6_) (h78 81 ((x5_ + (-1)) - 1)) (h78 81 (x5_ + (-1))) (by omega) (by omega) (by omega)) ?_
                      rintro _ _ _ ⟨v100, rfl, rfl, rfl, f99⟩
                      show ov_R u d ov_m138 190 [(0, ov_r 70), (1, ov_i rule), (2, ov_i c), (3, ov_i ow), (4, ov_i nw), (5, ov_i (x5_ + (-1))), (6, ov_i x6_), (7, ov_i (h78 80 x6_))] [ov_i v100, ov_i ((x5_ + (-1)) - 1), ov_r 81] z77 h78 (P_Town_ruleSaysOver_70 F z h rule c ow nw)
                      have f101 : -2147483648 ≤ v100 ∧ v100 ≤ 2147483647 := f99
                      clear f99
                      refine ov_iast d_138_190 (zb_81 I79) (zs_81 I79) (by omega) ?_
                      have I102 := ua_81 (k := ((x5_ + (-1)) - 1)) (x := v100) I79 (by omega) (hw 81 (by decide +kernel))
                      refine ov_blk (ls2 := [(0, ov_r 70), (1, ov_i rule), (2, ov_i c), (3, ov_i ow), (4, ov_i nw), (5, ov_i (x5_ + (-1))), (6, ov_i (x6_ + 1)), (7, ov_i (h78 80 x6_))]) (st2 := []) (pc2 := 194) b_138_191_1 rfl rfl ?_
                      refine ov_goto (tgt := 35) d_138_194 (by decide) ?_
                      refine ov_sub (ls2 := [(0, ov_r 70), (1, ov_i rule), (2, ov_i c), (3, ov_i ow), (4, ov_i nw), (5, ov_i (x5_ + (-1))), (6, ov_i (x6_ + 1))]) (List.Sublist.subset (by repeat (first | exact List.Sublist.refl _ | apply List.Sublist.cons_cons | apply List.Sublist.cons))) ?_
                      exact ih74 (x5_ + (-1)) (x6_ + 1) _ _ I102 (by show 0 ≤ (x5_ + (-1)) ∧ (x5_ + (-1)) ≤ 64 ∧ 0 ≤ (x6_ + 1) ∧ (x6_ + 1) ≤ 1000 ∧ 0 ≤ rule ∧ rule ≤ 3 ∧ (h78 36 7) = (h 36 7) ∧ (h78 1 1) = (h 1 1) ∧ (h78 90 2) = (h 90 2) ∧ (h78 0 10) = (h 0 10) ∧ (h78 0 11) = (h 0 11) ∧ (h78 0 12) = (h 0 12) ∧ (h78 0 13) = (h 0 13) ∧ (h78 3 1) = (h 3 1) ∧ (h78 36 8) = (h 36 8) ∧ (h78 46 3) = (h 46 3) ∧ (h78 46 4) = (h 46 4) ∧ (h78 49 4) = (h 49 4) ∧ (h78 49 5) = (h 49 5) ∧ (h78 64 0) = (h 64 0) ∧ (h78 76 0) = (h 76 0); omega) (by omega)
                  · skip
                    refine ov_blk (ls2 := [(0, ov_r 70), (1, ov_i rule), (2, ov_i c), (3, ov_i ow), (4, ov_i nw), (5, ov_i x5_), (6, ov_i x6_), (7, ov_i (h78 80 x6_))]) (st2 := [ov_r 70]) (pc2 := 110) b_138_109_1 rfl rfl ?_
                    refine ov_getf (v := ov_r 81) d_138_110 fl_Town_43 (zb_70 I79) (zs_70 I79) (congrArg ov_r (rg_70_17 I79)) ?_
                    refine ov_blk (ls2 := [(0, ov_r 70), (1, ov_i rule), (2, ov_i c), (3, ov_i ow), (4, ov_i nw), (5, ov_i x5_), (6, ov_i x6_), (7, ov_i (h78 80 x6_))]) (st2 := [ov_i 8, ov_i (h78 80 x6_), ov_i x5_, ov_r 81]) (pc2 := 119) b_138_113_3 rfl rfl ?_
                    refine ov_icne (tgt := 126) d_138_119 (by decide) (by omega) (by omega) (fun c103 => ?_) (fun c103 => ?_)
                    · skip
                      refine ov_blk (ls2 := [(0, ov_r 70), (1, ov_i rule), (2, ov_i c), (3, ov_i ow), (4, ov_i nw), (5, ov_i x5_), (6, ov_i x6_), (7, ov_i (h78 80 x6_))]) (st2 := [ov_i 9, ov_i (h78 80 x6_), ov_i x5_, ov_r 81]) (pc2 := 130) b_138_126_2 rfl rfl ?_
                      refine ov_icne (tgt := 138) d_138_130 (by decide) (by omega) (by omega) (fun c104 => ?_) (fun c104 => ?_)
                      · skip
                        refine ov_blk (ls2 := [(0, ov_r 70), (1, ov_i rule), (2, ov_i c), (3, ov_i ow), (4, ov_i nw), (5, ov_i x5_), (6, ov_i x6_), (7, ov_i (h78 80 x6_))]) (st2 := [ov_i c, ov_i (h78 80 x6_), ov_r 70, ov_i x5_, ov_r 81]) (pc2 := 142) b_138_138_3 rfl rfl ?_
                        refine ov_cV (as := [ov_i (h78 80 x6_), ov_i c]) (st := [ov_i x5_, ov_r 81]) (d2 := d - 1) d_138_142 lk_Town_106 rfl (Nat.le_of_ble_eq_true rfl) (c := 9) (zb_70 I79) (zs_70 I79) ⟨by decide, rfl⟩ (by omega) (c_Town_placeOrNumber_70 (d - 1) (by omega) U I79 (h78 80 x6_) c (by omega) (by omega) (by omega) (by omega)) ?_
                        rintro _ _ _ ⟨v106, rfl, rfl, rfl, f105⟩
                        show ov_R u d ov_m138 145 [(0, ov_r 70), (1, ov_i rule), (2, ov_i c), (3, ov_i ow), (4, ov_i nw), (5, ov_i x5_), (6, ov_i x6_), (7, ov_i (h78 80 x6_))] [ov_i v106, ov_i x5_, ov_r 81] z77 h78 (P_Town_ruleSaysOver_70 F z h rule c ow nw)
                        have f107 : -2147483648 ≤ v106 ∧ v106 ≤ 2147483647 := f105
                        clear f105
                        refine ov_iast d_138_145 (zb_81 I79) (zs_81 I79) (by omega) ?_
                        have I108 := ua_81 (k := x5_) (x := v106) I79 (by omega) (hw 81 (by decide +kernel))
                        refine ov_blk (ls2 := [(0, ov_r 70), (1, ov_i rule), (2, ov_i c), (3, ov_i ow), (4, ov_i nw), (5, ov_i (x5_ + 1)), (6, ov_i x6_), (7, ov_i (h78 80 x6_))]) (st2 := []) (pc2 := 149) b_138_146_1 rfl rfl ?_
                        refine ov_goto (tgt := 191) d_138_149 (by decide) ?_
                        refine ov_blk (ls2 := [(0, ov_r 70), (1, ov_i rule), (2, ov_i c), (3, ov_i ow), (4, ov_i nw), (5, ov_i (x5_ + 1)), (6, ov_i (x6_ + 1)), (7, ov_i (h78 80 x6_))]) (st2 := []) (pc2 := 194) b_138_191_1 rfl rfl ?_
                        refine ov_goto (tgt := 35) d_138_194 (by decide) ?_
                        refine ov_sub (ls2 := [(0, ov_r 70), (1, ov_i rule), (2, ov_i c), (3, ov_i ow), (4, ov_i nw), (5, ov_i (x5_ + 1)), (6, ov_i (x6_ + 1))]) (List.Sublist.subset (by repeat (first | exact List.Sublist.refl _ | apply List.Sublist.cons_cons | apply List.Sublist.cons))) ?_
                        exact ih74 (x5_ + 1) (x6_ + 1) _ _ I108 (by show 0 ≤ (x5_ + 1) ∧ (x5_ + 1) ≤ 64 ∧ 0 ≤ (x6_ + 1) ∧ (x6_ + 1) ≤ 1000 ∧ 0 ≤ rule ∧ rule ≤ 3 ∧ (h78 36 7) = (h 36 7) ∧ (h78 1 1) = (h 1 1) ∧ (h78 90 2) = (h 90 2) ∧ (h78 0 10) = (h 0 10) ∧ (h78 0 11) = (h 0 11) ∧ (h78 0 12) = (h 0 12) ∧ (h78 0 13) = (h 0 13) ∧ (h78 3 1) = (h 3 1) ∧ (h78 36 8) = (h 36 8) ∧ (h78 46 3) = (h 46 3) ∧ (h78 46 4) = (h 46 4) ∧ (h78 49 4) = (h 49 4) ∧ (h78 49 5) = (h 49 5) ∧ (h78 64 0) = (h 64 0) ∧ (h78 76 0) = (h 76 0); omega) (by omega)
                      · skip
                        refine ov_blk (ls2 := [(0, ov_r 70), (1, ov_i rule), (2, ov_i c), (3, ov_i ow), (4, ov_i nw), (5, ov_i x5_), (6, ov_i x6_), (7, ov_i (h78 80 x6_))]) (st2 := [ov_i nw, ov_i x5_, ov_r 81]) (pc2 := 135) b_138_133_1 rfl rfl ?_
                        refine ov_goto (tgt := 145) d_138_135 (by decide) ?_
                        refine ov_iast d_138_145 (zb_81 I79) (zs_81 I79) (by omega) ?_
                        have I109 := ua_81 (k := x5_) (x := nw) I79 (by omega) (hw 81 (by decide +kernel))
                        refine ov_blk (ls2 := [(0, ov_r 70), (1, ov_i rule), (2, ov_i c), (3, ov_i ow), (4, ov_i nw), (5, ov_i (x5_ + 1)), (6, ov_i x6_), (7, ov_i (h78 80 x6_))]) (st2 := []) (pc2 := 149) b_138_146_1 rfl rfl ?_
                        refine ov_goto (tgt := 191) d_138_149 (by decide) ?_
                        refine ov_blk (ls2 := [(0, ov_r 70), (1, ov_i rule), (2, ov_i c), (3, ov_i ow), (4, ov_i nw), (5, ov_i (x5_ + 1)), (6, ov_i (x6_ + 1)), (7, ov_i (h78 80 x6_))]) (st2 := []) (pc2 := 194) b_138_191_1 rfl rfl ?_
                        refine ov_goto (tgt := 35) d_138_194 (by decide) ?_
                        refine ov_sub (ls2 := [(0, ov_r 70), (1, ov_i rule), (2, ov_i c), (3, ov_i ow), (4, ov_i nw), (5, ov_i (x5_ + 1)), (6, ov_i (x6_ + 1))]) (List.Sublist.subset (by repeat (first | exact List.Sublist.refl _ | apply List.Sublist.cons_cons | apply List.Sublist.cons))) ?_
                        exact ih74 (x5_ + 1) (x6_ + 1) _ _ I109 (by show 0 ≤ (x5_ + 1) ∧ (x5_ + 1) ≤ 64 ∧ 0 ≤ (x6_ + 1) ∧ (x6_ + 1) ≤ 1000 ∧ 0 ≤ rule ∧ rule ≤ 3 ∧ (h78 36 7) = (h 36 7) ∧ (h78 1 1) = (h 1 1) ∧ (h78 90 2) = (h 90 2) ∧ (h78 0 10) = (h 0 10) ∧ (h78 0 11) = (h 0 11) ∧ (h78 0 12) = (h 0 12) ∧ (h78 0 13) = (h 0 13) ∧ (h78 3 1) = (h 3 1) ∧ (h78 36 8) = (h 36 8) ∧ (h78 46 3) = (h 46 3) ∧ (h78 46 4) = (h 46 4) ∧ (h78 49 4) = (h 49 4) ∧ (h78 49 5) = (h 49 5) ∧ (h78 64 0) = (h 64 0) ∧ (h78 76 0) = (h 76 0); omega) (by omega)
                    · skip
                      refine ov_blk (ls2 := [(0, ov_r 70), (1, ov_i rule), (2, ov_i c), (3, ov_i ow), (4, ov_i nw), (5, ov_i x5_), (6, ov_i x6_), (7, ov_i (h78 80 x6_))]) (st2 := [ov_i ow, ov_i x5_, ov_r 81]) (pc2 := 123) b_138_122_1 rfl rfl ?_
                      refine ov_goto (tgt := 145) d_138_123 (by decide) ?_
                      refine ov_iast d_138_145 (zb_81 I79) (zs_81 I79) (by omega) ?_
                      have I110 := ua_81 (k := x5_) (x := ow) I79 (by omega) (hw 81 (by decide +kernel))
                      refine ov_blk (ls2 := [(0, ov_r 70), (1, ov_i rule), (2, ov_i c), (3, ov_i ow), (4, ov_i nw), (5, ov_i (x5_ + 1)), (6, ov_i x6_), (7, ov_i (h78 80 x6_))]) (st2 := []) (pc2 := 149) b_138_146_1 rfl rfl ?_
                      refine ov_goto (tgt := 191) d_138_149 (by decide) ?_
                      refine ov_blk (ls2 := [(0, ov_r 70), (1, ov_i rule), (2, ov_i c), (3, ov_i ow), (4, ov_i nw), (5, ov_i (x5_ + 1)), (6, ov_i (x6_ + 1)), (7, ov_i (h78 80 x6_))]) (st2 := []) (pc2 := 194) b_138_191_1 rfl rfl ?_
                      refine ov_goto (tgt := 35) d_138_194 (by decide) ?_
                      refine ov_sub (ls2 := [(0, ov_r 70), (1, ov_i rule), (2, ov_i c), (3, ov_i ow), (4, ov_i nw), (5, ov_i (x5_ + 1)), (6, ov_i (x6_ + 1))]) (List.Sublist.subset (by repeat (first | exact List.Sublist.refl _ | apply List.Sublist.cons_cons | apply List.Sublist.cons))) ?_
                      exact ih74 (x5_ + 1) (x6_ + 1) _ _ I110 (by show 0 ≤ (x5_ + 1) ∧ (x5_ + 1) ≤ 64 ∧ 0 ≤ (x6_ + 1) ∧ (x6_ + 1) ≤ 1000 ∧ 0 ≤ rule ∧ rule ≤ 3 ∧ (h78 36 7) = (h 36 7) ∧ (h78 1 1) = (h 1 1) ∧ (h78 90 2) = (h 90 2) ∧ (h78 0 10) = (h 0 10) ∧ (h78 0 11) = (h 0 11) ∧ (h78 0 12) = (h 0 12) ∧ (h78 0 13) = (h 0 13) ∧ (h78 3 1) = (h 3 1) ∧ (h78 36 8) = (h 36 8) ∧ (h78 46 3) = (h 46 3) ∧ (h78 46 4) = (h 46 4) ∧ (h78 49 4) = (h 49 4) ∧ (h78 49 5) = (h 49 5) ∧ (h78 64 0) = (h 64 0) ∧ (h78 76 0) = (h 76 0); omega) (by omega)
              · skip
                refine ov_blk (ls2 := [(0, ov_r 70), (1, ov_i rule), (2, ov_i c), (3, ov_i ow), (4, ov_i nw), (5, ov_i x5_), (6, ov_i x6_), (7, ov_i (h78 80 x6_))]) (st2 := [ov_i 1, ov_i x5_]) (pc2 := 63) b_138_60_2 rfl rfl ?_
                refine ov_iclt (tgt := 95) d_138_63 (by decide) (by omega) (by omega) (fun c111 => ?_) (fun c111 => ?_)
                · skip
                  refine ov_blk (ls2 := [(0, ov_r 70), (1, ov_i rule), (2, ov_i c), (3, ov_i ow), (4, ov_i nw), (5, ov_i x5_), (6, ov_i x6_), (7, ov_i (h78 80 x6_))]) (st2 := [ov_i 8, ov_i (h78 80 x6_)]) (pc2 := 99) b_138_95_2 rfl rfl ?_
                  refine ov_iclt (tgt := 152) d_138_99 (by decide) (by omega) (by omega) (fun c112 => ?_) (fun c112 => ?_)
                  · skip
                    refine ov_blk (ls2 := [(0, ov_r 70), (1, ov_i rule), (2, ov_i c), (3, ov_i ow), (4, ov_i nw), (5, ov_i x5_), (6, ov_i x6_), (7, ov_i (h78 80 x6_))]) (st2 := [ov_i 2, ov_i x5_]) (pc2 := 155) b_138_152_2 rfl rfl ?_
                    refine ov_iclt (tgt := 191) d_138_155 (by decide) (by omega) (by omega) (fun c113 => ?_) (fun c113 => ?_)
                    · skip
                      refine ov_blk (ls2 := [(0, ov_r 70), (1, ov_i rule), (2, ov_i c), (3, ov_i ow), (4, ov_i nw), (5, ov_i x5_), (6, ov_i (x6_ + 1)), (7, ov_i (h78 80 x6_))]) (st2 := []) (pc2 := 194) b_138_191_1 rfl rfl ?_
                      refine ov_goto (tgt := 35) d_138_194 (by decide) ?_
                      refine ov_sub (ls2 := [(0, ov_r 70), (1, ov_i rule), (2, ov_i c), (3, ov_i ow), (4, ov_i nw), (5, ov_i x5_), (6, ov_i (x6_ + 1))]) (List.Sublist.subset (by repeat (first | exact List.Sublist.refl _ | apply List.Sublist.cons_cons | apply List.Sublist.cons))) ?_
                      exact ih74 x5_ (x6_ + 1) _ _ I79 (by show 0 ≤ x5_ ∧ x5_ ≤ 64 ∧ 0 ≤ (x6_ + 1) ∧ (x6_ + 1) ≤ 1000 ∧ 0 ≤ rule ∧ rule ≤ 3 ∧ (h78 36 7) = (h 36 7) ∧ (h78 1 1) = (h 1 1) ∧ (h78 90 2) = (h 90 2) ∧ (h78 0 10) = (h 0 10) ∧ (h78 0 11) = (h 0 11) ∧ (h78 0 12) = (h 0 12) ∧ (h78 0 13) = (h 0 13) ∧ (h78 3 1) = (h 3 1) ∧ (h78 36 8) = (h 36 8) ∧ (h78 46 3) = (h 46 3) ∧ (h78 46 4) = (h 46 4) ∧ (h78 49 4) = (h 49 4) ∧ (h78 49 5) = (h 49 5) ∧ (h78 64 0) = (h 64 0) ∧ (h78 76 0) = (h 76 0); omega) (by omega)
                    · skip
                      refine ov_blk (ls2 := [(0, ov_r 70), (1, ov_i rule), (2, ov_i c), (3, ov_i ow), (4, ov_i nw), (5, ov_i (x5_ + (-1))), (6, ov_i x6_), (7, ov_i (h78 80 x6_))]) (st2 := [ov_r 70]) (pc2 := 162) b_138_158_2 rfl rfl ?_
                      refine ov_getf (v := ov_r 81) d_138_162 fl_Town_43 (zb_70 I79) (zs_70 I79) (congrArg ov_r (rg_70_17 I79)) ?_
                      refine ov_blk (ls2 := [(0, ov_r 70), (1, ov_i rule), (2, ov_i c), (3, ov_i ow), (4, ov_i nw), (5, ov_i (x5_ + (-1))), (6, ov_i x6_), (7, ov_i (h78 80 x6_))]) (st2 := [ov_r 70, ov_i (h78 80 x6_), ov_i ((x5_ + (-1)) - 1), ov_r 81]) (pc2 := 172) b_138_165_5 rfl rfl ?_
                      refine ov_getf (v := ov_r 81) d_138_172 fl_Town_43 (zb_70 I79) (zs_70 I79) (congrArg ov_r (rg_70_17 I79)) ?_
                      refine ov_blk (ls2 := [(0, ov_r 70), (1, ov_i rule), (2, ov_i c), (3, ov_i ow), (4, ov_i nw), (5, ov_i (x5_ + (-1))), (6, ov_i x6_), (7, ov_i (h78 80 x6_))]) (st2 := [ov_i ((x5_ + (-1)) - 1), ov_r 81, ov_i (h78 80 x6_), ov_i ((x5_ + (-1)) - 1), ov_r 81]) (pc2 := 179) b_138_175_3 rfl rfl ?_
                      refine ov_iald d_138_179 (zb_81 I79) (zs_81 I79) (by omega) ?_
                      have g114 := ra_81 I79 ((x5_ + (-1)) - 1)
                      refine ov_blk (ls2 := [(0, ov_r 70), (1, ov_i rule), (2, ov_i c), (3, ov_i ow), (4, ov_i nw), (5, ov_i (x5_ + (-1))), (6, ov_i x6_), (7, ov_i (h78 80 x6_))]) (st2 := [ov_r 70, ov_i (h78 81 ((x5_ + (-1)) - 1)), ov_i (h78 80 x6_), ov_i ((x5_ + (-1)) - 1), ov_r 81]) (pc2 := 181) b_138_180_1 rfl rfl ?_
                      refine ov_getf (v := ov_r 81) d_138_181 fl_Town_43 (zb_70 I79) (zs_70 I79) (congrArg ov_r (rg_70_17 I79)) ?_
                      refine ov_blk (ls2 := [(0, ov_r 70), (1, ov_i rule), (2, ov_i c), (3, ov_i ow), (4, ov_i nw), (5, ov_i (x5_ + (-1))), (6, ov_i x6_), (7, ov_i (h78 80 x6_))]) (st2 := [ov_i (x5_ + (-1)), ov_r 81, ov_i (h78 81 ((x5_ + (-1)) - 1)), ov_i (h78 80 x6_), ov_i ((x5_ + (-1)) - 1), ov_r 81]) (pc2 := 186) b_138_184_1 rfl rfl ?_
                      refine ov_iald d_138_186 (zb_81 I79) (zs_81 I79) (by omega) ?_
                      have g115 := ra_81 I79 (x5_ + (-1))
                      refine ov_cS (as := [ov_i (h78 80 x6_), ov_i (h78 81 ((x5_ + (-1)) - 1)), ov_i (h78 81 (x5_ + (-1)))]) (st := [ov_i ((x5_ + (-1)) - 1), ov_r 81]) (d2 := d - 1) d_138_187 lk_Town_109 rfl (Nat.le_of_ble_eq_true rfl) (by omega) (c_Town_joined (d - 1) (by omega) U I79 (h78 80 x6_) (h78 81 ((x5_ + (-1)) - 1)) (h78 81 (x5_ + (-1))) (by omega) (by omega) (by omega)) ?_
                      rintro _ _ _ ⟨v117, rfl, rfl, rfl, f116⟩
                      show ov_R u d ov_m138 190 [(0, ov_r 70), (1, ov_i rule), (2, ov_i c), (3, ov_i ow), (4, ov_i nw), (5, ov_i (x5_ + (-1))), (6, ov_i x6_), (7, ov_i (h78 80 x6_))] [ov_i v117, ov_i ((x5_ + (-1)) - 1), ov_r 81] z77 h78 (P_Town_ruleSaysOver_70 F z h rule c ow nw)
                      have f118 : -2147483648 ≤ v117 ∧ v117 ≤ 2147483647 := f116
                      clear f116
                      refine ov_iast d_138_190 (zb_81 I79) (zs_81 I79) (by omega) ?_
                      have I119 := ua_81 (k := ((x5_ + (-1)) - 1)) (x := v117) I79 (by omega) (hw 81 (by decide +kernel))
                      refine ov_blk (ls2 := [(0, ov_r 70), (1, ov_i rule), (2, ov_i c), (3, ov_i ow), (4, ov_i nw), (5, ov_i (x5_ + (-1))), (6, ov_i (x6_ + 1)), (7, ov_i (h78 80 x6_))]) (st2 := []) (pc2 := 194) b_138_191_1 rfl rfl ?_
                      refine ov_goto (tgt := 35) d_138_194 (by decide) ?_
                      refine ov_sub (ls2 := [(0, ov_r 70), (1, ov_i rule), (2, ov_i c), (3, ov_i ow), (4, ov_i nw), (5, ov_i (x5_ + (-1))), (6, ov_i (x6_ + 1))]) (List.Sublist.subset (by repeat (first | exact List.Sublist.refl _ | apply List.Sublist.cons_cons | apply List.Sublist.cons))) ?_
                      exact ih74 (x5_ + (-1)) (x6_ + 1) _ _ I119 (by show 0 ≤ (x5_ + (-1)) ∧ (x5_ + (-1)) ≤ 64 ∧ 0 ≤ (x6_ + 1) ∧ (x6_ + 1) ≤ 1000 ∧ 0 ≤ rule ∧ rule ≤ 3 ∧ (h78 36 7) = (h 36 7) ∧ (h78 1 1) = (h 1 1) ∧ (h78 90 2) = (h 90 2) ∧ (h78 0 10) = (h 0 10) ∧ (h78 0 11) = (h 0 11) ∧ (h78 0 12) = (h 0 12) ∧ (h78 0 13) = (h 0 13) ∧ (h78 3 1) = (h 3 1) ∧ (h78 36 8) = (h 36 8) ∧ (h78 46 3) = (h 46 3) ∧ (h78 46 4) = (h 46 4) ∧ (h78 49 4) = (h 49 4) ∧ (h78 49 5) = (h 49 5) ∧ (h78 64 0) = (h 64 0) ∧ (h78 76 0) = (h 76 0); omega) (by omega)
                  · skip
                    refine ov_blk (ls2 := [(0, ov_r 70), (1, ov_i rule), (2, ov_i c), (3, ov_i ow), (4, ov_i nw), (5, ov_i x5_), (6, ov_i x6_), (7, ov_i (h78 80 x6_))]) (st2 := [ov_i 64, ov_i x5_]) (pc2 := 106) b_138_102_2 rfl rfl ?_
                    refine ov_icge (tgt := 152) d_138_106 (by decide) (by omega) (by omega) (fun c120 => ?_) (fun c120 => ?_)
                    · skip
                      refine ov_blk (ls2 := [(0, ov_r 70), (1, ov_i rule), (2, ov_i c), (3, ov_i ow), (4, ov_i nw), (5, ov_i x5_), (6, ov_i x6_), (7, ov_i (h78 80 x6_))]) (st2 := [ov_i 2, ov_i x5_]) (pc2 := 155) b_138_152_2 rfl rfl ?_
                      refine ov_iclt (tgt := 191) d_138_155 (by decide) (by omega) (by omega) (fun c121 => ?_) (fun c121 => ?_)
                      · skip
                        refine ov_blk (ls2 := [(0, ov_r 70), (1, ov_i rule), (2, ov_i c), (3, ov_i ow), (4, ov_i nw), (5, ov_i x5_), (6, ov_i (x6_ + 1)), (7, ov_i (h78 80 x6_))]) (st2 := []) (pc2 := 194) b_138_191_1 rfl rfl ?_
                        refine ov_goto (tgt := 35) d_138_194 (by decide) ?_
                        refine ov_sub (ls2 := [(0, ov_r 70), (1, ov_i rule), (2, ov_i c), (3, ov_i ow), (4, ov_i nw), (5, ov_i x5_), (6, ov_i (x6_ + 1))]) (List.Sublist.subset (by repeat (first | exact List.Sublist.refl _ | apply List.Sublist.cons_cons | apply List.Sublist.cons))) ?_
                        exact ih74 x5_ (x6_ + 1) _ _ I79 (by show 0 ≤ x5_ ∧ x5_ ≤ 64 ∧ 0 ≤ (x6_ + 1) ∧ (x6_ + 1) ≤ 1000 ∧ 0 ≤ rule ∧ rule ≤ 3 ∧ (h78 36 7) = (h 36 7) ∧ (h78 1 1) = (h 1 1) ∧ (h78 90 2) = (h 90 2) ∧ (h78 0 10) = (h 0 10) ∧ (h78 0 11) = (h 0 11) ∧ (h78 0 12) = (h 0 12) ∧ (h78 0 13) = (h 0 13) ∧ (h78 3 1) = (h 3 1) ∧ (h78 36 8) = (h 36 8) ∧ (h78 46 3) = (h 46 3) ∧ (h78 46 4) = (h 46 4) ∧ (h78 49 4) = (h 49 4) ∧ (h78 49 5) = (h 49 5) ∧ (h78 64 0) = (h 64 0) ∧ (h78 76 0) = (h 76 0); omega) (by omega)
                      · skip
                        refine ov_blk (ls2 := [(0, ov_r 70), (1, ov_i rule), (2, ov_i c), (3, ov_i ow), (4, ov_i nw), (5, ov_i (x5_ + (-1))), (6, ov_i x6_), (7, ov_i (h78 80 x6_))]) (st2 := [ov_r 70]) (pc2 := 162) b_138_158_2 rfl rfl ?_
                        refine ov_getf (v := ov_r 81) d_138_162 fl_Town_43 (zb_70 I79) (zs_70 I79) (congrArg ov_r (rg_70_17 I79)) ?_
                        refine ov_blk (ls2 := [(0, ov_r 70), (1, ov_i rule), (2, ov_i c), (3, ov_i ow), (4, ov_i nw), (5, ov_i (x5_ + (-1))), (6, ov_i x6_), (7, ov_i (h78 80 x6_))]) (st2 := [ov_r 70, ov_i (h78 80 x6_), ov_i ((x5_ + (-1)) - 1), ov_r 81]) (pc2 := 172) b_138_165_5 rfl rfl ?_
                        refine ov_getf (v := ov_r 81) d_138_172 fl_Town_43 (zb_70 I79) (zs_70 I79) (congrArg ov_r (rg_70_17 I79)) ?_
                        refine ov_blk (ls2 := [(0, ov_r 70), (1, ov_i rule), (2, ov_i c), (3, ov_i ow), (4, ov_i nw), (5, ov_i (x5_ + (-1))), (6, ov_i x6_), (7, ov_i (h78 80 x6_))]) (st2 := [ov_i ((x5_ + (-1)) - 1), ov_r 81, ov_i (h78 80 x6_), ov_i ((x5_ + (-1)) - 1), ov_r 81]) (pc2 := 179) b_138_175_3 rfl rfl ?_
                        refine ov_iald d_138_179 (zb_81 I79) (zs_81 I79) (by omega) ?_
                        have g122 := ra_81 I79 ((x5_ + (-1)) - 1)
                        refine ov_blk (ls2 := [(0, ov_r 70), (1, ov_i rule), (2, ov_i c), (3, ov_i ow), (4, ov_i nw), (5, ov_i (x5_ + (-1))), (6, ov_i x6_), (7, ov_i (h78 80 x6_))]) (st2 := [ov_r 70, ov_i (h78 81 ((x5_ + (-1)) - 1)), ov_i (h78 80 x6_), ov_i ((x5_ + (-1)) - 1), ov_r 81]) (pc2 := 181) b_138_180_1 rfl rfl ?_
                        refine ov_getf (v := ov_r 81) d_138_181 fl_Town_43 (zb_70 I79) (zs_70 I79) (congrArg ov_r (rg_70_17 I79)) ?_
                        refine ov_blk (ls2 := [(0, ov_r 70), (1, ov_i rule), (2, ov_i c), (3, ov_i ow), (4, ov_i nw), (5, ov_i (x5_ + (-1))), (6, ov_i x6_), (7, ov_i (h78 80 x6_))]) (st2 := [ov_i (x5_ + (-1)), ov_r 81, ov_i (h78 81 ((x5_ + (-1)) - 1)), ov_i (h78 80 x6_), ov_i ((x5_ + (-1)) - 1), ov_r 81]) (pc2 := 186) b_138_184_1 rfl rfl ?_
                        refine ov_iald d_138_186 (zb_81 I79) (zs_81 I79) (by omega) ?_
                        have g123 := ra_81 I79 (x5_ + (-1))
                        refine ov_cS (as := [ov_i (h78 80 x6_), ov_i (h78 81 ((x5_ + (-1)) - 1)), ov_i (h78 81 (x5_ + (-1)))]) (st := [ov_i ((x5_ + (-1)) - 1), ov_r 81]) (d2 := d - 1) d_138_187 lk_Town_109 rfl (Nat.le_of_ble_eq_true rfl) (by omega) (c_Town_joined (d - 1) (by omega) U I79 (h78 80 x6_) (h78 81 ((x5_ + (-1)) - 1)) (h78 81 (x5_ + (-1))) (by omega) (by omega) (by omega)) ?_
                        rintro _ _ _ ⟨v125, rfl, rfl, rfl, f124⟩
                        show ov_R u d ov_m138 190 [(0, ov_r 70), (1, ov_i rule), (2, ov_i c), (3, ov_i ow), (4, ov_i nw), (5, ov_i (x5_ + (-1))), (6, ov_i x6_), (7, ov_i (h78 80 x6_))] [ov_i v125, ov_i ((x5_ + (-1)) - 1), ov_r 81] z77 h78 (P_Town_ruleSaysOver_70 F z h rule c ow nw)
                        have f126 : -2147483648 ≤ v125 ∧ v125 ≤ 2147483647 := f124
                        clear f124
                        refine ov_iast d_138_190 (zb_81 I79) (zs_81 I79) (by omega) ?_
                        have I127 := ua_81 (k := ((x5_ + (-1)) - 1)) (x := v125) I79 (by omega) (hw 81 (by decide +kernel))
                        refine ov_blk (ls2 := [(0, ov_r 70), (1, ov_i rule), (2, ov_i c), (3, ov_i ow), (4, ov_i nw), (5, ov_i (x5_ + (-1))), (6, ov_i (x6_ + 1)), (7, ov_i (h78 80 x6_))]) (st2 := []) (pc2 := 194) b_138_191_1 rfl rfl ?_
                        refine ov_goto (tgt := 35) d_138_194 (by decide) ?_
                        refine ov_sub (ls2 := [(0, ov_r 70), (1, ov_i rule), (2, ov_i c), (3, ov_i ow), (4, ov_i nw), (5, ov_i (x5_ + (-1))), (6, ov_i (x6_ + 1))]) (List.Sublist.subset (by repeat (first | exact List.Sublist.refl _ | apply List.Sublist.cons_cons | apply List.Sublist.cons))) ?_
                        exact ih74 (x5_ + (-1)) (x6_ + 1) _ _ I127 (by show 0 ≤ (x5_ + (-1)) ∧ (x5_ + (-1)) ≤ 64 ∧ 0 ≤ (x6_ + 1) ∧ (x6_ + 1) ≤ 1000 ∧ 0 ≤ rule ∧ rule ≤ 3 ∧ (h78 36 7) = (h 36 7) ∧ (h78 1 1) = (h 1 1) ∧ (h78 90 2) = (h 90 2) ∧ (h78 0 10) = (h 0 10) ∧ (h78 0 11) = (h 0 11) ∧ (h78 0 12) = (h 0 12) ∧ (h78 0 13) = (h 0 13) ∧ (h78 3 1) = (h 3 1) ∧ (h78 36 8) = (h 36 8) ∧ (h78 46 3) = (h 46 3) ∧ (h78 46 4) = (h 46 4) ∧ (h78 49 4) = (h 49 4) ∧ (h78 49 5) = (h 49 5) ∧ (h78 64 0) = (h 64 0) ∧ (h78 76 0) = (h 76 0); omega) (by omega)
                    · skip
                      refine ov_blk (ls2 := [(0, ov_r 70), (1, ov_i rule), (2, ov_i c), (3, ov_i ow), (4, ov_i nw), (5, ov_i x5_), (6, ov_i x6_), (7, ov_i (h78 80 x6_))]) (st2 := [ov_r 70]) (pc2 := 110) b_138_109_1 rfl rfl ?_
                      refine ov_getf (v := ov_r 81) d_138_110 fl_Town_43 (zb_70 I79) (zs_70 I79) (congrArg ov_r (rg_70_17 I79)) ?_
                      refine ov_blk (ls2 := [(0, ov_r 70), (1, ov_i rule), (2, ov_i c), (3, ov_i ow), (4, ov_i nw), (5, ov_i x5_), (6, ov_i x6_), (7, ov_i (h78 80 x6_))]) (st2 := [ov_i 8, ov_i (h78 80 x6_), ov_i x5_, ov_r 81]) (pc2 := 119) b_138_113_3 rfl rfl ?_
                      refine ov_icne (tgt := 126) d_138_119 (by decide) (by omega) (by omega) (fun c128 => ?_) (fun c128 => ?_)
                      · skip
                        refine ov_blk (ls2 := [(0, ov_r 70), (1, ov_i rule), (2, ov_i c), (3, ov_i ow), (4, ov_i nw), (5, ov_i x5_), (6, ov_i x6_), (7, ov_i (h78 80 x6_))]) (st2 := [ov_i 9, ov_i (h78 80 x6_), ov_i x5_, ov_r 81]) (pc2 := 130) b_138_126_2 rfl rfl ?_
                        refine ov_icne (tgt := 138) d_138_130 (by decide) (by omega) (by omega) (fun c129 => ?_) (fun c129 => ?_)
                        · skip
                          refine ov_blk (ls2 := [(0, ov_r 70), (1, ov_i rule), (2, ov_i c), (3, ov_i ow), (4, ov_i nw), (5, ov_i x5_), (6, ov_i x6_), (7, ov_i (h78 80 x6_))]) (st2 := [ov_i c, ov_i (h78 80 x6_), ov_r 70, ov_i x5_, ov_r 81]) (pc2 := 142) b_138_138_3 rfl rfl ?_
                          refine ov_cV (as := [ov_i (h78 80 x6_), ov_i c]) (st := [ov_i x5_, ov_r 81]) (d2 := d - 1) d_138_142 lk_Town_106 rfl (Nat.le_of_ble_eq_true rfl) (c := 9) (zb_70 I79) (zs_70 I79) ⟨by decide, rfl⟩ (by omega) (c_Town_placeOrNumber_70 (d - 1) (by omega) U I79 (h78 80 x6_) c (by omega) (by omega) (by omega) (by omega)) ?_
                          rintro _ _ _ ⟨v131, rfl, rfl, rfl, f130⟩
                          show ov_R u d ov_m138 145 [(0, ov_r 70), (1, ov_i rule), (2, ov_i c), (3, ov_i ow), (4, ov_i nw), (5, ov_i x5_), (6, ov_i x6_), (7, ov_i (h78 80 x6_))] [ov_i v131, ov_i x5_, ov_r 81] z77 h78 (P_Town_ruleSaysOver_70 F z h rule c ow nw)
                          have f132 : -2147483648 ≤ v131 ∧ v131 ≤ 2147483647 := f130
                          clear f130
                          refine ov_iast d_138_145 (zb_81 I79) (zs_81 I79) (by omega) ?_
                          have I133 := ua_81 (k := x5_) (x := v131) I79 (by omega) (hw 81 (by decide +kernel))
                          refine ov_blk (ls2 := [(0, ov_r 70), (1, ov_i rule), (2, ov_i c), (3, ov_i ow), (4, ov_i nw), (5, ov_i (x5_ + 1)), (6, ov_i x6_), (7, ov_i (h78 80 x6_))]) (st2 := []) (pc2 := 149) b_138_146_1 rfl rfl ?_
                          refine ov_goto (tgt := 191) d_138_149 (by decide) ?_
                          refine ov_blk (ls2 := [(0, ov_r 70), (1, ov_i rule), (2, ov_i c), (3, ov_i ow), (4, ov_i nw), (5, ov_i (x5_ + 1)), (6, ov_i (x6_ + 1)), (7, ov_i (h78 80 x6_))]) (st2 := []) (pc2 := 194) b_138_191_1 rfl rfl ?_
                          refine ov_goto (tgt := 35) d_138_194 (by decide) ?_
                          refine ov_sub (ls2 := [(0, ov_r 70), (1, ov_i rule), (2, ov_i c), (3, ov_i ow), (4, ov_i nw), (5, ov_i (x5_ + 1)), (6, ov_i (x6_ + 1))]) (List.Sublist.subset (by repeat (first | exact List.Sublist.refl _ | apply List.Sublist.cons_cons | apply List.Sublist.cons))) ?_
                          exact ih74 (x5_ + 1) (x6_ + 1) _ _ I133 (by show 0 ≤ (x5_ + 1) ∧ (x5_ + 1) ≤ 64 ∧ 0 ≤ (x6_ + 1) ∧ (x6_ + 1) ≤ 1000 ∧ 0 ≤ rule ∧ rule ≤ 3 ∧ (h78 36 7) = (h 36 7) ∧ (h78 1 1) = (h 1 1) ∧ (h78 90 2) = (h 90 2) ∧ (h78 0 10) = (h 0 10) ∧ (h78 0 11) = (h 0 11) ∧ (h78 0 12) = (h 0 12) ∧ (h78 0 13) = (h 0 13) ∧ (h78 3 1) = (h 3 1) ∧ (h78 36 8) = (h 36 8) ∧ (h78 46 3) = (h 46 3) ∧ (h78 46 4) = (h 46 4) ∧ (h78 49 4) = (h 49 4) ∧ (h78 49 5) = (h 49 5) ∧ (h78 64 0) = (h 64 0) ∧ (h78 76 0) = (h 76 0); omega) (by omega)
                        · skip
                          refine ov_blk (ls2 := [(0, ov_r 70), (1, ov_i rule), (2, ov_i c), (3, ov_i ow), (4, ov_i nw), (5, ov_i x5_), (6, ov_i x6_), (7, ov_i (h78 80 x6_))]) (st2 := [ov_i nw, ov_i x5_, ov_r 81]) (pc2 := 135) b_138_133_1 rfl rfl ?_
                          refine ov_goto (tgt := 145) d_138_135 (by decide) ?_
                          refine ov_iast d_138_145 (zb_81 I79) (zs_81 I79) (by omega) ?_
                          have I134 := ua_81 (k := x5_) (x := nw) I79 (by omega) (hw 81 (by decide +kernel))
                          refine ov_blk (ls2 := [(0, ov_r 70), (1, ov_i rule), (2, ov_i c), (3, ov_i ow), (4, ov_i nw), (5, ov_i (x5_ + 1)), (6, ov_i x6_), (7, ov_i (h78 80 x6_))]) (st2 := []) (pc2 := 149) b_138_146_1 rfl rfl ?_
                          refine ov_goto (tgt := 191) d_138_149 (by decide) ?_
                          refine ov_blk (ls2 := [(0, ov_r 70), (1, ov_i rule), (2, ov_i c), (3, ov_i ow), (4, ov_i nw), (5, ov_i (x5_ + 1)), (6, ov_i (x6_ + 1)), (7, ov_i (h78 80 x6_))]) (st2 := []) (pc2 := 194) b_138_191_1 rfl rfl ?_
                          refine ov_goto (tgt := 35) d_138_194 (by decide) ?_
                          refine ov_sub (ls2 := [(0, ov_r 70), (1, ov_i rule), (2, ov_i c), (3, ov_i ow), (4, ov_i nw), (5, ov_i (x5_ + 1)), (6, ov_i (x6_ + 1))]) (List.Sublist.subset (by repeat (first | exact List.Sublist.refl _ | apply List.Sublist.cons_cons | apply List.Sublist.cons))) ?_
                          exact ih74 (x5_ + 1) (x6_ + 1) _ _ I134 (by show 0 ≤ (x5_ + 1) ∧ (x5_ + 1) ≤ 64 ∧ 0 ≤ (x6_ + 1) ∧ (x6_ + 1) ≤ 1000 ∧ 0 ≤ rule ∧ rule ≤ 3 ∧ (h78 36 7) = (h 36 7) ∧ (h78 1 1) = (h 1 1) ∧ (h78 90 2) = (h 90 2) ∧ (h78 0 10) = (h 0 10) ∧ (h78 0 11) = (h 0 11) ∧ (h78 0 12) = (h 0 12) ∧ (h78 0 13) = (h 0 13) ∧ (h78 3 1) = (h 3 1) ∧ (h78 36 8) = (h 36 8) ∧ (h78 46 3) = (h 46 3) ∧ (h78 46 4) = (h 46 4) ∧ (h78 49 4) = (h 49 4) ∧ (h78 49 5) = (h 49 5) ∧ (h78 64 0) = (h 64 0) ∧ (h78 76 0) = (h 76 0); omega) (by omega)
                      · skip
                        refine ov_blk (ls2 := [(0, ov_r 70), (1, ov_i rule), (2, ov_i c), (3, ov_i ow), (4, ov_i nw), (5, ov_i x5_), (6, ov_i x6_), (7, ov_i (h78 80 x6_))]) (st2 := [ov_i ow, ov_i x5_, ov_r 81]) (pc2 := 123) b_138_122_1 rfl rfl ?_
                        refine ov_goto (tgt := 145) d_138_123 (by decide) ?_
                        refine ov_iast d_138_145 (zb_81 I79) (zs_81 I79) (by omega) ?_
                        have I135 := ua_81 (k := x5_) (x := ow) I79 (by omega) (hw 81 (by decide +kernel))
                        refine ov_blk (ls2 := [(0, ov_r 70), (1, ov_i rule), (2, ov_i c), (3, ov_i ow), (4, ov_i nw), (5, ov_i (x5_ + 1)), (6, ov_i x6_), (7, ov_i (h78 80 x6_))]) (st2 := []) (pc2 := 149) b_138_146_1 rfl rfl ?_
                        refine ov_goto (tgt := 191) d_138_149 (by decide) ?_
                        refine ov_blk (ls2 := [(0, ov_r 70), (1, ov_i rule), (2, ov_i c), (3, ov_i ow), (4, ov_i nw), (5, ov_i (x5_ + 1)), (6, ov_i (x6_ + 1)), (7, ov_i (h78 80 x6_))]) (st2 := []) (pc2 := 194) b_138_191_1 rfl rfl ?_
                        refine ov_goto (tgt := 35) d_138_194 (by decide) ?_
                        refine ov_sub (ls2 := [(0, ov_r 70), (1, ov_i rule), (2, ov_i c), (3, ov_i ow), (4, ov_i nw), (5, ov_i (x5_ + 1)), (6, ov_i (x6_ + 1))]) (List.Sublist.subset (by repeat (first | exact List.Sublist.refl _ | apply List.Sublist.cons_cons | apply List.Sublist.cons))) ?_
                        exact ih74 (x5_ + 1) (x6_ + 1) _ _ I135 (by show 0 ≤ (x5_ + 1) ∧ (x5_ + 1) ≤ 64 ∧ 0 ≤ (x6_ + 1) ∧ (x6_ + 1) ≤ 1000 ∧ 0 ≤ rule ∧ rule ≤ 3 ∧ (h78 36 7) = (h 36 7) ∧ (h78 1 1) = (h 1 1) ∧ (h78 90 2) = (h 90 2) ∧ (h78 0 10) = (h 0 10) ∧ (h78 0 11) = (h 0 11) ∧ (h78 0 12) = (h 0 12) ∧ (h78 0 13) = (h 0 13) ∧ (h78 3 1) = (h 3 1) ∧ (h78 36 8) = (h 36 8) ∧ (h78 46 3) = (h 46 3) ∧ (h78 46 4) = (h 46 4) ∧ (h78 49 4) = (h 49 4) ∧ (h78 49 5) = (h 49 5) ∧ (h78 64 0) = (h 64 0) ∧ (h78 76 0) = (h 76 0); omega) (by omega)
                · skip
                  refine ov_blk (ls2 := [(0, ov_r 70), (1, ov_i rule), (2, ov_i c), (3, ov_i ow), (4, ov_i nw), (5, ov_i x5_), (6, ov_i x6_), (7, ov_i (h78 80 x6_))]) (st2 := [ov_r 70]) (pc2 := 67) b_138_66_1 rfl rfl ?_
                  refine ov_getf (v := ov_r 81) d_138_67 fl_Town_43 (zb_70 I79) (zs_70 I79) (congrArg ov_r (rg_70_17 I79)) ?_
                  refine ov_blk (ls2 := [(0, ov_r 70), (1, ov_i rule), (2, ov_i c), (3, ov_i ow), (4, ov_i nw), (5, ov_i x5_), (6, ov_i x6_), (7, ov_i (h78 80 x6_))]) (st2 := [ov_r 70, ov_i (x5_ - 1), ov_r 81]) (pc2 := 75) b_138_70_4 rfl rfl ?_
                  refine ov_getf (v := ov_r 81) d_138_75 fl_Town_43 (zb_70 I79) (zs_70 I79) (congrArg ov_r (rg_70_17 I79)) ?_
                  refine ov_blk (ls2 := [(0, ov_r 70), (1, ov_i rule), (2, ov_i c), (3, ov_i ow), (4, ov_i nw), (5, ov_i x5_), (6, ov_i x6_), (7, ov_i (h78 80 x6_))]) (st2 := [ov_i (x5_ - 1), ov_r 81, ov_i (x5_ - 1), ov_r 81]) (pc2 := 82) b_138_78_3 rfl rfl ?_
                  refine ov_iald d_138_82 (zb_81 I79) (zs_81 I79) (by omega) ?_
                  have g136 := ra_81 I79 (x5_ - 1)
                  refine ov_ifne (tgt := 90) d_138_83 (by decide) (by omega) (fun c137 => ?_) (fun c137 => ?_)
                  · skip
                    refine ov_blk (ls2 := [(0, ov_r 70), (1, ov_i rule), (2, ov_i c), (3, ov_i ow), (4, ov_i nw), (5, ov_i x5_), (6, ov_i x6_), (7, ov_i (h78 80 x6_))]) (st2 := [ov_i 0, ov_i (x5_ - 1), ov_r 81]) (pc2 := 91) b_138_90_1 rfl rfl ?_
                    refine ov_iast d_138_91 (zb_81 I79) (zs_81 I79) (by omega) ?_
                    have I138 := ua_81 (k := (x5_ - 1)) (x := 0) I79 (by omega) (hw 81 (by decide +kernel))
                    refine ov_goto (tgt := 191) d_138_92 (by decide) ?_
                    refine ov_blk (ls2 := [(0, ov_r 70), (1, ov_i rule), (2, ov_i c), (3, ov_i ow), (4, ov_i nw), (5, ov_i x5_), (6, ov_i (x6_ + 1)), (7, ov_i (h78 80 x6_))]) (st2 := []) (pc2 := 194) b_138_191_1 rfl rfl ?_
                    refine ov_goto (tgt := 35) d_138_194 (by decide) ?_
                    refine ov_sub (ls2 := [(0, ov_r 70), (1, ov_i rule), (2, ov_i c), (3, ov_i ow), (4, ov_i nw), (5, ov_i x5_), (6, ov_i (x6_ + 1))]) (List.Sublist.subset (by repeat (first | exact List.Sublist.refl _ | apply List.Sublist.cons_cons | apply List.Sublist.cons))) ?_
                    exact ih74 x5_ (x6_ + 1) _ _ I138 (by show 0 ≤ x5_ ∧ x5_ ≤ 64 ∧ 0 ≤ (x6_ + 1) ∧ (x6_ + 1) ≤ 1000 ∧ 0 ≤ rule ∧ rule ≤ 3 ∧ (h78 36 7) = (h 36 7) ∧ (h78 1 1) = (h 1 1) ∧ (h78 90 2) = (h 90 2) ∧ (h78 0 10) = (h 0 10) ∧ (h78 0 11) = (h 0 11) ∧ (h78 0 12) = (h 0 12) ∧ (h78 0 13) = (h 0 13) ∧ (h78 3 1) = (h 3 1) ∧ (h78 36 8) = (h 36 8) ∧ (h78 46 3) = (h 46 3) ∧ (h78 46 4) = (h 46 4) ∧ (h78 49 4) = (h 49 4) ∧ (h78 49 5) = (h 49 5) ∧ (h78 64 0) = (h 64 0) ∧ (h78 76 0) = (h 76 0); omega) (by omega)
                  · skip
                    refine ov_blk (ls2 := [(0, ov_r 70), (1, ov_i rule), (2, ov_i c), (3, ov_i ow), (4, ov_i nw), (5, ov_i x5_), (6, ov_i x6_), (7, ov_i (h78 80 x6_))]) (st2 := [ov_i 1, ov_i (x5_ - 1), ov_r 81]) (pc2 := 87) b_138_86_1 rfl rfl ?_
                    refine ov_goto (tgt := 91) d_138_87 (by decide) ?_
                    refine ov_iast d_138_91 (zb_81 I79) (zs_81 I79) (by omega) ?_
                    have I139 := ua_81 (k := (x5_ - 1)) (x := 1) I79 (by omega) (hw 81 (by decide +kernel))
                    refine ov_goto (tgt := 191) d_138_92 (by decide) ?_
                    refine ov_blk (ls2 := [(0, ov_r 70), (1, ov_i rule), (2, ov_i c), (3, ov_i ow), (4, ov_i nw), (5, ov_i x5_), (6, ov_i (x6_ + 1)), (7, ov_i (h78 80 x6_))]) (st2 := []) (pc2 := 194) b_138_191_1 rfl rfl ?_
                    refine ov_goto (tgt := 35) d_138_194 (by decide) ?_
                    refine ov_sub (ls2 := [(0, ov_r 70), (1, ov_i rule), (2, ov_i c), (3, ov_i ow), (4, ov_i nw), (5, ov_i x5_), (6, ov_i (x6_ + 1))]) (List.Sublist.subset (by repeat (first | exact List.Sublist.refl _ | apply List.Sublist.cons_cons | apply List.Sublist.cons))) ?_
                    exact ih74 x5_ (x6_ + 1) _ _ I139 (by show 0 ≤ x5_ ∧ x5_ ≤ 64 ∧ 0 ≤ (x6_ + 1) ∧ (x6_ + 1) ≤ 1000 ∧ 0 ≤ rule ∧ rule ≤ 3 ∧ (h78 36 7) = (h 36 7) ∧ (h78 1 1) = (h 1 1) ∧ (h78 90 2) = (h 90 2) ∧ (h78 0 10) = (h 0 10) ∧ (h78 0 11) = (h 0 11) ∧ (h78 0 12) = (h 0 12) ∧ (h78 0 13) = (h 0 13) ∧ (h78 3 1) = (h 3 1) ∧ (h78 36 8) = (h 36 8) ∧ (h78 46 3) = (h 46 3) ∧ (h78 46 4) = (h 46 4) ∧ (h78 49 4) = (h 49 4) ∧ (h78 49 5) = (h 49 5) ∧ (h78 64 0) = (h 64 0) ∧ (h78 76 0) = (h 76 0); omega) (by omega)
        exact L76 1001 0 0 _ _ I (by show 0 ≤ 0 ∧ 0 ≤ 64 ∧ 0 ≤ 0 ∧ 0 ≤ 1000 ∧ 0 ≤ rule ∧ rule ≤ 3 ∧ (h 36 7) = (h 36 7) ∧ (h 1 1) = (h 1 1) ∧ (h 90 2) = (h 90 2) ∧ (h 0 10) = (h 0 10) ∧ (h 0 11) = (h 0 11) ∧ (h 0 12) = (h 0 12) ∧ (h 0 13) = (h 0 13) ∧ (h 3 1) = (h 3 1) ∧ (h 36 8) = (h 36 8) ∧ (h 46 3) = (h 46 3) ∧ (h 46 4) = (h 46 4) ∧ (h 49 4) = (h 49 4) ∧ (h 49 5) = (h 49 5) ∧ (h 64 0) = (h 64 0) ∧ (h 76 0) = (h 76 0); omega) (by omega)
    · skip
      refine ov_blk (ls2 := [(0, ov_r 70), (1, ov_i rule), (2, ov_i c), (3, ov_i ow), (4, ov_i nw)]) (st2 := [ov_i 0]) (pc2 := 13) b_138_12_1 rfl rfl ?_
      exact ov_retz (st := []) d_138_13 rfl (by omega) ⟨_, rfl, I, (by show (0 = 0 ∨ 0 = 1) ∧ (h 36 7) = (h 36 7) ∧ (h 1 1) = (h 1 1) ∧ (h 90 2) = (h 90 2) ∧ (h 0 10) = (h 0 10) ∧ (h 0 11) = (h 0 11) ∧ (h 0 12) = (h 0 12) ∧ (h 0 13) = (h 0 13) ∧ (h 3 1) = (h 3 1) ∧ (h 36 8) = (h 36 8) ∧ (h 46 3) = (h 46 3) ∧ (h 46 4) = (h 46 4) ∧ (h 49 4) = (h 49 4) ∧ (h 49 5) = (h 49 5) ∧ (h 64 0) = (h 64 0) ∧ (h 76 0) = (h 76 0); omega)⟩
abbrev P_Town_setUnlessTold_70 (F : ov_H) (z : ov_Z) (h : ov_H) (w : Int) (v : Int) : Option ov_V → ov_Z → ov_H → Prop := fun r0 z' h' => r0 = none ∧ ov_I F z' h' ∧ ((w = 0 → 0 ≤ v → 0 ≤ (h' 76 0)) ∧ (¬ w = 0 → (h' 76 0) = (h 76 0)) ∧ (h' 36 7) = (h 36 7) ∧ (h' 1 1) = (h 1 1) ∧ (h' 90 2) = (h 90 2) ∧ (h' 0 10) = (h 0 10) ∧ (h' 0 11) = (h 0 11) ∧ (h' 0 12) = (h 0 12) ∧ (h' 0 13) = (h 0 13) ∧ (h' 3 1) = (h 3 1) ∧ (h' 36 8) = (h 36 8) ∧ (h' 46 3) = (h 46 3) ∧ (h' 46 4) = (h 46 4) ∧ (h' 49 4) = (h 49 4) ∧ (h' 49 5) = (h 49 5) ∧ (h' 64 0) = (h 64 0))
set_option maxHeartbeats 4000000 in
theorem c_Town_setUnlessTold_70 {u : ov_U} {F : ov_H} {z : ov_Z} {h : ov_H} (d : Nat) (hd : 0 ≤ d) (U : ov_cap u) (I : ov_I F z h) (hw : ov_kw 75557863725914323419136 F) (w : Int) (v : Int) (g_w : ov_g w) (g_v : ov_g v) (p0 : 0 ≤ w ∧ w ≤ 3) (p1 : -1 ≤ v ∧ v ≤ 30 ∧ (w = 3 → v ≤ 9)) : ov_T u d ov_m16 [ov_r 70, ov_i w, ov_i v] z h (P_Town_setUnlessTold_70 F z h w v) := by
  refine ov_en rfl (Nat.le_of_ble_eq_true rfl) ?_
  show ov_R u d ov_m16 0 [(0, ov_r 70), (1, ov_i w), (2, ov_i v)] [] z h (P_Town_setUnlessTold_70 F z h w v)
  refine ov_blk (ls2 := [(0, ov_r 70), (1, ov_i w), (2, ov_i v)]) (st2 := [ov_r 70]) (pc2 := 1) b_16_0_1 rfl rfl ?_
  refine ov_getf (v := ov_r 76) d_16_1 fl_Town_27 (zb_70 I) (zs_70 I) (congrArg ov_r (rg_70_7 I)) ?_
  refine ov_blk (ls2 := [(0, ov_r 70), (1, ov_i w), (2, ov_i v)]) (st2 := [ov_i w, ov_r 76]) (pc2 := 5) b_16_4_1 rfl rfl ?_
  refine ov_iald d_16_5 (zb_76 I) (zs_76 I) (by omega) ?_
  have g1 := ra_76 I w
  refine ov_blk (ls2 := [(0, ov_r 70), (1, ov_i w), (2, ov_i v)]) (st2 := [ov_i (-1), ov_i (h 76 w)]) (pc2 := 7) b_16_6_1 rfl rfl ?_
  refine ov_icne (tgt := 17) d_16_7 (by decide) (by omega) (by omega) (fun c2 => ?_) (fun c2 => ?_)
  · skip
    have fz : w = 0 → h 76 w = h 76 0 := fun e => by rw [e]
    exact ov_retv (st := []) d_16_17 rfl ⟨rfl, I, (by show (w = 0 → 0 ≤ v → 0 ≤ (h 76 0)) ∧ (¬ w = 0 → (h 76 0) = (h 76 0)) ∧ (h 36 7) = (h 36 7) ∧ (h 1 1) = (h 1 1) ∧ (h 90 2) = (h 90 2) ∧ (h 0 10) = (h 0 10) ∧ (h 0 11) = (h 0 11) ∧ (h 0 12) = (h 0 12) ∧ (h 0 13) = (h 0 13) ∧ (h 3 1) = (h 3 1) ∧ (h 36 8) = (h 36 8) ∧ (h 46 3) = (h 46 3) ∧ (h 46 4) = (h 46 4) ∧ (h 49 4) = (h 49 4) ∧ (h 49 5) = (h 49 5) ∧ (h 64 0) = (h 64 0); omega)⟩
  · skip
    refine ov_blk (ls2 := [(0, ov_r 70), (1, ov_i w), (2, ov_i v)]) (st2 := [ov_r 70]) (pc2 := 11) b_16_10_1 rfl rfl ?_
    refine ov_getf (v := ov_r 76) d_16_11 fl_Town_27 (zb_70 I) (zs_70 I) (congrArg ov_r (rg_70_7 I)) ?_
    refine ov_blk (ls2 := [(0, ov_r 70), (1, ov_i w), (2, ov_i v)]) (st2 := [ov_i v, ov_i w, ov_r 76]) (pc2 := 16) b_16_14_2 rfl rfl ?_
    refine ov_iast d_16_16 (zb_76 I) (zs_76 I) (by omega) ?_
    have I3 := ua_76 (k := w) (x := v) I (by omega) (hw 76 (by decide +kernel))
    have fz : w = 0 → h 76 w = h 76 0 := fun e => by rw [e]
    have fu := ov_up_z (h := h) (a := 76) (k := w) (x := v)
    exact ov_retv (st := []) d_16_17 rfl ⟨rfl, I3, (by show (w = 0 → 0 ≤ v → 0 ≤ ((ov_up h 76 w v) 76 0)) ∧ (¬ w = 0 → ((ov_up h 76 w v) 76 0) = (h 76 0)) ∧ (h 36 7) = (h 36 7) ∧ (h 1 1) = (h 1 1) ∧ (h 90 2) = (h 90 2) ∧ (h 0 10) = (h 0 10) ∧ (h 0 11) = (h 0 11) ∧ (h 0 12) = (h 0 12) ∧ (h 0 13) = (h 0 13) ∧ (h 3 1) = (h 3 1) ∧ (h 36 8) = (h 36 8) ∧ (h 46 3) = (h 46 3) ∧ (h 46 4) = (h 46 4) ∧ (h 49 4) = (h 49 4) ∧ (h 49 5) = (h 49 5) ∧ (h 64 0) = (h 64 0); omega)⟩
abbrev P_Town_opens_70 (F : ov_H) (z : ov_Z) (h : ov_H) (c : Int) (way : Int) : Option ov_V → ov_Z → ov_H → Prop := fun r0 z' h' => ∃ r : Int, r0 = some (ov_i r) ∧ z = z' ∧ h = h' ∧ ((r = 0 ∨ r = 1) ∧ (r = 1 → (way = 0 ∧ c ≤ 52) ∨ (way = 1 ∧ c ≤ 47)))
set_option maxHeartbeats 4000000 in
theorem c_Town_opens_70 {u : ov_U} {F : ov_H} {z : ov_Z} {h : ov_H} (d : Nat) (hd : 1 ≤ d) (U : ov_cap u) (I : ov_I F z h) (c : Int) (way : Int) (g_c : ov_g c) (g_way : ov_g way) (p0 : 0 ≤ c ∧ c ≤ 53) (p1 : way = 0 ∨ way = 1) : ov_T u d ov_m17 [ov_r 70, ov_i c, ov_i way] z h (P_Town_opens_70 F z h c way) := by
  refine ov_en rfl (Nat.le_of_ble_eq_true rfl) ?_
  show ov_R u d ov_m17 0 [(0, ov_r 70), (1, ov_i c), (2, ov_i way)] [] z h (P_Town_opens_70 F z h c way)
  refine ov_blk (ls2 := [(0, ov_r 70), (1, ov_i c), (2, ov_i way)]) (st2 := [ov_i way, ov_i c, ov_r 70]) (pc2 := 3) b_17_0_3 rfl rfl ?_
  refine ov_cV (as := [ov_i c, ov_i way]) (st := []) (d2 := d - 1) d_17_3 lk_Town_83 rfl (Nat.le_of_ble_eq_true rfl) (c := 9) (zb_70 I) (zs_70 I) ⟨by decide, rfl⟩ (by omega) (c_Town_isBeyond_70 (d - 1) (by omega) U I c way (by omega) (by omega) (by omega)) ?_
  rintro _ _ _ ⟨v2, rfl, rfl, rfl, f1⟩
  show ov_R u d ov_m17 6 [(0, ov_r 70), (1, ov_i c), (2, ov_i way)] [ov_i v2] z h (P_Town_opens_70 F z h c way)
  have f3 : (v2 = 0 ∨ v2 = 1) ∧ (v2 = 0 → (way = 0 → c % 6 < (h 70 0) - 1 ∧ (h 70 0) ≤ 6) ∧ (¬ way = 0 → c / 6 < (h 70 1) - 1 ∧ (h 70 1) ≤ 9)) := f1
  clear f1
  refine ov_ifne (tgt := 18) d_17_6 (by decide) (by omega) (fun c4 => ?_) (fun c4 => ?_)
  · skip
    refine ov_blk (ls2 := [(0, ov_r 70), (1, ov_i c), (2, ov_i way)]) (st2 := [ov_i 0]) (pc2 := 19) b_17_18_1 rfl rfl ?_
    exact ov_retz (st := []) d_17_19 rfl (by omega) ⟨_, rfl, rfl, rfl, (by show (0 = 0 ∨ 0 = 1) ∧ (0 = 1 → (way = 0 ∧ c ≤ 52) ∨ (way = 1 ∧ c ≤ 47)); omega)⟩
  · skip
    refine ov_blk (ls2 := [(0, ov_r 70), (1, ov_i c), (2, ov_i way)]) (st2 := [ov_i way, ov_i c, ov_r 70]) (pc2 := 12) b_17_9_3 rfl rfl ?_
    refine ov_cV (as := [ov_i c, ov_i way]) (st := []) (d2 := d - 1) d_17_12 lk_Town_86 rfl (Nat.le_of_ble_eq_true rfl) (c := 9) (zb_70 I) (zs_70 I) ⟨by decide, rfl⟩ (by omega) (c_Town_isBarred_70 (d - 1) (by omega) U I c way (by omega) (by omega) (by omega)) ?_
    rintro _ _ _ ⟨v6, rfl, rfl, rfl, f5⟩
    show ov_R u d ov_m17 15 [(0, ov_r 70), (1, ov_i c), (2, ov_i way)] [ov_i v6] z h (P_Town_opens_70 F z h c way)
    have f7 : (v6 = 0 ∨ v6 = 1) := f5
    clear f5
    refine ov_ifeq (tgt := 20) d_17_15 (by decide) (by omega) (fun c8 => ?_) (fun c8 => ?_)
    · skip
      refine ov_blk (ls2 := [(0, ov_r 70), (1, ov_i c), (2, ov_i way)]) (st2 := [ov_i c, ov_r 70]) (pc2 := 22) b_17_20_2 rfl rfl ?_
      refine ov_cV (as := [ov_i c]) (st := []) (d2 := d - 1) d_17_22 lk_Town_89 rfl (Nat.le_of_ble_eq_true rfl) (c := 9) (zb_70 I) (zs_70 I) ⟨by decide, rfl⟩ (by omega) (c_Town_isTimed_70 (d - 1) (by omega) U I c (by omega) (by omega)) ?_
      rintro _ _ _ ⟨v10, rfl, rfl, rfl, f9⟩
      show ov_R u d ov_m17 25 [(0, ov_r 70), (1, ov_i c), (2, ov_i way)] [ov_i v10] z h (P_Town_opens_70 F z h c way)
      have f11 : (v10 = 0 ∨ v10 = 1) := f9
      clear f9
      refine ov_ifeq (tgt := 59) d_17_25 (by decide) (by omega) (fun c12 => ?_) (fun c12 => ?_)
      · skip
        refine ov_blk (ls2 := [(0, ov_r 70), (1, ov_i c), (2, ov_i way)]) (st2 := [ov_i 1]) (pc2 := 60) b_17_59_1 rfl rfl ?_
        refine ov_goto (tgt := 64) d_17_60 (by decide) ?_
        exact ov_retz (st := []) d_17_64 rfl (by omega) ⟨_, rfl, rfl, rfl, (by show (1 = 0 ∨ 1 = 1) ∧ (1 = 1 → (way = 0 ∧ c ≤ 52) ∨ (way = 1 ∧ c ≤ 47)); omega)⟩
      · skip
        refine ov_blk (ls2 := [(0, ov_r 70), (1, ov_i c), (2, ov_i way)]) (st2 := [ov_i way]) (pc2 := 29) b_17_28_1 rfl rfl ?_
        refine ov_ifne (tgt := 44) d_17_29 (by decide) (by omega) (fun c13 => ?_) (fun c13 => ?_)
        · skip
          refine ov_blk (ls2 := [(0, ov_r 70), (1, ov_i c), (2, ov_i way)]) (st2 := [ov_r 70]) (pc2 := 45) b_17_44_1 rfl rfl ?_
          refine ov_getf (v := ov_r 74) d_17_45 fl_Town_21 (zb_70 I) (zs_70 I) (congrArg ov_r (rg_70_5 I)) ?_
          refine ov_blk (ls2 := [(0, ov_r 70), (1, ov_i c), (2, ov_i way)]) (st2 := [ov_i c, ov_r 74]) (pc2 := 49) b_17_48_1 rfl rfl ?_
          refine ov_iald d_17_49 (zb_74 I) (zs_74 I) (by omega) ?_
          have g14 := ra_74 I c
          refine ov_blk (ls2 := [(0, ov_r 70), (1, ov_i c), (2, ov_i way)]) (st2 := [ov_r 70, ov_i (h 74 c)]) (pc2 := 51) b_17_50_1 rfl rfl ?_
          refine ov_getf (v := ov_r 72) d_17_51 fl_Town_15 (zb_70 I) (zs_70 I) (congrArg ov_r (rg_70_3 I)) ?_
          refine ov_blk (ls2 := [(0, ov_r 70), (1, ov_i c), (2, ov_i way)]) (st2 := [ov_i c, ov_r 72, ov_i (h 74 c)]) (pc2 := 55) b_17_54_1 rfl rfl ?_
          refine ov_iald d_17_55 (zb_72 I) (zs_72 I) (by omega) ?_
          have g15 := ra_72 I c
          refine ov_icge (tgt := 63) d_17_56 (by decide) (by omega) (by omega) (fun c16 => ?_) (fun c16 => ?_)
          · skip
            refine ov_blk (ls2 := [(0, ov_r 70), (1, ov_i c), (2, ov_i way)]) (st2 := [ov_i 0]) (pc2 := 64) b_17_63_1 rfl rfl ?_
            exact ov_retz (st := []) d_17_64 rfl (by omega) ⟨_, rfl, rfl, rfl, (by show (0 = 0 ∨ 0 = 1) ∧ (0 = 1 → (way = 0 ∧ c ≤ 52) ∨ (way = 1 ∧ c ≤ 47)); omega)⟩
          · skip
            refine ov_blk (ls2 := [(0, ov_r 70), (1, ov_i c), (2, ov_i way)]) (st2 := [ov_i 1]) (pc2 := 60) b_17_59_1 rfl rfl ?_
            refine ov_goto (tgt := 64) d_17_60 (by decide) ?_
            exact ov_retz (st := []) d_17_64 rfl (by omega) ⟨_, rfl, rfl, rfl, (by show (1 = 0 ∨ 1 = 1) ∧ (1 = 1 → (way = 0 ∧ c ≤ 52) ∨ (way = 1 ∧ c ≤ 47)); omega)⟩
        · skip
          refine ov_blk (ls2 := [(0, ov_r 70), (1, ov_i c), (2, ov_i way)]) (st2 := [ov_r 70]) (pc2 := 33) b_17_32_1 rfl rfl ?_
          refine ov_getf (v := ov_r 74) d_17_33 fl_Town_21 (zb_70 I) (zs_70 I) (congrArg ov_r (rg_70_5 I)) ?_
          refine ov_blk (ls2 := [(0, ov_r 70), (1, ov_i c), (2, ov_i way)]) (st2 := [ov_i c, ov_r 74]) (pc2 := 37) b_17_36_1 rfl rfl ?_
          refine ov_iald d_17_37 (zb_74 I) (zs_74 I) (by omega) ?_
          have g17 := ra_74 I c
          refine ov_ifle (tgt := 63) d_17_38 (by decide) (by omega) (fun c18 => ?_) (fun c18 => ?_)
          · skip
            refine ov_blk (ls2 := [(0, ov_r 70), (1, ov_i c), (2, ov_i way)]) (st2 := [ov_i 0]) (pc2 := 64) b_17_63_1 rfl rfl ?_
            exact ov_retz (st := []) d_17_64 rfl (by omega) ⟨_, rfl, rfl, rfl, (by show (0 = 0 ∨ 0 = 1) ∧ (0 = 1 → (way = 0 ∧ c ≤ 52) ∨ (way = 1 ∧ c ≤ 47)); omega)⟩
          · skip
            refine ov_goto (tgt := 59) d_17_41 (by decide) ?_
            refine ov_blk (ls2 := [(0, ov_r 70), (1, ov_i c), (2, ov_i way)]) (st2 := [ov_i 1]) (pc2 := 60) b_17_59_1 rfl rfl ?_
            refine ov_goto (tgt := 64) d_17_60 (by decide) ?_
            exact ov_retz (st := []) d_17_64 rfl (by omega) ⟨_, rfl, rfl, rfl, (by show (1 = 0 ∨ 1 = 1) ∧ (1 = 1 → (way = 0 ∧ c ≤ 52) ∨ (way = 1 ∧ c ≤ 47)); omega)⟩
    · skip
      refine ov_blk (ls2 := [(0, ov_r 70), (1, ov_i c), (2, ov_i way)]) (st2 := [ov_i 0]) (pc2 := 19) b_17_18_1 rfl rfl ?_
      exact ov_retz (st := []) d_17_19 rfl (by omega) ⟨_, rfl, rfl, rfl, (by show (0 = 0 ∨ 0 = 1) ∧ (0 = 1 → (way = 0 ∧ c ≤ 52) ∨ (way = 1 ∧ c ≤ 47)); omega)⟩
abbrev P_Town_complete_70 (F : ov_H) (z : ov_Z) (h : ov_H)  : Option ov_V → ov_Z → ov_H → Prop := fun r0 z' h' => r0 = none ∧ ov_I F z' h' ∧ (0 ≤ (h' 76 0) ∧ (h' 36 7) = (h 36 7) ∧ (h' 1 1) = (h 1 1) ∧ (h' 90 2) = (h 90 2) ∧ (h' 0 10) = (h 0 10) ∧ (h' 0 11) = (h 0 11) ∧ (h' 0 12) = (h 0 12) ∧ (h' 0 13) = (h 0 13) ∧ (h' 3 1) = (h 3 1) ∧ (h' 36 8) = (h 36 8) ∧ (h' 46 3) = (h 46 3) ∧ (h' 46 4) = (h 46 4) ∧ (h' 49 4) = (h 49 4) ∧ (h' 49 5) = (h 49 5) ∧ (h' 64 0) = (h 64 0))
set_option maxHeartbeats 4000000 in
theorem c_Town_complete_70 {u : ov_U} {F : ov_H} {z : ov_Z} {h : ov_H} (d : Nat) (hd : 2 ≤ d) (U : ov_cap u) (I : ov_I F z h) (hw : ov_kw 226673591177742970257408 F) : ov_T u d ov_m15 [ov_r 70] z h (P_Town_complete_70 F z h) := by
  refine ov_en rfl (Nat.le_of_ble_eq_true rfl) ?_
  show ov_R u d ov_m15 0 [(0, ov_r 70)] [] z h (P_Town_complete_70 F z h)
  refine ov_blk (ls2 := [(0, ov_r 70)]) (st2 := [ov_i 10, ov_i 0, ov_r 70]) (pc2 := 4) b_15_0_3 rfl rfl ?_
  refine ov_cV (as := [ov_i 0, ov_i 10]) (st := []) (d2 := d - 1) d_15_4 lk_Town_75 rfl (Nat.le_of_ble_eq_true rfl) (c := 9) (zb_70 I) (zs_70 I) ⟨by decide, rfl⟩ (by omega) (c_Town_setUnlessTold_70 (d - 1) (by omega) U I (ov_kws hw (by decide +kernel)) 0 10 (by omega) (by omega) (by omega) (by omega)) ?_
  rintro _ z2 h3 ⟨rfl, I4, f1⟩
  show ov_R u d ov_m15 7 [(0, ov_r 70)] [] z2 h3 (P_Town_complete_70 F z h)
  have f5 : ((0 : Int) = 0 → 0 ≤ (10 : Int) → 0 ≤ (h3 76 0)) ∧ (¬ (0 : Int) = 0 → (h3 76 0) = (h 76 0)) ∧ (h3 36 7) = (h 36 7) ∧ (h3 1 1) = (h 1 1) ∧ (h3 90 2) = (h 90 2) ∧ (h3 0 10) = (h 0 10) ∧ (h3 0 11) = (h 0 11) ∧ (h3 0 12) = (h 0 12) ∧ (h3 0 13) = (h 0 13) ∧ (h3 3 1) = (h 3 1) ∧ (h3 36 8) = (h 36 8) ∧ (h3 46 3) = (h 46 3) ∧ (h3 46 4) = (h 46 4) ∧ (h3 49 4) = (h 49 4) ∧ (h3 49 5) = (h 49 5) ∧ (h3 64 0) = (h 64 0) := f1
  clear f1
  refine ov_blk (ls2 := [(0, ov_r 70)]) (st2 := [ov_r 70, ov_i 1, ov_r 70]) (pc2 := 10) b_15_7_3 rfl rfl ?_
  refine ov_getf (v := ov_r 76) d_15_10 fl_Town_27 (zb_70 I4) (zs_70 I4) (congrArg ov_r (rg_70_7 I4)) ?_
  refine ov_blk (ls2 := [(0, ov_r 70)]) (st2 := [ov_i 0, ov_r 76, ov_i 1, ov_r 70]) (pc2 := 14) b_15_13_1 rfl rfl ?_
  refine ov_iald d_15_14 (zb_76 I4) (zs_76 I4) (by omega) ?_
  have g6 := ra_76 I4 0
  refine ov_cV (as := [ov_i 1, ov_i (h3 76 0)]) (st := []) (d2 := d - 1) d_15_15 lk_Town_75 rfl (Nat.le_of_ble_eq_true rfl) (c := 9) (zb_70 I4) (zs_70 I4) ⟨by decide, rfl⟩ (by omega) (c_Town_setUnlessTold_70 (d - 1) (by omega) U I4 (ov_kws hw (by decide +kernel)) 1 (h3 76 0) (by omega) (by omega) (by omega) (by omega)) ?_
  rintro _ z8 h9 ⟨rfl, I10, f7⟩
  show ov_R u d ov_m15 18 [(0, ov_r 70)] [] z8 h9 (P_Town_complete_70 F z h)
  have f11 : ((1 : Int) = 0 → 0 ≤ (h3 76 0) → 0 ≤ (h9 76 0)) ∧ (¬ (1 : Int) = 0 → (h9 76 0) = (h3 76 0)) ∧ (h9 36 7) = (h3 36 7) ∧ (h9 1 1) = (h3 1 1) ∧ (h9 90 2) = (h3 90 2) ∧ (h9 0 10) = (h3 0 10) ∧ (h9 0 11) = (h3 0 11) ∧ (h9 0 12) = (h3 0 12) ∧ (h9 0 13) = (h3 0 13) ∧ (h9 3 1) = (h3 3 1) ∧ (h9 36 8) = (h3 36 8) ∧ (h9 46 3) = (h3 46 3) ∧ (h9 46 4) = (h3 46 4) ∧ (h9 49 4) = (h3 49 4) ∧ (h9 49 5) = (h3 49 5) ∧ (h9 64 0) = (h3 64 0) := f7
  clear f7
  refine ov_blk (ls2 := [(0, ov_r 70)]) (st2 := [ov_r 70, ov_i 2, ov_r 70]) (pc2 := 21) b_15_18_3 rfl rfl ?_
  refine ov_getf (v := ov_r 76) d_15_21 fl_Town_27 (zb_70 I10) (zs_70 I10) (congrArg ov_r (rg_70_7 I10)) ?_
  refine ov_blk (ls2 := [(0, ov_r 70)]) (st2 := [ov_i 0, ov_r 76, ov_i 2, ov_r 70]) (pc2 := 25) b_15_24_1 rfl rfl ?_
  refine ov_iald d_15_25 (zb_76 I10) (zs_76 I10) (by omega) ?_
  have g12 := ra_76 I10 0
  refine ov_cV (as := [ov_i 2, ov_i (h9 76 0)]) (st := []) (d2 := d - 1) d_15_26 lk_Town_75 rfl (Nat.le_of_ble_eq_true rfl) (c := 9) (zb_70 I10) (zs_70 I10) ⟨by decide, rfl⟩ (by omega) (c_Town_setUnlessTold_70 (d - 1) (by omega) U I10 (ov_kws hw (by decide +kernel)) 2 (h9 76 0) (by omega) (by omega) (by omega) (by omega)) ?_
  rintro _ z14 h15 ⟨rfl, I16, f13⟩
  show ov_R u d ov_m15 29 [(0, ov_r 70)] [] z14 h15 (P_Town_complete_70 F z h)
  have f17 : ((2 : Int) = 0 → 0 ≤ (h9 76 0) → 0 ≤ (h15 76 0)) ∧ (¬ (2 : Int) = 0 → (h15 76 0) = (h9 76 0)) ∧ (h15 36 7) = (h9 36 7) ∧ (h15 1 1) = (h9 1 1) ∧ (h15 90 2) = (h9 90 2) ∧ (h15 0 10) = (h9 0 10) ∧ (h15 0 11) = (h9 0 11) ∧ (h15 0 12) = (h9 0 12) ∧ (h15 0 13) = (h9 0 13) ∧ (h15 3 1) = (h9 3 1) ∧ (h15 36 8) = (h9 36 8) ∧ (h15 46 3) = (h9 46 3) ∧ (h15 46 4) = (h9 46 4) ∧ (h15 49 4) = (h9 49 4) ∧ (h15 49 5) = (h9 49 5) ∧ (h15 64 0) = (h9 64 0) := f13
  clear f13
  refine ov_blk (ls2 := [(0, ov_r 70)]) (st2 := [ov_i 0, ov_i 3, ov_r 70]) (pc2 := 32) b_15_29_3 rfl rfl ?_
  refine ov_cV (as := [ov_i 3, ov_i 0]) (st := []) (d2 := d - 1) d_15_32 lk_Town_75 rfl (Nat.le_of_ble_eq_true rfl) (c := 9) (zb_70 I16) (zs_70 I16) ⟨by decide, rfl⟩ (by omega) (c_Town_setUnlessTold_70 (d - 1) (by omega) U I16 (ov_kws hw (by decide +kernel)) 3 0 (by omega) (by omega) (by omega) (by omega)) ?_
  rintro _ z19 h20 ⟨rfl, I21, f18⟩
  show ov_R u d ov_m15 35 [(0, ov_r 70)] [] z19 h20 (P_Town_complete_70 F z h)
  have f22 : ((3 : Int) = 0 → 0 ≤ (0 : Int) → 0 ≤ (h20 76 0)) ∧ (¬ (3 : Int) = 0 → (h20 76 0) = (h15 76 0)) ∧ (h20 36 7) = (h15 36 7) ∧ (h20 1 1) = (h15 1 1) ∧ (h20 90 2) = (h15 90 2) ∧ (h20 0 10) = (h15 0 10) ∧ (h20 0 11) = (h15 0 11) ∧ (h20 0 12) = (h15 0 12) ∧ (h20 0 13) = (h15 0 13) ∧ (h20 3 1) = (h15 3 1) ∧ (h20 36 8) = (h15 36 8) ∧ (h20 46 3) = (h15 46 3) ∧ (h20 46 4) = (h15 46 4) ∧ (h20 49 4) = (h15 49 4) ∧ (h20 49 5) = (h15 49 5) ∧ (h20 64 0) = (h15 64 0) := f18
  clear f18
  refine ov_blk (ls2 := [(0, ov_r 70), (1, ov_i 0)]) (st2 := []) (pc2 := 37) b_15_35_2 rfl rfl ?_
  have L26 : ∀ (n23 : Nat) (x1 : Int) (z27 : ov_Z) (h28 : ov_H) (I29 : ov_I F z27 h28) (q25 : 0 ≤ x1 ∧ x1 ≤ 54 ∧ 0 ≤ (h28 76 0) ∧ (h28 36 7) = (h 36 7) ∧ (h28 1 1) = (h 1 1) ∧ (h28 90 2) = (h 90 2) ∧ (h28 0 10) = (h 0 10) ∧ (h28 0 11) = (h 0 11) ∧ (h28 0 12) = (h 0 12) ∧ (h28 0 13) = (h 0 13) ∧ (h28 3 1) = (h 3 1) ∧ (h28 36 8) = (h 36 8) ∧ (h28 46 3) = (h 46 3) ∧ (h28 46 4) = (h 46 4) ∧ (h28 49 4) = (h 49 4) ∧ (h28 49 5) = (h 49 5) ∧ (h28 64 0) = (h 64 0)), 54 - x1 < (n23 : Int) → ov_R u d ov_m15 37 [(0, ov_r 70), (1, ov_i x1)] [] z27 h28 (P_Town_complete_70 F z h) := by
    intro n23
    induction n23 with
    | zero =>
      intro x1 z27 h28 I29 q25 hn30
      exact absurd hn30 (by omega)
    | succ n23 ih24 =>
      intro x1 z27 h28 I29 q25 hn30
      refine ov_blk (ls2 := [(0, ov_r 70), (1, ov_i x1)]) (st2 := [ov_i 54, ov_i x1]) (pc2 := 40) b_15_37_2 rfl rfl ?_
      refine ov_icge (tgt := 84) d_15_40 (by decide) (by omega) (by omega) (fun c31 => ?_) (fun c31 => ?_)
      · skip
        exact ov_retv (st := []) d_15_84 rfl ⟨rfl, I29, (by show 0 ≤ (h28 76 0) ∧ (h28 36 7) = (h 36 7) ∧ (h28 1 1) = (h 1 1) ∧ (h28 90 2) = (h 90 2) ∧ (h28 0 10) = (h 0 10) ∧ (h28 0 11) = (h 0 11) ∧ (h28 0 12) = (h 0 12) ∧ (h28 0 13) = (h 0 13) ∧ (h28 3 1) = (h 3 1) ∧ (h28 36 8) = (h 36 8) ∧ (h28 46 3) = (h 46 3) ∧ (h28 46 4) = (h 46 4) ∧ (h28 49 4) = (h 49 4) ∧ (h28 49 5) = (h 49 5) ∧ (h28 64 0) = (h 64 0); omega)⟩
      · skip
        refine ov_blk (ls2 := [(0, ov_r 70), (1, ov_i x1)]) (st2 := [ov_r 70]) (pc2 := 44) b_15_43_1 rfl rfl ?_
        refine ov_getf (v := ov_r 77) d_15_44 fl_Town_30 (zb_70 I29) (zs_70 I29) (congrArg ov_r (rg_70_12 I29)) ?_
        refine ov_blk (ls2 := [(0, ov_r 70), (1, ov_i x1)]) (st2 := [ov_i 0, ov_i x1, ov_r 70, ov_i x1, ov_r 77]) (pc2 := 51) b_15_47_4 rfl rfl ?_
        refine ov_cV (as := [ov_i x1, ov_i 0]) (st := [ov_i x1, ov_r 77]) (d2 := d - 1) d_15_51 lk_Town_79 rfl (Nat.le_of_ble_eq_true rfl) (c := 9) (zb_70 I29) (zs_70 I29) ⟨by decide, rfl⟩ (by omega) (c_Town_opens_70 (d - 1) (by omega) U I29 x1 0 (by omega) (by omega) (by omega) (by omega)) ?_
        rintro _ _ _ ⟨v33, rfl, rfl, rfl, f32⟩
        show ov_R u d ov_m15 54 [(0, ov_r 70), (1, ov_i x1)] [ov_i v33, ov_i x1, ov_r 77] z27 h28 (P_Town_complete_70 F z h)
        have f34 : (v33 = 0 ∨ v33 = 1) ∧ (v33 = 1 → ((0 : Int) = 0 ∧ x1 ≤ 52) ∨ ((0 : Int) = 1 ∧ x1 ≤ 47)) := f32
        clear f32
        refine ov_ifeq (tgt := 61) d_15_54 (by decide) (by omega) (fun c35 => ?_) (fun c35 => ?_)
        · skip
          refine ov_blk (ls2 := [(0, ov_r 70), (1, ov_i x1)]) (st2 := [ov_i 1, ov_i x1, ov_r 70, ov_i 0, ov_i x1, ov_r 77]) (pc2 := 65) b_15_61_4 rfl rfl ?_
          refine ov_cV (as := [ov_i x1, ov_i 1]) (st := [ov_i 0, ov_i x1, ov_r 77]) (d2 := d - 1) d_15_65 lk_Town_79 rfl (Nat.le_of_ble_eq_true rfl) (c := 9) (zb_70 I29) (zs_70 I29) ⟨by decide, rfl⟩ (by omega) (c_Town_opens_70 (d - 1) (by omega) U I29 x1 1 (by omega) (by omega) (by omega) (by omega)) ?_
          rintro _ _ _ ⟨v37, rfl, rfl, rfl, f36⟩
          show ov_R u d ov_m15 68 [(0, ov_r 70), (1, ov_i x1)] [ov_i v37, ov_i 0, ov_i x1, ov_r 77] z27 h28 (P_Town_complete_70 F z h)
          have f38 : (v37 = 0 ∨ v37 = 1) ∧ (v37 = 1 → ((1 : Int) = 0 ∧ x1 ≤ 52) ∨ ((1 : Int) = 1 ∧ x1 ≤ 47)) := f36
          clear f36
          refine ov_ifeq (tgt := 75) d_15_68 (by decide) (by omega) (fun c39 => ?_) (fun c39 => ?_)
          · skip
            refine ov_blk (ls2 := [(0, ov_r 70), (1, ov_i x1)]) (st2 := [ov_i (0 + 0), ov_i x1, ov_r 77]) (pc2 := 77) b_15_75_2 rfl rfl ?_
            refine ov_iast d_15_77 (zb_77 I29) (zs_77 I29) (by omega) ?_
            have I40 := ua_77 (k := x1) (x := (0 + 0)) I29 (by omega) (hw 77 (by decide +kernel))
            refine ov_blk (ls2 := [(0, ov_r 70), (1, ov_i (x1 + 1))]) (st2 := []) (pc2 := 81) b_15_78_1 rfl rfl ?_
            refine ov_goto (tgt := 37) d_15_81 (by decide) ?_
            exact ih24 (x1 + 1) _ _ I40 (by show 0 ≤ (x1 + 1) ∧ (x1 + 1) ≤ 54 ∧ 0 ≤ (h28 76 0) ∧ (h28 36 7) = (h 36 7) ∧ (h28 1 1) = (h 1 1) ∧ (h28 90 2) = (h 90 2) ∧ (h28 0 10) = (h 0 10) ∧ (h28 0 11) = (h 0 11) ∧ (h28 0 12) = (h 0 12) ∧ (h28 0 13) = (h 0 13) ∧ (h28 3 1) = (h 3 1) ∧ (h28 36 8) = (h 36 8) ∧ (h28 46 3) = (h 46 3) ∧ (h28 46 4) = (h 46 4) ∧ (h28 49 4) = (h 49 4) ∧ (h28 49 5) = (h 49 5) ∧ (h28 64 0) = (h 64 0); omega) (by omega)
          · skip
            refine ov_blk (ls2 := [(0, ov_r 70), (1, ov_i x1)]) (st2 := [ov_i 2, ov_i 0, ov_i x1, ov_r 77]) (pc2 := 72) b_15_71_1 rfl rfl ?_
            refine ov_goto (tgt := 76) d_15_72 (by decide) ?_
            refine ov_blk (ls2 := [(0, ov_r 70), (1, ov_i x1)]) (st2 := [ov_i (0 + 2), ov_i x1, ov_r 77]) (pc2 := 77) b_15_76_1 rfl rfl ?_
            refine ov_iast d_15_77 (zb_77 I29) (zs_77 I29) (by omega) ?_
            have I41 := ua_77 (k := x1) (x := (0 + 2)) I29 (by omega) (hw 77 (by decide +kernel))
            refine ov_blk (ls2 := [(0, ov_r 70), (1, ov_i (x1 + 1))]) (st2 := []) (pc2 := 81) b_15_78_1 rfl rfl ?_
            refine ov_goto (tgt := 37) d_15_81 (by decide) ?_
            exact ih24 (x1 + 1) _ _ I41 (by show 0 ≤ (x1 + 1) ∧ (x1 + 1) ≤ 54 ∧ 0 ≤ (h28 76 0) ∧ (h28 36 7) = (h 36 7) ∧ (h28 1 1) = (h 1 1) ∧ (h28 90 2) = (h 90 2) ∧ (h28 0 10) = (h 0 10) ∧ (h28 0 11) = (h 0 11) ∧ (h28 0 12) = (h 0 12) ∧ (h28 0 13) = (h 0 13) ∧ (h28 3 1) = (h 3 1) ∧ (h28 36 8) = (h 36 8) ∧ (h28 46 3) = (h 46 3) ∧ (h28 46 4) = (h 46 4) ∧ (h28 49 4) = (h 49 4) ∧ (h28 49 5) = (h 49 5) ∧ (h28 64 0) = (h 64 0); omega) (by omega)
        · skip
          refine ov_blk (ls2 := [(0, ov_r 70), (1, ov_i x1)]) (st2 := [ov_i 1, ov_i x1, ov_r 77]) (pc2 := 58) b_15_57_1 rfl rfl ?_
          refine ov_goto (tgt := 62) d_15_58 (by decide) ?_
          refine ov_blk (ls2 := [(0, ov_r 70), (1, ov_i x1)]) (st2 := [ov_i 1, ov_i x1, ov_r 70, ov_i 1, ov_i x1, ov_r 77]) (pc2 := 65) b_15_62_3 rfl rfl ?_
          refine ov_cV (as := [ov_i x1, ov_i 1]) (st := [ov_i 1, ov_i x1, ov_r 77]) (d2 := d - 1) d_15_65 lk_Town_79 rfl (Nat.le_of_ble_eq_true rfl) (c := 9) (zb_70 I29) (zs_70 I29) ⟨by decide, rfl⟩ (by omega) (c_Town_opens_70 (d - 1) (by omega) U I29 x1 1 (by omega) (by omega) (by omega) (by omega)) ?_
          rintro _ _ _ ⟨v43, rfl, rfl, rfl, f42⟩
          show ov_R u d ov_m15 68 [(0, ov_r 70), (1, ov_i x1)] [ov_i v43, ov_i 1, ov_i x1, ov_r 77] z27 h28 (P_Town_complete_70 F z h)
          have f44 : (v43 = 0 ∨ v43 = 1) ∧ (v43 = 1 → ((1 : Int) = 0 ∧ x1 ≤ 52) ∨ ((1 : Int) = 1 ∧ x1 ≤ 47)) := f42
          clear f42
          refine ov_ifeq (tgt := 75) d_15_68 (by decide) (by omega) (fun c45 => ?_) (fun c45 => ?_)
          · skip
            refine ov_blk (ls2 := [(0, ov_r 70), (1, ov_i x1)]) (st2 := [ov_i (1 + 0), ov_i x1, ov_r 77]) (pc2 := 77) b_15_75_2 rfl rfl ?_
            refine ov_iast d_15_77 (zb_77 I29) (zs_77 I29) (by omega) ?_
            have I46 := ua_77 (k := x1) (x := (1 + 0)) I29 (by omega) (hw 77 (by decide +kernel))
            refine ov_blk (ls2 := [(0, ov_r 70), (1, ov_i (x1 + 1))]) (st2 := []) (pc2 := 81) b_15_78_1 rfl rfl ?_
            refine ov_goto (tgt := 37) d_15_81 (by decide) ?_
            exact ih24 (x1 + 1) _ _ I46 (by show 0 ≤ (x1 + 1) ∧ (x1 + 1) ≤ 54 ∧ 0 ≤ (h28 76 0) ∧ (h28 36 7) = (h 36 7) ∧ (h28 1 1) = (h 1 1) ∧ (h28 90 2) = (h 90 2) ∧ (h28 0 10) = (h 0 10) ∧ (h28 0 11) = (h 0 11) ∧ (h28 0 12) = (h 0 12) ∧ (h28 0 13) = (h 0 13) ∧ (h28 3 1) = (h 3 1) ∧ (h28 36 8) = (h 36 8) ∧ (h28 46 3) = (h 46 3) ∧ (h28 46 4) = (h 46 4) ∧ (h28 49 4) = (h 49 4) ∧ (h28 49 5) = (h 49 5) ∧ (h28 64 0) = (h 64 0); omega) (by omega)
          · skip
            refine ov_blk (ls2 := [(0, ov_r 70), (1, ov_i x1)]) (st2 := [ov_i 2, ov_i 1, ov_i x1, ov_r 77]) (pc2 := 72) b_15_71_1 rfl rfl ?_
            refine ov_goto (tgt := 76) d_15_72 (by decide) ?_
            refine ov_blk (ls2 := [(0, ov_r 70), (1, ov_i x1)]) (st2 := [ov_i (1 + 2), ov_i x1, ov_r 77]) (pc2 := 77) b_15_76_1 rfl rfl ?_
            refine ov_iast d_15_77 (zb_77 I29) (zs_77 I29) (by omega) ?_
            have I47 := ua_77 (k := x1) (x := (1 + 2)) I29 (by omega) (hw 77 (by decide +kernel))
            refine ov_blk (ls2 := [(0, ov_r 70), (1, ov_i (x1 + 1))]) (st2 := []) (pc2 := 81) b_15_78_1 rfl rfl ?_
            refine ov_goto (tgt := 37) d_15_81 (by decide) ?_
            exact ih24 (x1 + 1) _ _ I47 (by show 0 ≤ (x1 + 1) ∧ (x1 + 1) ≤ 54 ∧ 0 ≤ (h28 76 0) ∧ (h28 36 7) = (h 36 7) ∧ (h28 1 1) = (h 1 1) ∧ (h28 90 2) = (h 90 2) ∧ (h28 0 10) = (h 0 10) ∧ (h28 0 11) = (h 0 11) ∧ (h28 0 12) = (h 0 12) ∧ (h28 0 13) = (h 0 13) ∧ (h28 3 1) = (h 3 1) ∧ (h28 36 8) = (h 36 8) ∧ (h28 46 3) = (h 46 3) ∧ (h28 46 4) = (h 46 4) ∧ (h28 49 4) = (h 49 4) ∧ (h28 49 5) = (h 49 5) ∧ (h28 64 0) = (h 64 0); omega) (by omega)
  exact L26 55 0 _ _ I21 (by show 0 ≤ 0 ∧ 0 ≤ 54 ∧ 0 ≤ (h20 76 0) ∧ (h20 36 7) = (h 36 7) ∧ (h20 1 1) = (h 1 1) ∧ (h20 90 2) = (h 90 2) ∧ (h20 0 10) = (h 0 10) ∧ (h20 0 11) = (h 0 11) ∧ (h20 0 12) = (h 0 12) ∧ (h20 0 13) = (h 0 13) ∧ (h20 3 1) = (h 3 1) ∧ (h20 36 8) = (h 36 8) ∧ (h20 46 3) = (h 46 3) ∧ (h20 46 4) = (h 46 4) ∧ (h20 49 4) = (h 49 4) ∧ (h20 49 5) = (h 49 5) ∧ (h20 64 0) = (h 64 0); omega) (by omega)
abbrev P_Town_clear_70 (F : ov_H) (z : ov_Z) (h : ov_H)  : Option ov_V → ov_Z → ov_H → Prop := fun r0 z' h' => r0 = none ∧ ov_I F z' h' ∧ (1 ≤ (h' 70 0) ∧ 1 ≤ (h' 70 1) ∧ (h' 36 7) = (h 36 7) ∧ (h' 1 1) = (h 1 1) ∧ (h' 90 2) = (h 90 2) ∧ (h' 0 10) = (h 0 10) ∧ (h' 0 11) = (h 0 11) ∧ (h' 0 12) = (h 0 12) ∧ (h' 0 13) = (h 0 13) ∧ (h' 3 1) = (h 3 1) ∧ (h' 36 8) = (h 36 8) ∧ (h' 46 3) = (h 46 3) ∧ (h' 46 4) = (h 46 4) ∧ (h' 49 4) = (h 49 4) ∧ (h' 49 5) = (h 49 5) ∧ (h' 64 0) = (h 64 0))
set_option maxHeartbeats 4000000 in
theorem c_Town_clear_70 {u : ov_U} {F : ov_H} {z : ov_Z} {h : ov_H} (d : Nat) (hd : 1 ≤ d) (U : ov_cap u) (I : ov_I F z h) (hw : ov_kw 116878570451023719038976 F) : ov_T u d ov_m13 [ov_r 70] z h (P_Town_clear_70 F z h) := by
  refine ov_en rfl (Nat.le_of_ble_eq_true rfl) ?_
  show ov_R u d ov_m13 0 [(0, ov_r 70)] [] z h (P_Town_clear_70 F z h)
  refine ov_blk (ls2 := [(0, ov_r 70)]) (st2 := [ov_i 1, ov_r 70]) (pc2 := 2) b_13_0_2 rfl rfl ?_
  refine ov_putf (x := 1) d_13_2 fl_Town_46 (zb_70 I) (zs_70 I) rfl nk_0 rfl ?_
  have I1 := up_70_0 (x := 1) I (by omega) (hw 70 (by decide +kernel))
  refine ov_blk (ls2 := [(0, ov_r 70)]) (st2 := [ov_i 1, ov_r 70]) (pc2 := 7) b_13_5_2 rfl rfl ?_
  refine ov_putf (x := 1) d_13_7 fl_Town_50 (zb_70 I1) (zs_70 I1) rfl nk_0 rfl ?_
  have I2 := up_70_1 (x := 1) I1 (by omega) (hw 70 (by decide +kernel))
  have I3 := ov_I_fu (T := 70) I2 (by show (1 : Int) ≤ 1 ∧ (1 : Int) ≤ 1; omega)
  refine ov_blk (ls2 := [(0, ov_r 70)]) (st2 := [ov_r 70]) (pc2 := 11) b_13_10_1 rfl rfl ?_
  refine ov_getf (v := ov_r 71) d_13_11 fl_Town_9 (zb_70 I3) (zs_70 I3) (congrArg ov_r (rg_70_2 I3)) ?_
  refine ov_blk (ls2 := [(0, ov_r 70)]) (st2 := [ov_i (-1), ov_r 71]) (pc2 := 15) b_13_14_1 rfl rfl ?_
  refine ov_cS (as := [ov_r 71, ov_i (-1)]) (st := []) (d2 := d - 1) d_13_15 lk_Town_53 rfl (Nat.le_of_ble_eq_true rfl) (by omega) (c_Arrays_fill_AIIV_71 (d - 1) (by omega) U I3 (ov_kws (ov_kwu hw) (by decide +kernel)) (-1) (by omega) (by omega)) ?_
  rintro _ z5 h6 ⟨rfl, I7, f4⟩
  show ov_R u d ov_m13 18 [(0, ov_r 70)] [] z5 h6 (P_Town_clear_70 F z h)
  have f8 : (h6 36 7) = (h 36 7) ∧ (h6 1 1) = (h 1 1) ∧ (h6 90 2) = (h 90 2) ∧ (h6 0 10) = (h 0 10) ∧ (h6 0 11) = (h 0 11) ∧ (h6 0 12) = (h 0 12) ∧ (h6 0 13) = (h 0 13) ∧ (h6 3 1) = (h 3 1) ∧ (h6 36 8) = (h 36 8) ∧ (h6 46 3) = (h 46 3) ∧ (h6 46 4) = (h 46 4) ∧ (h6 49 4) = (h 49 4) ∧ (h6 49 5) = (h 49 5) ∧ (h6 64 0) = (h 64 0) ∧ (h6 76 0) = (h 76 0) := f4
  clear f4
  refine ov_blk (ls2 := [(0, ov_r 70)]) (st2 := [ov_r 70]) (pc2 := 19) b_13_18_1 rfl rfl ?_
  refine ov_getf (v := ov_r 75) d_13_19 fl_Town_24 (zb_70 I7) (zs_70 I7) (congrArg ov_r (rg_70_6 I7)) ?_
  refine ov_blk (ls2 := [(0, ov_r 70)]) (st2 := [ov_i 0, ov_r 75]) (pc2 := 23) b_13_22_1 rfl rfl ?_
  refine ov_cS (as := [ov_r 75, ov_i 0]) (st := []) (d2 := d - 1) d_13_23 lk_Town_53 rfl (Nat.le_of_ble_eq_true rfl) (by omega) (c_Arrays_fill_AIIV_75 (d - 1) (by omega) U I7 (ov_kws (ov_kwu hw) (by decide +kernel)) 0 (by omega) (by omega)) ?_
  rintro _ z10 h11 ⟨rfl, I12, f9⟩
  show ov_R u d ov_m13 26 [(0, ov_r 70)] [] z10 h11 (P_Town_clear_70 F z h)
  have f13 : (h11 36 7) = (h6 36 7) ∧ (h11 1 1) = (h6 1 1) ∧ (h11 90 2) = (h6 90 2) ∧ (h11 0 10) = (h6 0 10) ∧ (h11 0 11) = (h6 0 11) ∧ (h11 0 12) = (h6 0 12) ∧ (h11 0 13) = (h6 0 13) ∧ (h11 3 1) = (h6 3 1) ∧ (h11 36 8) = (h6 36 8) ∧ (h11 46 3) = (h6 46 3) ∧ (h11 46 4) = (h6 46 4) ∧ (h11 49 4) = (h6 49 4) ∧ (h11 49 5) = (h6 49 5) ∧ (h11 64 0) = (h6 64 0) ∧ (h11 76 0) = (h6 76 0) := f9
  clear f9
  refine ov_blk (ls2 := [(0, ov_r 70)]) (st2 := [ov_r 70]) (pc2 := 27) b_13_26_1 rfl rfl ?_
  refine ov_getf (v := ov_r 76) d_13_27 fl_Town_27 (zb_70 I12) (zs_70 I12) (congrArg ov_r (rg_70_7 I12)) ?_
  refine ov_blk (ls2 := [(0, ov_r 70)]) (st2 := [ov_i (-1), ov_r 76]) (pc2 := 31) b_13_30_1 rfl rfl ?_
  refine ov_cS (as := [ov_r 76, ov_i (-1)]) (st := []) (d2 := d - 1) d_13_31 lk_Town_53 rfl (Nat.le_of_ble_eq_true rfl) (by omega) (c_Arrays_fill_AIIV_76 (d - 1) (by omega) U I12 (ov_kws (ov_kwu hw) (by decide +kernel)) (-1) (by omega) (by omega)) ?_
  rintro _ z15 h16 ⟨rfl, I17, f14⟩
  show ov_R u d ov_m13 34 [(0, ov_r 70)] [] z15 h16 (P_Town_clear_70 F z h)
  have f18 : (h16 36 7) = (h11 36 7) ∧ (h16 1 1) = (h11 1 1) ∧ (h16 90 2) = (h11 90 2) ∧ (h16 0 10) = (h11 0 10) ∧ (h16 0 11) = (h11 0 11) ∧ (h16 0 12) = (h11 0 12) ∧ (h16 0 13) = (h11 0 13) ∧ (h16 3 1) = (h11 3 1) ∧ (h16 36 8) = (h11 36 8) ∧ (h16 46 3) = (h11 46 3) ∧ (h16 46 4) = (h11 46 4) ∧ (h16 49 4) = (h11 49 4) ∧ (h16 49 5) = (h11 49 5) ∧ (h16 64 0) = (h11 64 0) := f14
  clear f14
  refine ov_blk (ls2 := [(0, ov_r 70)]) (st2 := [ov_i 0, ov_r 70]) (pc2 := 36) b_13_34_2 rfl rfl ?_
  refine ov_putf (x := 0) d_13_36 fl_Town_59 (zb_70 I17) (zs_70 I17) rfl (nk_3 (by omega)) rfl ?_
  have I19 := up_70_8 (x := 0) I17 (by omega) ((ov_kwu hw) 70 (by decide +kernel))
  refine ov_blk (ls2 := [(0, ov_r 70)]) (st2 := [ov_i 0, ov_r 70]) (pc2 := 41) b_13_39_2 rfl rfl ?_
  refine ov_putf (x := 0) d_13_41 fl_Town_63 (zb_70 I19) (zs_70 I19) rfl nk_0 rfl ?_
  have I20 := up_70_9 (x := 0) I19 (by omega) ((ov_kwu hw) 70 (by decide +kernel))
  refine ov_blk (ls2 := [(0, ov_r 70)]) (st2 := [ov_i 1, ov_r 70]) (pc2 := 46) b_13_44_2 rfl rfl ?_
  refine ov_putf (x := 1) d_13_46 fl_Town_66 (zb_70 I20) (zs_70 I20) rfl nk_0 rfl ?_
  have I21 := up_70_10 (x := 1) I20 (by omega) ((ov_kwu hw) 70 (by decide +kernel))
  refine ov_blk (ls2 := [(0, ov_r 70)]) (st2 := [ov_i 0, ov_r 70]) (pc2 := 51) b_13_49_2 rfl rfl ?_
  refine ov_putf (x := 0) d_13_51 fl_Town_69 (zb_70 I21) (zs_70 I21) rfl nk_0 rfl ?_
  have I22 := up_70_11 (x := 0) I21 (by omega) ((ov_kwu hw) 70 (by decide +kernel))
  refine ov_blk (ls2 := [(0, ov_r 70)]) (st2 := [ov_i 0, ov_r 70]) (pc2 := 56) b_13_54_2 rfl rfl ?_
  refine ov_putf (x := 0) d_13_56 fl_Town_72 (zb_70 I22) (zs_70 I22) rfl nk_0 rfl ?_
  have I23 := up_70_16 (x := 0) I22 (by omega) ((ov_kwu hw) 70 (by decide +kernel))
  have gf24 : 1 ≤ (h16 70 0) ∧ 1 ≤ (h16 70 1) := ov_I_fg (h := (ov_up (ov_up (ov_up (ov_up (ov_up h16 70 8 0) 70 9 0) 70 10 1) 70 11 0) 70 16 0)) (T := 70) (by omega) I23
  exact ov_retv (st := []) d_13_59 rfl ⟨rfl, (ov_I_fd I23), (by show 1 ≤ (h16 70 0) ∧ 1 ≤ (h16 70 1) ∧ (h16 36 7) = (h 36 7) ∧ (h16 1 1) = (h 1 1) ∧ (h16 90 2) = (h 90 2) ∧ (h16 0 10) = (h 0 10) ∧ (h16 0 11) = (h 0 11) ∧ (h16 0 12) = (h 0 12) ∧ (h16 0 13) = (h 0 13) ∧ (h16 3 1) = (h 3 1) ∧ (h16 36 8) = (h 36 8) ∧ (h16 46 3) = (h 46 3) ∧ (h16 46 4) = (h 46 4) ∧ (h16 49 4) = (h 49 4) ∧ (h16 49 5) = (h 49 5) ∧ (h16 64 0) = (h 64 0); omega)⟩
abbrev P_Town_longestWay_70 (F : ov_H) (z : ov_Z) (h : ov_H)  : Option ov_V → ov_Z → ov_H → Prop := fun r0 z' h' => ∃ r : Int, r0 = some (ov_i r) ∧ z = z' ∧ h = h' ∧ (-13 ≤ r ∧ r ≤ 1157)
set_option maxHeartbeats 4000000 in
theorem c_Town_longestWay_70 {u : ov_U} {F : ov_H} {z : ov_Z} {h : ov_H} (d : Nat) (hd : 1 ≤ d) (U : ov_cap u) (I : ov_I F z h) (p0 : F (-5) 70 = 1) : ov_T u d ov_m160 [ov_r 70] z h (P_Town_longestWay_70 F z h) := by
  refine ov_en rfl (Nat.le_of_ble_eq_true rfl) ?_
  show ov_R u d ov_m160 0 [(0, ov_r 70)] [] z h (P_Town_longestWay_70 F z h)
  refine ov_blk (ls2 := [(0, ov_r 70), (1, ov_i 0), (2, ov_i 0)]) (st2 := []) (pc2 := 4) b_160_0_4 rfl rfl ?_
  have L4 : ∀ (n1 : Nat) (x1 : Int) (x2 : Int) (q3 : 0 ≤ x1 ∧ x1 ≤ 59 ∧ 0 ≤ x2 ∧ x2 ≤ 54), 54 - x2 < (n1 : Int) → ov_R u d ov_m160 4 [(0, ov_r 70), (1, ov_i x1), (2, ov_i x2)] [] z h (P_Town_longestWay_70 F z h) := by
    intro n1
    induction n1 with
    | zero =>
      intro x1 x2 q3 hn5
      exact absurd hn5 (by omega)
    | succ n1 ih2 =>
      intro x1 x2 q3 hn5
      refine ov_blk (ls2 := [(0, ov_r 70), (1, ov_i x1), (2, ov_i x2)]) (st2 := [ov_i 54, ov_i x2]) (pc2 := 7) b_160_4_2 rfl rfl ?_
      refine ov_icge (tgt := 61) d_160_7 (by decide) (by omega) (by omega) (fun c6 => ?_) (fun c6 => ?_)
      · skip
        refine ov_blk (ls2 := [(0, ov_r 70), (1, ov_i x1), (2, ov_i x2)]) (st2 := [ov_i 0, ov_r 70]) (pc2 := 63) b_160_61_2 rfl rfl ?_
        refine ov_cV (as := [ov_i 0]) (st := []) (d2 := d - 1) d_160_63 lk_Town_99 rfl (Nat.le_of_ble_eq_true rfl) (c := 9) (zb_70 I) (zs_70 I) ⟨by decide, rfl⟩ (by omega) (c_Town_streetsHome_70 (d - 1) (by omega) U I 0 (by omega) (by omega) (by omega)) ?_
        rintro _ _ _ ⟨v8, rfl, rfl, rfl, f7⟩
        show ov_R u d ov_m160 66 [(0, ov_r 70), (1, ov_i x1), (2, ov_i x2)] [ov_i v8] z h (P_Town_longestWay_70 F z h)
        have f9 : -13 ≤ v8 ∧ v8 ≤ 13 ∧ ((0 : Int) = 0 → 0 ≤ v8) := f7
        clear f7
        refine ov_blk (ls2 := [(0, ov_r 70), (1, ov_i x1), (2, ov_i x2)]) (st2 := [ov_r 70, ov_i x1, ov_i v8]) (pc2 := 68) b_160_66_2 rfl rfl ?_
        refine ov_getf (v := ov_r 76) d_160_68 fl_Town_27 (zb_70 I) (zs_70 I) (congrArg ov_r (rg_70_7 I)) ?_
        refine ov_blk (ls2 := [(0, ov_r 70), (1, ov_i x1), (2, ov_i x2)]) (st2 := [ov_i 0, ov_r 76, ov_i x1, ov_i v8]) (pc2 := 72) b_160_71_1 rfl rfl ?_
        refine ov_iald d_160_72 (zb_76 I) (zs_76 I) (by omega) ?_
        have g10 := ra_76 I 0
        refine ov_blk (ls2 := [(0, ov_r 70), (1, ov_i x1), (2, ov_i x2)]) (st2 := [ov_i (x1 + (h 76 0)), ov_i v8]) (pc2 := 74) b_160_73_1 rfl rfl ?_
        have fm := ov_mulr (a := v8) (b := (x1 + (h 76 0))) (A := 13) (B := 89) (by omega) (by omega) (by omega) (by omega) (by omega)
        refine ov_blk (ls2 := [(0, ov_r 70), (1, ov_i x1), (2, ov_i x2)]) (st2 := [ov_i (v8 * (x1 + (h 76 0)))]) (pc2 := 75) b_160_74_1 rfl rfl ?_
        exact ov_reti (st := []) d_160_75 rfl ⟨_, rfl, rfl, rfl, (by show -13 ≤ (v8 * (x1 + (h 76 0))) ∧ (v8 * (x1 + (h 76 0))) ≤ 1157; omega)⟩
      · skip
        refine ov_blk (ls2 := [(0, ov_r 70), (1, ov_i x1), (2, ov_i x2)]) (st2 := [ov_i x2, ov_r 70]) (pc2 := 12) b_160_10_2 rfl rfl ?_
        refine ov_cV (as := [ov_i x2]) (st := []) (d2 := d - 1) d_160_12 lk_Town_89 rfl (Nat.le_of_ble_eq_true rfl) (c := 9) (zb_70 I) (zs_70 I) ⟨by decide, rfl⟩ (by omega) (c_Town_isTimed_70 (d - 1) (by omega) U I x2 (by omega) (by omega)) ?_
        rintro _ _ _ ⟨v12, rfl, rfl, rfl, f11⟩
        show ov_R u d ov_m160 15 [(0, ov_r 70), (1, ov_i x1), (2, ov_i x2)] [ov_i v12] z h (P_Town_longestWay_70 F z h)
        have f13 : (v12 = 0 ∨ v12 = 1) := f11
        clear f11
        refine ov_ifeq (tgt := 34) d_160_15 (by decide) (by omega) (fun c14 => ?_) (fun c14 => ?_)
        · skip
          refine ov_blk (ls2 := [(0, ov_r 70), (1, ov_i x1), (2, ov_i x2)]) (st2 := [ov_r 70]) (pc2 := 35) b_160_34_1 rfl rfl ?_
          refine ov_getf (v := ov_r 71) d_160_35 fl_Town_9 (zb_70 I) (zs_70 I) (congrArg ov_r (rg_70_2 I)) ?_
          refine ov_blk (ls2 := [(0, ov_r 70), (1, ov_i x1), (2, ov_i x2)]) (st2 := [ov_i x2, ov_r 71]) (pc2 := 39) b_160_38_1 rfl rfl ?_
          refine ov_iald d_160_39 (zb_71 I) (zs_71 I) (by omega) ?_
          have g15 := ra_71 I x2
          refine ov_blk (ls2 := [(0, ov_r 70), (1, ov_i x1), (2, ov_i x2)]) (st2 := [ov_i 2, ov_i (h 71 x2)]) (pc2 := 41) b_160_40_1 rfl rfl ?_
          refine ov_icne (tgt := 55) d_160_41 (by decide) (by omega) (by omega) (fun c16 => ?_) (fun c16 => ?_)
          · skip
            refine ov_blk (ls2 := [(0, ov_r 70), (1, ov_i x1), (2, ov_i (x2 + 1))]) (st2 := []) (pc2 := 58) b_160_55_1 rfl rfl ?_
            refine ov_goto (tgt := 4) d_160_58 (by decide) ?_
            exact ih2 x1 (x2 + 1) (by show 0 ≤ x1 ∧ x1 ≤ 59 ∧ 0 ≤ (x2 + 1) ∧ (x2 + 1) ≤ 54; omega) (by omega)
          · skip
            refine ov_blk (ls2 := [(0, ov_r 70), (1, ov_i x1), (2, ov_i x2)]) (st2 := [ov_r 70, ov_i x1]) (pc2 := 46) b_160_44_2 rfl rfl ?_
            refine ov_getf (v := ov_r 73) d_160_46 fl_Town_18 (zb_70 I) (zs_70 I) (congrArg ov_r (rg_70_4 I)) ?_
            refine ov_blk (ls2 := [(0, ov_r 70), (1, ov_i x1), (2, ov_i x2)]) (st2 := [ov_i x2, ov_r 73, ov_i x1]) (pc2 := 50) b_160_49_1 rfl rfl ?_
            refine ov_iald d_160_50 (zb_73 I) (zs_73 I) (by omega) ?_
            have g17 := ra_73 I x2
            refine ov_cS (as := [ov_i x1, ov_i (h 73 x2)]) (st := []) (d2 := d - 1) d_160_51 lk_Town_93 rfl (Nat.le_of_ble_eq_true rfl) (by omega) (c_Math_max (d - 1) (by omega) U I x1 (h 73 x2) (by omega) (by omega)) ?_
            rintro _ _ _ ⟨v19, rfl, rfl, rfl, f18⟩
            show ov_R u d ov_m160 54 [(0, ov_r 70), (1, ov_i x1), (2, ov_i x2)] [ov_i v19] z h (P_Town_longestWay_70 F z h)
            have f20 : x1 ≤ v19 ∧ (h 73 x2) ≤ v19 ∧ (v19 = x1 ∨ v19 = (h 73 x2)) := f18
            clear f18
            refine ov_blk (ls2 := [(0, ov_r 70), (1, ov_i v19), (2, ov_i (x2 + 1))]) (st2 := []) (pc2 := 58) b_160_54_2 rfl rfl ?_
            refine ov_goto (tgt := 4) d_160_58 (by decide) ?_
            exact ih2 v19 (x2 + 1) (by show 0 ≤ v19 ∧ v19 ≤ 59 ∧ 0 ≤ (x2 + 1) ∧ (x2 + 1) ≤ 54; omega) (by omega)
        · skip
          refine ov_blk (ls2 := [(0, ov_r 70), (1, ov_i x1), (2, ov_i x2)]) (st2 := [ov_r 70, ov_i x1]) (pc2 := 20) b_160_18_2 rfl rfl ?_
          refine ov_getf (v := ov_r 72) d_160_20 fl_Town_15 (zb_70 I) (zs_70 I) (congrArg ov_r (rg_70_3 I)) ?_
          refine ov_blk (ls2 := [(0, ov_r 70), (1, ov_i x1), (2, ov_i x2)]) (st2 := [ov_i x2, ov_r 72, ov_i x1]) (pc2 := 24) b_160_23_1 rfl rfl ?_
          refine ov_iald d_160_24 (zb_72 I) (zs_72 I) (by omega) ?_
          have g21 := ra_72 I x2
          refine ov_blk (ls2 := [(0, ov_r 70), (1, ov_i x1), (2, ov_i x2)]) (st2 := [ov_i ((h 72 x2) - 1), ov_i x1]) (pc2 := 27) b_160_25_2 rfl rfl ?_
          refine ov_cS (as := [ov_i x1, ov_i ((h 72 x2) - 1)]) (st := []) (d2 := d - 1) d_160_27 lk_Town_93 rfl (Nat.le_of_ble_eq_true rfl) (by omega) (c_Math_max (d - 1) (by omega) U I x1 ((h 72 x2) - 1) (by omega) (by omega)) ?_
          rintro _ _ _ ⟨v23, rfl, rfl, rfl, f22⟩
          show ov_R u d ov_m160 30 [(0, ov_r 70), (1, ov_i x1), (2, ov_i x2)] [ov_i v23] z h (P_Town_longestWay_70 F z h)
          have f24 : x1 ≤ v23 ∧ ((h 72 x2) - 1) ≤ v23 ∧ (v23 = x1 ∨ v23 = ((h 72 x2) - 1)) := f22
          clear f22
          refine ov_blk (ls2 := [(0, ov_r 70), (1, ov_i v23), (2, ov_i x2)]) (st2 := []) (pc2 := 31) b_160_30_1 rfl rfl ?_
          refine ov_goto (tgt := 55) d_160_31 (by decide) ?_
          refine ov_blk (ls2 := [(0, ov_r 70), (1, ov_i v23), (2, ov_i (x2 + 1))]) (st2 := []) (pc2 := 58) b_160_55_1 rfl rfl ?_
          refine ov_goto (tgt := 4) d_160_58 (by decide) ?_
          exact ih2 v23 (x2 + 1) (by show 0 ≤ v23 ∧ v23 ≤ 59 ∧ 0 ≤ (x2 + 1) ∧ (x2 + 1) ≤ 54; omega) (by omega)
  exact L4 55 0 0 (by show 0 ≤ 0 ∧ 0 ≤ 59 ∧ 0 ≤ 0 ∧ 0 ≤ 54; omega) (by omega)

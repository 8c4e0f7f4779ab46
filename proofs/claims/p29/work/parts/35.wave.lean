theorem b_87_0_2 : ov_ds ov_m87.2.1 0 [.aload_n 0, .iconst (-1)] = true := by decide +kernel
theorem d_87_2 : decode ov_m87.2.1 2 = .ok (.putfield 22, 3) := by decide +kernel
theorem d_87_5 : decode ov_m87.2.1 5 = .ok (.return_, 1) := by decide +kernel
theorem b_180_0_2 : ov_ds ov_m180.2.1 0 [.iload_n 3, .aload_n 0] = true := by decide +kernel
theorem d_180_2 : decode ov_m180.2.1 2 = .ok (.getfield 40, 3) := by decide +kernel
theorem d_180_5 : decode ov_m180.2.1 5 = .ok (.invokestatic 61, 3) := by decide +kernel
theorem b_180_8_6 : ov_ds ov_m180.2.1 8 [.istore 4, .lload_n 1, .iload 4, .lshl, .lload_n 1, .aload_n 0] = true := by decide +kernel
theorem d_180_16 : decode ov_m180.2.1 16 = .ok (.getfield 40, 3) := by decide +kernel
theorem b_180_19_6 : ov_ds ov_m180.2.1 19 [.iload 4, .isub, .lushr, .lor, .lconst 1, .aload_n 0] = true := by decide +kernel
theorem d_180_26 : decode ov_m180.2.1 26 = .ok (.getfield 40, 3) := by decide +kernel
theorem b_180_29_4 : ov_ds ov_m180.2.1 29 [.lshl, .lconst 1, .lsub, .land] = true := by decide +kernel
theorem d_180_33 : decode ov_m180.2.1 33 = .ok (.lreturn, 1) := by decide +kernel
theorem b_179_0_2 : ov_ds ov_m179.2.1 0 [.aload_n 0, .aload_n 0] = true := by decide +kernel
theorem d_179_2 : decode ov_m179.2.1 2 = .ok (.getfield 18, 3) := by decide +kernel
theorem b_179_5_1 : ov_ds ov_m179.2.1 5 [.iload_n 1] = true := by decide +kernel
theorem d_179_6 : decode ov_m179.2.1 6 = .ok (.laload, 1) := by decide +kernel
theorem b_179_7_3 : ov_ds ov_m179.2.1 7 [.iload_n 2, .iload_n 1, .aload_n 0] = true := by decide +kernel
theorem d_179_10 : decode ov_m179.2.1 10 = .ok (.getfield 45, 3) := by decide +kernel
theorem b_179_13_1 : ov_ds ov_m179.2.1 13 [.imul] = true := by decide +kernel
theorem b_179_14_1 : ov_ds ov_m179.2.1 14 [.isub] = true := by decide +kernel
theorem d_179_15 : decode ov_m179.2.1 15 = .ok (.invokevirtual 87, 3) := by decide +kernel
theorem d_179_18 : decode ov_m179.2.1 18 = .ok (.lreturn, 1) := by decide +kernel
theorem b_181_0_2 : ov_ds ov_m181.2.1 0 [.aload_n 0, .aload_n 0] = true := by decide +kernel
theorem d_181_2 : decode ov_m181.2.1 2 = .ok (.getfield 18, 3) := by decide +kernel
theorem b_181_5_1 : ov_ds ov_m181.2.1 5 [.iload_n 1] = true := by decide +kernel
theorem d_181_6 : decode ov_m181.2.1 6 = .ok (.laload, 1) := by decide +kernel
theorem b_181_7_2 : ov_ds ov_m181.2.1 7 [.iload_n 2, .aload_n 0] = true := by decide +kernel
theorem d_181_9 : decode ov_m181.2.1 9 = .ok (.getfield 32, 3) := by decide +kernel
theorem b_181_12_2 : ov_ds ov_m181.2.1 12 [.iconst 1, .isub] = true := by decide +kernel
theorem b_181_14_2 : ov_ds ov_m181.2.1 14 [.iload_n 1, .isub] = true := by decide +kernel
theorem b_181_16_1 : ov_ds ov_m181.2.1 16 [.aload_n 0] = true := by decide +kernel
theorem d_181_17 : decode ov_m181.2.1 17 = .ok (.getfield 45, 3) := by decide +kernel
theorem b_181_20_1 : ov_ds ov_m181.2.1 20 [.imul] = true := by decide +kernel
theorem b_181_21_1 : ov_ds ov_m181.2.1 21 [.isub] = true := by decide +kernel
theorem d_181_22 : decode ov_m181.2.1 22 = .ok (.invokevirtual 87, 3) := by decide +kernel
theorem d_181_25 : decode ov_m181.2.1 25 = .ok (.lreturn, 1) := by decide +kernel
theorem b_182_0_1 : ov_ds ov_m182.2.1 0 [.lload_n 2] = true := by decide +kernel
theorem d_182_1 : decode ov_m182.2.1 1 = .ok (.invokestatic 75, 3) := by decide +kernel
theorem b_182_4_1 : ov_ds ov_m182.2.1 4 [.lload 4] = true := by decide +kernel
theorem d_182_6 : decode ov_m182.2.1 6 = .ok (.invokestatic 75, 3) := by decide +kernel
theorem b_182_9_1 : ov_ds ov_m182.2.1 9 [.iadd] = true := by decide +kernel
theorem b_182_10_3 : ov_ds ov_m182.2.1 10 [.istore 6, .iload 6, .aload_n 0] = true := by decide +kernel
theorem d_182_15 : decode ov_m182.2.1 15 = .ok (.getfield 55, 3) := by decide +kernel
theorem d_182_18 : decode ov_m182.2.1 18 = .ok (.if_icmp .gt 4, 3) := by decide +kernel
theorem b_182_22_2 : ov_ds ov_m182.2.1 22 [.iload_n 1, .aload_n 0] = true := by decide +kernel
theorem d_182_24 : decode ov_m182.2.1 24 = .ok (.getfield 32, 3) := by decide +kernel
theorem d_182_27 : decode ov_m182.2.1 27 = .ok (.if_icmp .lt 24, 3) := by decide +kernel
theorem b_182_51_2 : ov_ds ov_m182.2.1 51 [.iconst 0, .istore 7] = true := by decide +kernel
theorem b_182_54_2 : ov_ds ov_m182.2.1 54 [.iload 7, .aload_n 0] = true := by decide +kernel
theorem d_182_57 : decode ov_m182.2.1 57 = .ok (.getfield 40, 3) := by decide +kernel
theorem d_182_60 : decode ov_m182.2.1 60 = .ok (.if_icmp .ge 54, 3) := by decide +kernel
theorem d_182_114 : decode ov_m182.2.1 114 = .ok (.return_, 1) := by decide +kernel
theorem b_182_63_1 : ov_ds ov_m182.2.1 63 [.aload_n 0] = true := by decide +kernel
theorem d_182_64 : decode ov_m182.2.1 64 = .ok (.getfield 15, 3) := by decide +kernel
theorem b_182_67_2 : ov_ds ov_m182.2.1 67 [.iload_n 1, .iload 7] = true := by decide +kernel
theorem d_182_70 : decode ov_m182.2.1 70 = .ok (.iastore, 1) := by decide +kernel
theorem b_182_71_8 : ov_ds ov_m182.2.1 71 [.aload_n 0, .iload_n 1, .iconst 1, .iadd, .lload_n 2, .aload_n 0, .iload_n 1, .iload 7] = true := by decide +kernel
theorem d_182_80 : decode ov_m182.2.1 80 = .ok (.invokevirtual 64, 3) := by decide +kernel
theorem b_182_83_2 : ov_ds ov_m182.2.1 83 [.land, .aload_n 0] = true := by decide +kernel
theorem d_182_85 : decode ov_m182.2.1 85 = .ok (.getfield 48, 3) := by decide +kernel
theorem d_182_88 : decode ov_m182.2.1 88 = .ok (.ifCond .eq 16, 3) := by decide +kernel
theorem b_182_104_1 : ov_ds ov_m182.2.1 104 [.lconst 0] = true := by decide +kernel
theorem d_182_105 : decode ov_m182.2.1 105 = .ok (.invokevirtual 71, 3) := by decide +kernel
theorem b_182_108_1 : ov_ds ov_m182.2.1 108 [.iinc 7 1] = true := by decide +kernel
theorem d_182_111 : decode ov_m182.2.1 111 = .ok (.goto (-57), 3) := by decide +kernel
theorem b_182_91_4 : ov_ds ov_m182.2.1 91 [.lload 4, .aload_n 0, .iload_n 1, .iload 7] = true := by decide +kernel
theorem d_182_97 : decode ov_m182.2.1 97 = .ok (.invokevirtual 68, 3) := by decide +kernel
theorem b_182_100_1 : ov_ds ov_m182.2.1 100 [.land] = true := by decide +kernel
theorem d_182_101 : decode ov_m182.2.1 101 = .ok (.goto 4, 3) := by decide +kernel
theorem b_182_30_2 : ov_ds ov_m182.2.1 30 [.aload_n 0, .iload 6] = true := by decide +kernel
theorem d_182_33 : decode ov_m182.2.1 33 = .ok (.putfield 55, 3) := by decide +kernel
theorem b_182_36_1 : ov_ds ov_m182.2.1 36 [.aload_n 0] = true := by decide +kernel
theorem d_182_37 : decode ov_m182.2.1 37 = .ok (.getfield 15, 3) := by decide +kernel
theorem b_182_40_2 : ov_ds ov_m182.2.1 40 [.iconst 0, .aload_n 0] = true := by decide +kernel
theorem d_182_42 : decode ov_m182.2.1 42 = .ok (.getfield 11, 3) := by decide +kernel
theorem b_182_45_2 : ov_ds ov_m182.2.1 45 [.iconst 0, .iconst 4] = true := by decide +kernel
theorem d_182_47 : decode ov_m182.2.1 47 = .ok (.invokestatic 81, 3) := by decide +kernel
theorem d_182_50 : decode ov_m182.2.1 50 = .ok (.return_, 1) := by decide +kernel
theorem d_182_21 : decode ov_m182.2.1 21 = .ok (.return_, 1) := by decide +kernel
theorem b_178_0_8 : ov_ds ov_m178.2.1 0 [.iload_n 2, .iconst 5, .imul, .iload_n 3, .iadd, .iconst 2, .imul, .iload 4] = true := by decide +kernel
theorem d_178_9 : decode ov_m178.2.1 9 = .ok (.ifCond .eq 7, 3) := by decide +kernel
theorem b_178_16_4 : ov_ds ov_m178.2.1 16 [.iconst 0, .iadd, .istore 5, .aload_n 0] = true := by decide +kernel
theorem d_178_21 : decode ov_m178.2.1 21 = .ok (.getfield 22, 3) := by decide +kernel
theorem b_178_24_1 : ov_ds ov_m178.2.1 24 [.iload 5] = true := by decide +kernel
theorem d_178_26 : decode ov_m178.2.1 26 = .ok (.if_icmp .ne 4, 3) := by decide +kernel
theorem b_178_30_2 : ov_ds ov_m178.2.1 30 [.aload_n 0, .iload 5] = true := by decide +kernel
theorem d_178_33 : decode ov_m178.2.1 33 = .ok (.putfield 22, 3) := by decide +kernel
theorem b_178_36_3 : ov_ds ov_m178.2.1 36 [.aload_n 0, .iload_n 3, .iconst 4] = true := by decide +kernel
theorem d_178_39 : decode ov_m178.2.1 39 = .ok (.invokestatic 26, 3) := by decide +kernel
theorem d_178_42 : decode ov_m178.2.1 42 = .ok (.putfield 32, 3) := by decide +kernel
theorem b_178_45_2 : ov_ds ov_m178.2.1 45 [.aload_n 0, .aload_n 1] = true := by decide +kernel
theorem d_178_47 : decode ov_m178.2.1 47 = .ok (.getfield 35, 3) := by decide +kernel
theorem b_178_50_1 : ov_ds ov_m178.2.1 50 [.iload_n 2] = true := by decide +kernel
theorem d_178_51 : decode ov_m178.2.1 51 = .ok (.iaload, 1) := by decide +kernel
theorem d_178_52 : decode ov_m178.2.1 52 = .ok (.putfield 40, 3) := by decide +kernel
theorem b_178_55_2 : ov_ds ov_m178.2.1 55 [.aload_n 0, .aload_n 1] = true := by decide +kernel
theorem d_178_57 : decode ov_m178.2.1 57 = .ok (.getfield 42, 3) := by decide +kernel
theorem b_178_60_1 : ov_ds ov_m178.2.1 60 [.iconst 0] = true := by decide +kernel
theorem d_178_61 : decode ov_m178.2.1 61 = .ok (.iaload, 1) := by decide +kernel
theorem d_178_62 : decode ov_m178.2.1 62 = .ok (.putfield 45, 3) := by decide +kernel
theorem b_178_65_2 : ov_ds ov_m178.2.1 65 [.aload_n 0, .iload 4] = true := by decide +kernel
theorem d_178_68 : decode ov_m178.2.1 68 = .ok (.putfield 48, 3) := by decide +kernel
theorem b_178_71_2 : ov_ds ov_m178.2.1 71 [.iconst 0, .istore 6] = true := by decide +kernel
theorem b_178_74_2 : ov_ds ov_m178.2.1 74 [.iload 6, .aload_n 0] = true := by decide +kernel
theorem d_178_77 : decode ov_m178.2.1 77 = .ok (.getfield 32, 3) := by decide +kernel
theorem d_178_80 : decode ov_m178.2.1 80 = .ok (.if_icmp .ge 37, 3) := by decide +kernel
theorem b_178_117_2 : ov_ds ov_m178.2.1 117 [.aload_n 0, .iconst (-1)] = true := by decide +kernel
theorem d_178_119 : decode ov_m178.2.1 119 = .ok (.putfield 55, 3) := by decide +kernel
theorem b_178_122_1 : ov_ds ov_m178.2.1 122 [.aload_n 0] = true := by decide +kernel
theorem d_178_123 : decode ov_m178.2.1 123 = .ok (.getfield 15, 3) := by decide +kernel
theorem b_178_126_2 : ov_ds ov_m178.2.1 126 [.iconst 0, .aload_n 1] = true := by decide +kernel
theorem d_178_128 : decode ov_m178.2.1 128 = .ok (.getfield 58, 3) := by decide +kernel
theorem b_178_131_1 : ov_ds ov_m178.2.1 131 [.iload_n 2] = true := by decide +kernel
theorem d_178_132 : decode ov_m178.2.1 132 = .ok (.iaload, 1) := by decide +kernel
theorem b_178_133_1 : ov_ds ov_m178.2.1 133 [.aload_n 1] = true := by decide +kernel
theorem d_178_134 : decode ov_m178.2.1 134 = .ok (.getfield 52, 3) := by decide +kernel
theorem b_178_137_1 : ov_ds ov_m178.2.1 137 [.iload_n 2] = true := by decide +kernel
theorem d_178_138 : decode ov_m178.2.1 138 = .ok (.iaload, 1) := by decide +kernel
theorem b_178_139_2 : ov_ds ov_m178.2.1 139 [.iadd, .aload_n 0] = true := by decide +kernel
theorem d_178_141 : decode ov_m178.2.1 141 = .ok (.getfield 40, 3) := by decide +kernel
theorem d_178_144 : decode ov_m178.2.1 144 = .ok (.invokestatic 61, 3) := by decide +kernel
theorem d_178_147 : decode ov_m178.2.1 147 = .ok (.iastore, 1) := by decide +kernel
theorem b_178_148_5 : ov_ds ov_m178.2.1 148 [.aload_n 0, .iconst 1, .aload_n 0, .iconst 0, .aload_n 0] = true := by decide +kernel
theorem d_178_153 : decode ov_m178.2.1 153 = .ok (.getfield 15, 3) := by decide +kernel
theorem b_178_156_1 : ov_ds ov_m178.2.1 156 [.iconst 0] = true := by decide +kernel
theorem d_178_157 : decode ov_m178.2.1 157 = .ok (.iaload, 1) := by decide +kernel
theorem d_178_158 : decode ov_m178.2.1 158 = .ok (.invokevirtual 64, 3) := by decide +kernel
theorem b_178_161_1 : ov_ds ov_m178.2.1 161 [.aload_n 0] = true := by decide +kernel
theorem d_178_162 : decode ov_m178.2.1 162 = .ok (.getfield 48, 3) := by decide +kernel
theorem d_178_165 : decode ov_m178.2.1 165 = .ok (.ifCond .eq 17, 3) := by decide +kernel
theorem b_178_182_1 : ov_ds ov_m178.2.1 182 [.lconst 0] = true := by decide +kernel
theorem d_178_183 : decode ov_m178.2.1 183 = .ok (.invokevirtual 71, 3) := by decide +kernel
theorem d_178_186 : decode ov_m178.2.1 186 = .ok (.return_, 1) := by decide +kernel
theorem b_178_168_3 : ov_ds ov_m178.2.1 168 [.aload_n 0, .iconst 0, .aload_n 0] = true := by decide +kernel
theorem d_178_171 : decode ov_m178.2.1 171 = .ok (.getfield 15, 3) := by decide +kernel
theorem b_178_174_1 : ov_ds ov_m178.2.1 174 [.iconst 0] = true := by decide +kernel
theorem d_178_175 : decode ov_m178.2.1 175 = .ok (.iaload, 1) := by decide +kernel
theorem d_178_176 : decode ov_m178.2.1 176 = .ok (.invokevirtual 68, 3) := by decide +kernel
theorem d_178_179 : decode ov_m178.2.1 179 = .ok (.goto 4, 3) := by decide +kernel
theorem b_178_83_1 : ov_ds ov_m178.2.1 83 [.aload_n 0] = true := by decide +kernel
theorem d_178_84 : decode ov_m178.2.1 84 = .ok (.getfield 18, 3) := by decide +kernel
theorem b_178_87_3 : ov_ds ov_m178.2.1 87 [.iload 6, .lconst 1, .aload_n 0] = true := by decide +kernel
theorem d_178_91 : decode ov_m178.2.1 91 = .ok (.getfield 40, 3) := by decide +kernel
theorem b_178_94_1 : ov_ds ov_m178.2.1 94 [.aload_n 1] = true := by decide +kernel
theorem d_178_95 : decode ov_m178.2.1 95 = .ok (.getfield 52, 3) := by decide +kernel
theorem b_178_98_5 : ov_ds ov_m178.2.1 98 [.iload_n 2, .iload 6, .bipush 6, .imul, .iadd] = true := by decide +kernel
theorem d_178_105 : decode ov_m178.2.1 105 = .ok (.iaload, 1) := by decide +kernel
theorem b_178_106_4 : ov_ds ov_m178.2.1 106 [.isub, .lshl, .lconst 1, .lsub] = true := by decide +kernel
theorem d_178_110 : decode ov_m178.2.1 110 = .ok (.lastore, 1) := by decide +kernel
theorem b_178_111_1 : ov_ds ov_m178.2.1 111 [.iinc 6 1] = true := by decide +kernel
theorem d_178_114 : decode ov_m178.2.1 114 = .ok (.goto (-40), 3) := by decide +kernel
theorem d_178_29 : decode ov_m178.2.1 29 = .ok (.return_, 1) := by decide +kernel
theorem b_178_12_1 : ov_ds ov_m178.2.1 12 [.iconst 1] = true := by decide +kernel
theorem d_178_13 : decode ov_m178.2.1 13 = .ok (.goto 4, 3) := by decide +kernel
theorem b_178_17_3 : ov_ds ov_m178.2.1 17 [.iadd, .istore 5, .aload_n 0] = true := by decide +kernel
abbrev P_Wave_forget_54 (F : ov_H) (z : ov_Z) (h : ov_H)  : Option ov_V → ov_Z → ov_H → Prop := fun r0 z' h' => r0 = none ∧ ov_I F z' h' ∧ ((h' 36 7) = (h 36 7) ∧ (h' 1 1) = (h 1 1) ∧ (h' 90 2) = (h 90 2) ∧ (h' 0 10) = (h 0 10) ∧ (h' 0 11) = (h 0 11) ∧ (h' 0 12) = (h 0 12) ∧ (h' 0 13) = (h 0 13) ∧ (h' 3 1) = (h 3 1) ∧ (h' 36 8) = (h 36 8) ∧ (h' 46 3) = (h 46 3) ∧ (h' 46 4) = (h 46 4) ∧ (h' 49 4) = (h 49 4) ∧ (h' 49 5) = (h 49 5) ∧ (h' 64 0) = (h 64 0) ∧ (h' 76 0) = (h 76 0))
set_option maxHeartbeats 4000000 in
theorem c_Wave_forget_54 {u : ov_U} {F : ov_H} {z : ov_Z} {h : ov_H} (d : Nat) (hd : 0 ≤ d) (U : ov_cap u) (I : ov_I F z h) : ov_T u d ov_m87 [ov_r 54] z h (P_Wave_forget_54 F z h) := by
  refine ov_en rfl (Nat.le_of_ble_eq_true rfl) ?_
  show ov_R u d ov_m87 0 [(0, ov_r 54)] [] z h (P_Wave_forget_54 F z h)
  refine ov_blk (ls2 := [(0, ov_r 54)]) (st2 := [ov_i (-1), ov_r 54]) (pc2 := 2) b_87_0_2 rfl rfl ?_
  refine ov_putf (x := (-1)) d_87_2 fl_Wave_22 (zb_54 I) (zs_54 I) rfl nk_0 rfl ?_
  have I1 := up_54_8 (x := (-1)) I (by omega)
  exact ov_retv (st := []) d_87_5 rfl ⟨rfl, I1, (by show (h 36 7) = (h 36 7) ∧ (h 1 1) = (h 1 1) ∧ (h 90 2) = (h 90 2) ∧ (h 0 10) = (h 0 10) ∧ (h 0 11) = (h 0 11) ∧ (h 0 12) = (h 0 12) ∧ (h 0 13) = (h 0 13) ∧ (h 3 1) = (h 3 1) ∧ (h 36 8) = (h 36 8) ∧ (h 46 3) = (h 46 3) ∧ (h 46 4) = (h 46 4) ∧ (h 49 4) = (h 49 4) ∧ (h 49 5) = (h 49 5) ∧ (h 64 0) = (h 64 0) ∧ (h 76 0) = (h 76 0); omega)⟩
abbrev P_Wave_turn_54 (F : ov_H) (z : ov_Z) (h : ov_H) (w : Int) (b : Int) : Option ov_V → ov_Z → ov_H → Prop := fun r0 z' h' => ∃ r : Int, r0 = some (ov_l r) ∧ z = z' ∧ h = h' ∧ (True)
set_option maxHeartbeats 4000000 in
theorem c_Wave_turn_54 {u : ov_U} {F : ov_H} {z : ov_Z} {h : ov_H} (d : Nat) (hd : 2 ≤ d) (U : ov_cap u) (I : ov_I F z h) (w : Int) (b : Int) (g_b : ov_g b) : ov_T u d ov_m180 [ov_r 54, ov_l w, ov_i b] z h (P_Wave_turn_54 F z h w b) := by
  refine ov_en rfl (Nat.le_of_ble_eq_true rfl) ?_
  show ov_R u d ov_m180 0 [(0, ov_r 54), (1, ov_l w), (3, ov_i b)] [] z h (P_Wave_turn_54 F z h w b)
  refine ov_blk (ls2 := [(0, ov_r 54), (1, ov_l w), (3, ov_i b)]) (st2 := [ov_r 54, ov_i b]) (pc2 := 2) b_180_0_2 rfl rfl ?_
  refine ov_getf (v := ov_i (h 54 5)) d_180_2 fl_Wave_40 (zb_54 I) (zs_54 I) rfl ?_
  have g1 := rg_54_5 I
  refine ov_cSN (as := [ov_i b, ov_i (h 54 5)]) (st := []) (d2 := d - 1) d_180_5 lk_Wave_61 rfl (Nat.le_of_ble_eq_true rfl) (by omega) (c_OF_modulo (d - 1) (by omega) U I b (h 54 5) (by omega) (by omega)) ?_
  rintro _ _ _ ⟨v3, rfl, rfl, rfl, f2⟩
  show ov_R u d ov_m180 8 [(0, ov_r 54), (1, ov_l w), (3, ov_i b)] [ov_i v3] z h (P_Wave_turn_54 F z h w b)
  have f4 : (0 < (h 54 5) → 0 ≤ v3 ∧ v3 < (h 54 5)) ∧ ((h 54 5) ≤ 0 → v3 = 0) := f2
  clear f2
  refine ov_blk (ls2 := [(0, ov_r 54), (1, ov_l w), (3, ov_i b), (4, ov_i v3)]) (st2 := [ov_r 54, ov_l w, ov_l (ov_lshl w v3)]) (pc2 := 16) b_180_8_6 rfl rfl ?_
  refine ov_getf (v := ov_i (h 54 5)) d_180_16 fl_Wave_40 (zb_54 I) (zs_54 I) rfl ?_
  refine ov_blk (ls2 := [(0, ov_r 54), (1, ov_l w), (3, ov_i b), (4, ov_i v3)]) (st2 := [ov_r 54, ov_l 1, ov_l (ov_lor (ov_lshl w v3) (ov_lushr w ((h 54 5) - v3)))]) (pc2 := 26) b_180_19_6 rfl rfl ?_
  refine ov_getf (v := ov_i (h 54 5)) d_180_26 fl_Wave_40 (zb_54 I) (zs_54 I) rfl ?_
  refine ov_blk (ls2 := [(0, ov_r 54), (1, ov_l w), (3, ov_i b), (4, ov_i v3)]) (st2 := [ov_l (ov_land (ov_lor (ov_lshl w v3) (ov_lushr w ((h 54 5) - v3))) ((ov_lshl 1 (h 54 5)) - 1))]) (pc2 := 33) b_180_29_4 rfl rfl ?_
  exact ov_retl (st := []) d_180_33 rfl ⟨_, rfl, rfl, rfl, trivial⟩
abbrev P_Wave_there_54 (F : ov_H) (z : ov_Z) (h : ov_H) (l : Int) (b : Int) : Option ov_V → ov_Z → ov_H → Prop := fun r0 z' h' => ∃ r : Int, r0 = some (ov_l r) ∧ z = z' ∧ h = h' ∧ (True)
set_option maxHeartbeats 4000000 in
theorem c_Wave_there_54 {u : ov_U} {F : ov_H} {z : ov_Z} {h : ov_H} (d : Nat) (hd : 3 ≤ d) (U : ov_cap u) (I : ov_I F z h) (l : Int) (b : Int) (g_l : ov_g l) (g_b : ov_g b) (p0 : 0 ≤ l ∧ l ≤ 3) : ov_T u d ov_m179 [ov_r 54, ov_i l, ov_i b] z h (P_Wave_there_54 F z h l b) := by
  refine ov_en rfl (Nat.le_of_ble_eq_true rfl) ?_
  show ov_R u d ov_m179 0 [(0, ov_r 54), (1, ov_i l), (2, ov_i b)] [] z h (P_Wave_there_54 F z h l b)
  refine ov_blk (ls2 := [(0, ov_r 54), (1, ov_i l), (2, ov_i b)]) (st2 := [ov_r 54, ov_r 54]) (pc2 := 2) b_179_0_2 rfl rfl ?_
  refine ov_getf (v := ov_r 57) d_179_2 fl_Wave_18 (zb_54 I) (zs_54 I) (congrArg ov_r (rg_54_3 I)) ?_
  refine ov_blk (ls2 := [(0, ov_r 54), (1, ov_i l), (2, ov_i b)]) (st2 := [ov_i l, ov_r 57, ov_r 54]) (pc2 := 6) b_179_5_1 rfl rfl ?_
  refine ov_lald d_179_6 (zb_57 I) (zs_57 I) (by omega) ?_
  refine ov_blk (ls2 := [(0, ov_r 54), (1, ov_i l), (2, ov_i b)]) (st2 := [ov_r 54, ov_i l, ov_i b, ov_l (h 57 l), ov_r 54]) (pc2 := 10) b_179_7_3 rfl rfl ?_
  refine ov_getf (v := ov_i (h 54 6)) d_179_10 fl_Wave_45 (zb_54 I) (zs_54 I) rfl ?_
  have g1 := rg_54_6 I
  refine ov_blk (ls2 := [(0, ov_r 54), (1, ov_i l), (2, ov_i b)]) (st2 := [ov_i (l * (h 54 6)), ov_i b, ov_l (h 57 l), ov_r 54]) (pc2 := 14) b_179_13_1 rfl rfl ?_
  refine ov_havw (fun w2 gw2 qw2 => ?_)
  refine ov_blk (ls2 := [(0, ov_r 54), (1, ov_i l), (2, ov_i b)]) (st2 := [ov_i (b - w2), ov_l (h 57 l), ov_r 54]) (pc2 := 15) b_179_14_1 rfl rfl ?_
  refine ov_havw (fun w3 gw3 qw3 => ?_)
  refine ov_cV (as := [ov_l (h 57 l), ov_i w3]) (st := []) (d2 := d - 1) d_179_15 lk_Wave_87 rfl (Nat.le_of_ble_eq_true rfl) (c := 11) (zb_54 I) (zs_54 I) ⟨by decide, rfl⟩ (by omega) (c_Wave_turn_54 (d - 1) (by omega) U I (h 57 l) w3 (by omega)) ?_
  rintro _ _ _ ⟨v5, rfl, rfl, rfl, f4⟩
  show ov_R u d ov_m179 18 [(0, ov_r 54), (1, ov_i l), (2, ov_i b)] [ov_l v5] z h (P_Wave_there_54 F z h l b)
  clear f4
  exact ov_retl (st := []) d_179_18 rfl ⟨_, rfl, rfl, rfl, trivial⟩
abbrev P_Wave_back_54 (F : ov_H) (z : ov_Z) (h : ov_H) (l : Int) (b : Int) : Option ov_V → ov_Z → ov_H → Prop := fun r0 z' h' => ∃ r : Int, r0 = some (ov_l r) ∧ z = z' ∧ h = h' ∧ (True)
set_option maxHeartbeats 4000000 in
theorem c_Wave_back_54 {u : ov_U} {F : ov_H} {z : ov_Z} {h : ov_H} (d : Nat) (hd : 3 ≤ d) (U : ov_cap u) (I : ov_I F z h) (l : Int) (b : Int) (g_l : ov_g l) (g_b : ov_g b) (p0 : 0 ≤ l ∧ l ≤ 3) : ov_T u d ov_m181 [ov_r 54, ov_i l, ov_i b] z h (P_Wave_back_54 F z h l b) := by
  refine ov_en rfl (Nat.le_of_ble_eq_true rfl) ?_
  show ov_R u d ov_m181 0 [(0, ov_r 54), (1, ov_i l), (2, ov_i b)] [] z h (P_Wave_back_54 F z h l b)
  refine ov_blk (ls2 := [(0, ov_r 54), (1, ov_i l), (2, ov_i b)]) (st2 := [ov_r 54, ov_r 54]) (pc2 := 2) b_181_0_2 rfl rfl ?_
  refine ov_getf (v := ov_r 57) d_181_2 fl_Wave_18 (zb_54 I) (zs_54 I) (congrArg ov_r (rg_54_3 I)) ?_
  refine ov_blk (ls2 := [(0, ov_r 54), (1, ov_i l), (2, ov_i b)]) (st2 := [ov_i l, ov_r 57, ov_r 54]) (pc2 := 6) b_181_5_1 rfl rfl ?_
  refine ov_lald d_181_6 (zb_57 I) (zs_57 I) (by omega) ?_
  refine ov_blk (ls2 := [(0, ov_r 54), (1, ov_i l), (2, ov_i b)]) (st2 := [ov_r 54, ov_i b, ov_l (h 57 l), ov_r 54]) (pc2 := 9) b_181_7_2 rfl rfl ?_
  refine ov_getf (v := ov_i (h 54 4)) d_181_9 fl_Wave_32 (zb_54 I) (zs_54 I) rfl ?_
  have g1 := rg_54_4 I
  refine ov_blk (ls2 := [(0, ov_r 54), (1, ov_i l), (2, ov_i b)]) (st2 := [ov_i ((h 54 4) - 1), ov_i b, ov_l (h 57 l), ov_r 54]) (pc2 := 14) b_181_12_2 rfl rfl ?_
  refine ov_havw (fun w2 gw2 qw2 => ?_)
  refine ov_blk (ls2 := [(0, ov_r 54), (1, ov_i l), (2, ov_i b)]) (st2 := [ov_i (w2 - l), ov_i b, ov_l (h 57 l), ov_r 54]) (pc2 := 16) b_181_14_2 rfl rfl ?_
  refine ov_havw (fun w3 gw3 qw3 => ?_)
  refine ov_blk (ls2 := [(0, ov_r 54), (1, ov_i l), (2, ov_i b)]) (st2 := [ov_r 54, ov_i w3, ov_i b, ov_l (h 57 l), ov_r 54]) (pc2 := 17) b_181_16_1 rfl rfl ?_
  refine ov_getf (v := ov_i (h 54 6)) d_181_17 fl_Wave_45 (zb_54 I) (zs_54 I) rfl ?_
  have g4 := rg_54_6 I
  refine ov_blk (ls2 := [(0, ov_r 54), (1, ov_i l), (2, ov_i b)]) (st2 := [ov_i (w3 * (h 54 6)), ov_i b, ov_l (h 57 l), ov_r 54]) (pc2 := 21) b_181_20_1 rfl rfl ?_
  refine ov_havw (fun w5 gw5 qw5 => ?_)
  refine ov_blk (ls2 := [(0, ov_r 54), (1, ov_i l), (2, ov_i b)]) (st2 := [ov_i (b - w5), ov_l (h 57 l), ov_r 54]) (pc2 := 22) b_181_21_1 rfl rfl ?_
  refine ov_havw (fun w6 gw6 qw6 => ?_)
  refine ov_cV (as := [ov_l (h 57 l), ov_i w6]) (st := []) (d2 := d - 1) d_181_22 lk_Wave_87 rfl (Nat.le_of_ble_eq_true rfl) (c := 11) (zb_54 I) (zs_54 I) ⟨by decide, rfl⟩ (by omega) (c_Wave_turn_54 (d - 1) (by omega) U I (h 57 l) w6 (by omega)) ?_
  rintro _ _ _ ⟨v8, rfl, rfl, rfl, f7⟩
  show ov_R u d ov_m181 25 [(0, ov_r 54), (1, ov_i l), (2, ov_i b)] [ov_l v8] z h (P_Wave_back_54 F z h l b)
  clear f7
  exact ov_retl (st := []) d_181_25 rfl ⟨_, rfl, rfl, rfl, trivial⟩
abbrev P_Wave_search_54 (F : ov_H) (z : ov_Z) (h : ov_H) (l : Int) (go : Int) (co : Int) : Option ov_V → ov_Z → ov_H → Prop := fun r0 z' h' => r0 = none ∧ ov_I F z' h' ∧ (h' 36 7 = h 36 7 ∧ h' 1 1 = h 1 1 ∧ h' 90 2 = h 90 2 ∧ h' 0 10 = h 0 10 ∧ h' 0 11 = h 0 11 ∧ h' 0 12 = h 0 12 ∧ h' 0 13 = h 0 13 ∧ h' 3 1 = h 3 1 ∧ h' 36 8 = h 36 8 ∧ h' 46 3 = h 46 3 ∧ h' 46 4 = h 46 4 ∧ h' 49 4 = h 49 4 ∧ h' 49 5 = h 49 5 ∧ h' 64 0 = h 64 0 ∧ h' 76 0 = h 76 0)
set_option maxHeartbeats 4000000 in
theorem c_Wave_search_54 {u : ov_U} {F : ov_H} (k : Nat) (HC : ∀ k' : Nat, k' < k → ∀ {z : ov_Z} {h : ov_H} (d : Nat) (hd : (10 + 1 * k' ) ≤ d) (U : ov_cap u) (I : ov_I F z h) (l : Int) (go : Int) (co : Int) (g_l : ov_g l) (p0 : 0 ≤ l ∧ l + (k' : Int) = 4), ov_T u d ov_m182 [ov_r 54, ov_i l, ov_l go, ov_l co] z h (P_Wave_search_54 F z h l go co)) {z : ov_Z} {h : ov_H} (d : Nat) (hd : (10 + 1 * k ) ≤ d) (U : ov_cap u) (I : ov_I F z h) (l : Int) (go : Int) (co : Int) (g_l : ov_g l) (p0 : 0 ≤ l ∧ l + (k : Int) = 4) : ov_T u d ov_m182 [ov_r 54, ov_i l, ov_l go, ov_l co] z h (P_Wave_search_54 F z h l go co) := by
  refine ov_en rfl (Nat.le_of_ble_eq_true rfl) ?_
  show ov_R u d ov_m182 0 [(0, ov_r 54), (1, ov_i l), (2, ov_l go), (4, ov_l co)] [] z h (P_Wave_search_54 F z h l go co)
  refine ov_blk (ls2 := [(0, ov_r 54), (1, ov_i l), (2, ov_l go), (4, ov_l co)]) (st2 := [ov_l go]) (pc2 := 1) b_182_0_1 rfl rfl ?_
  refine ov_cS (as := [ov_l go]) (st := []) (d2 := d - 1) d_182_1 lk_Wave_75 rfl (Nat.le_of_ble_eq_true rfl) (by omega) (c_Long_bitCount (d - 1) (by omega) U I go) ?_
  rintro _ _ _ ⟨v2, rfl, rfl, rfl, f1⟩
  show ov_R u d ov_m182 4 [(0, ov_r 54), (1, ov_i l), (2, ov_l go), (4, ov_l co)] [ov_i v2] z h (P_Wave_search_54 F z h l go co)
  have f3 : -2147483648 ≤ v2 ∧ v2 ≤ 2147483647 := f1
  clear f1
  refine ov_blk (ls2 := [(0, ov_r 54), (1, ov_i l), (2, ov_l go), (4, ov_l co)]) (st2 := [ov_l co, ov_i v2]) (pc2 := 6) b_182_4_1 rfl rfl ?_
  refine ov_cS (as := [ov_l co]) (st := [ov_i v2]) (d2 := d - 1) d_182_6 lk_Wave_75 rfl (Nat.le_of_ble_eq_true rfl) (by omega) (c_Long_bitCount (d - 1) (by omega) U I co) ?_
  rintro _ _ _ ⟨v5, rfl, rfl, rfl, f4⟩
  show ov_R u d ov_m182 9 [(0, ov_r 54), (1, ov_i l), (2, ov_l go), (4, ov_l co)] [ov_i v5, ov_i v2] z h (P_Wave_search_54 F z h l go co)
  have f6 : -2147483648 ≤ v5 ∧ v5 ≤ 2147483647 := f4
  clear f4
  refine ov_blk (ls2 := [(0, ov_r 54), (1, ov_i l), (2, ov_l go), (4, ov_l co)]) (st2 := [ov_i (v2 + v5)]) (pc2 := 10) b_182_9_1 rfl rfl ?_
  refine ov_havw (fun w7 gw7 qw7 => ?_)
  refine ov_blk (ls2 := [(0, ov_r 54), (1, ov_i l), (2, ov_l go), (4, ov_l co), (6, ov_i w7)]) (st2 := [ov_r 54, ov_i w7]) (pc2 := 15) b_182_10_3 rfl rfl ?_
  refine ov_getf (v := ov_i (h 54 0)) d_182_15 fl_Wave_55 (zb_54 I) (zs_54 I) rfl ?_
  have g8 := rg_54_0 I
  refine ov_icgt (tgt := 22) d_182_18 (by decide) (by omega) (by omega) (fun c9 => ?_) (fun c9 => ?_)
  · skip
    refine ov_blk (ls2 := [(0, ov_r 54), (1, ov_i l), (2, ov_l go), (4, ov_l co), (6, ov_i w7)]) (st2 := [ov_r 54, ov_i l]) (pc2 := 24) b_182_22_2 rfl rfl ?_
    refine ov_getf (v := ov_i (h 54 4)) d_182_24 fl_Wave_32 (zb_54 I) (zs_54 I) rfl ?_
    have g10 := rg_54_4 I
    refine ov_iclt (tgt := 51) d_182_27 (by decide) (by omega) (by omega) (fun c11 => ?_) (fun c11 => ?_)
    · skip
      refine ov_blk (ls2 := [(0, ov_r 54), (1, ov_i l), (2, ov_l go), (4, ov_l co), (6, ov_i w7), (7, ov_i 0)]) (st2 := []) (pc2 := 54) b_182_51_2 rfl rfl ?_
      have L15 : ∀ (n12 : Nat) (x7 : Int) (z16 : ov_Z) (h17 : ov_H) (I18 : ov_I F z16 h17) (q14 : 0 ≤ x7 ∧ x7 ≤ 60 ∧ (h17 36 7) = (h 36 7) ∧ (h17 1 1) = (h 1 1) ∧ (h17 90 2) = (h 90 2) ∧ (h17 0 10) = (h 0 10) ∧ (h17 0 11) = (h 0 11) ∧ (h17 0 12) = (h 0 12) ∧ (h17 0 13) = (h 0 13) ∧ (h17 3 1) = (h 3 1) ∧ (h17 36 8) = (h 36 8) ∧ (h17 46 3) = (h 46 3) ∧ (h17 46 4) = (h 46 4) ∧ (h17 49 4) = (h 49 4) ∧ (h17 49 5) = (h 49 5) ∧ (h17 64 0) = (h 64 0) ∧ (h17 76 0) = (h 76 0)), 60 - x7 < (n12 : Int) → ov_R u d ov_m182 54 [(0, ov_r 54), (1, ov_i l), (2, ov_l go), (4, ov_l co), (6, ov_i w7), (7, ov_i x7)] [] z16 h17 (P_Wave_search_54 F z h l go co) := by
        intro n12
        induction n12 with
        | zero =>
          intro x7 z16 h17 I18 q14 hn19
          exact absurd hn19 (by omega)
        | succ n12 ih13 =>
          intro x7 z16 h17 I18 q14 hn19
          refine ov_blk (ls2 := [(0, ov_r 54), (1, ov_i l), (2, ov_l go), (4, ov_l co), (6, ov_i w7), (7, ov_i x7)]) (st2 := [ov_r 54, ov_i x7]) (pc2 := 57) b_182_54_2 rfl rfl ?_
          refine ov_getf (v := ov_i (h17 54 5)) d_182_57 fl_Wave_40 (zb_54 I18) (zs_54 I18) rfl ?_
          have g20 := rg_54_5 I18
          refine ov_icge (tgt := 114) d_182_60 (by decide) (by omega) (by omega) (fun c21 => ?_) (fun c21 => ?_)
          · skip
            exact ov_retv (st := []) d_182_114 rfl ⟨rfl, I18, (by show (h17 36 7) = (h 36 7) ∧ (h17 1 1) = (h 1 1) ∧ (h17 90 2) = (h 90 2) ∧ (h17 0 10) = (h 0 10) ∧ (h17 0 11) = (h 0 11) ∧ (h17 0 12) = (h 0 12) ∧ (h17 0 13) = (h 0 13) ∧ (h17 3 1) = (h 3 1) ∧ (h17 36 8) = (h 36 8) ∧ (h17 46 3) = (h 46 3) ∧ (h17 46 4) = (h 46 4) ∧ (h17 49 4) = (h 49 4) ∧ (h17 49 5) = (h 49 5) ∧ (h17 64 0) = (h 64 0) ∧ (h17 76 0) = (h 76 0); omega)⟩
          · skip
            refine ov_blk (ls2 := [(0, ov_r 54), (1, ov_i l), (2, ov_l go), (4, ov_l co), (6, ov_i w7), (7, ov_i x7)]) (st2 := [ov_r 54]) (pc2 := 64) b_182_63_1 rfl rfl ?_
            refine ov_getf (v := ov_r 56) d_182_64 fl_Wave_15 (zb_54 I18) (zs_54 I18) (congrArg ov_r (rg_54_2 I18)) ?_
            refine ov_blk (ls2 := [(0, ov_r 54), (1, ov_i l), (2, ov_l go), (4, ov_l co), (6, ov_i w7), (7, ov_i x7)]) (st2 := [ov_i x7, ov_i l, ov_r 56]) (pc2 := 70) b_182_67_2 rfl rfl ?_
            refine ov_iast d_182_70 (zb_56 I18) (zs_56 I18) (by omega) ?_
            have I22 := ua_56 (k := l) (x := x7) I18 (by omega)
            refine ov_blk (ls2 := [(0, ov_r 54), (1, ov_i l), (2, ov_l go), (4, ov_l co), (6, ov_i w7), (7, ov_i x7)]) (st2 := [ov_i x7, ov_i l, ov_r 54, ov_l go, ov_i (l + 1), ov_r 54]) (pc2 := 80) b_182_71_8 rfl rfl ?_
            refine ov_cV (as := [ov_i l, ov_i x7]) (st := [ov_l go, ov_i (l + 1), ov_r 54]) (d2 := d - 1) d_182_80 lk_Wave_64 rfl (Nat.le_of_ble_eq_true rfl) (c := 11) (zb_54 I22) (zs_54 I22) ⟨by decide, rfl⟩ (by omega) (c_Wave_there_54 (d - 1) (by omega) U I22 l x7 (by omega) (by omega) (by omega)) ?_
            rintro _ _ _ ⟨v24, rfl, rfl, rfl, f23⟩
            show ov_R u d ov_m182 83 [(0, ov_r 54), (1, ov_i l), (2, ov_l go), (4, ov_l co), (6, ov_i w7), (7, ov_i x7)] [ov_l v24, ov_l go, ov_i (l + 1), ov_r 54] z16 (ov_up h17 56 l x7) (P_Wave_search_54 F z h l go co)
            clear f23
            refine ov_blk (ls2 := [(0, ov_r 54), (1, ov_i l), (2, ov_l go), (4, ov_l co), (6, ov_i w7), (7, ov_i x7)]) (st2 := [ov_r 54, ov_l (ov_land go v24), ov_i (l + 1), ov_r 54]) (pc2 := 85) b_182_83_2 rfl rfl ?_
            refine ov_getf (v := ov_i (h17 54 7)) d_182_85 fl_Wave_48 (zb_54 I22) (zs_54 I22) rfl ?_
            have g25 := rg_54_7 I18
            refine ov_ifeq (tgt := 104) d_182_88 (by decide) (by omega) (fun c26 => ?_) (fun c26 => ?_)
            · skip
              refine ov_blk (ls2 := [(0, ov_r 54), (1, ov_i l), (2, ov_l go), (4, ov_l co), (6, ov_i w7), (7, ov_i x7)]) (st2 := [ov_l 0, ov_l (ov_land go v24), ov_i (l + 1), ov_r 54]) (pc2 := 105) b_182_104_1 rfl rfl ?_
              refine ov_cV (as := [ov_i (l + 1), ov_l (ov_land go v24), ov_l 0]) (st := []) (d2 := d - 1) d_182_105 lk_Wave_71 rfl (Nat.le_of_ble_eq_true rfl) (c := 11) (zb_54 I22) (zs_54 I22) ⟨by decide, rfl⟩ (by omega) (HC (k - 1) (by omega) (d - 1) (by omega) U I22 (l + 1) (ov_land go v24) 0 (by omega) (by omega)) ?_
              rintro _ z28 h29 ⟨rfl, I30, f27⟩
              show ov_R u d ov_m182 108 [(0, ov_r 54), (1, ov_i l), (2, ov_l go), (4, ov_l co), (6, ov_i w7), (7, ov_i x7)] [] z28 h29 (P_Wave_search_54 F z h l go co)
              have f31 : (h29 36 7) = (h17 36 7) ∧ (h29 1 1) = (h17 1 1) ∧ (h29 90 2) = (h17 90 2) ∧ (h29 0 10) = (h17 0 10) ∧ (h29 0 11) = (h17 0 11) ∧ (h29 0 12) = (h17 0 12) ∧ (h29 0 13) = (h17 0 13) ∧ (h29 3 1) = (h17 3 1) ∧ (h29 36 8) = (h17 36 8) ∧ (h29 46 3) = (h17 46 3) ∧ (h29 46 4) = (h17 46 4) ∧ (h29 49 4) = (h17 49 4) ∧ (h29 49 5) = (h17 49 5) ∧ (h29 64 0) = (h17 64 0) ∧ (h29 76 0) = (h17 76 0) := f27
              clear f27
              refine ov_blk (ls2 := [(0, ov_r 54), (1, ov_i l), (2, ov_l go), (4, ov_l co), (6, ov_i w7), (7, ov_i (x7 + 1))]) (st2 := []) (pc2 := 111) b_182_108_1 rfl rfl ?_
              refine ov_goto (tgt := 54) d_182_111 (by decide) ?_
              exact ih13 (x7 + 1) _ _ I30 (by show 0 ≤ (x7 + 1) ∧ (x7 + 1) ≤ 60 ∧ (h29 36 7) = (h 36 7) ∧ (h29 1 1) = (h 1 1) ∧ (h29 90 2) = (h 90 2) ∧ (h29 0 10) = (h 0 10) ∧ (h29 0 11) = (h 0 11) ∧ (h29 0 12) = (h 0 12) ∧ (h29 0 13) = (h 0 13) ∧ (h29 3 1) = (h 3 1) ∧ (h29 36 8) = (h 36 8) ∧ (h29 46 3) = (h 46 3) ∧ (h29 46 4) = (h 46 4) ∧ (h29 49 4) = (h 49 4) ∧ (h29 49 5) = (h 49 5) ∧ (h29 64 0) = (h 64 0) ∧ (h29 76 0) = (h 76 0); omega) (by omega)
            · skip
              refine ov_blk (ls2 := [(0, ov_r 54), (1, ov_i l), (2, ov_l go), (4, ov_l co), (6, ov_i w7), (7, ov_i x7)]) (st2 := [ov_i x7, ov_i l, ov_r 54, ov_l co, ov_l (ov_land go v24), ov_i (l + 1), ov_r 54]) (pc2 := 97) b_182_91_4 rfl rfl ?_
              refine ov_cV (as := [ov_i l, ov_i x7]) (st := [ov_l co, ov_l (ov_land go v24), ov_i (l + 1), ov_r 54]) (d2 := d - 1) d_182_97 lk_Wave_68 rfl (Nat.le_of_ble_eq_true rfl) (c := 11) (zb_54 I22) (zs_54 I22) ⟨by decide, rfl⟩ (by omega) (c_Wave_back_54 (d - 1) (by omega) U I22 l x7 (by omega) (by omega) (by omega)) ?_
              rintro _ _ _ ⟨v33, rfl, rfl, rfl, f32⟩
              show ov_R u d ov_m182 100 [(0, ov_r 54), (1, ov_i l), (2, ov_l go), (4, ov_l co), (6, ov_i w7), (7, ov_i x7)] [ov_l v33, ov_l co, ov_l (ov_land go v24), ov_i (l + 1), ov_r 54] z16 (ov_up h17 56 l x7) (P_Wave_search_54 F z h l go co)
              clear f32
              refine ov_blk (ls2 := [(0, ov_r 54), (1, ov_i l), (2, ov_l go), (4, ov_l co), (6, ov_i w7), (7, ov_i x7)]) (st2 := [ov_l (ov_land co v33), ov_l (ov_land go v24), ov_i (l + 1), ov_r 54]) (pc2 := 101) b_182_100_1 rfl rfl ?_
              refine ov_goto (tgt := 105) d_182_101 (by decide) ?_
              refine ov_cV (as := [ov_i (l + 1), ov_l (ov_land go v24), ov_l (ov_land co v33)]) (st := []) (d2 := d - 1) d_182_105 lk_Wave_71 rfl (Nat.le_of_ble_eq_true rfl) (c := 11) (zb_54 I22) (zs_54 I22) ⟨by decide, rfl⟩ (by omega) (HC (k - 1) (by omega) (d - 1) (by omega) U I22 (l + 1) (ov_land go v24) (ov_land co v33) (by omega) (by omega)) ?_
              rintro _ z35 h36 ⟨rfl, I37, f34⟩
              show ov_R u d ov_m182 108 [(0, ov_r 54), (1, ov_i l), (2, ov_l go), (4, ov_l co), (6, ov_i w7), (7, ov_i x7)] [] z35 h36 (P_Wave_search_54 F z h l go co)
              have f38 : (h36 36 7) = (h17 36 7) ∧ (h36 1 1) = (h17 1 1) ∧ (h36 90 2) = (h17 90 2) ∧ (h36 0 10) = (h17 0 10) ∧ (h36 0 11) = (h17 0 11) ∧ (h36 0 12) = (h17 0 12) ∧ (h36 0 13) = (h17 0 13) ∧ (h36 3 1) = (h17 3 1) ∧ (h36 36 8) = (h17 36 8) ∧ (h36 46 3) = (h17 46 3) ∧ (h36 46 4) = (h17 46 4) ∧ (h36 49 4) = (h17 49 4) ∧ (h36 49 5) = (h17 49 5) ∧ (h36 64 0) = (h17 64 0) ∧ (h36 76 0) = (h17 76 0) := f34
              clear f34
              refine ov_blk (ls2 := [(0, ov_r 54), (1, ov_i l), (2, ov_l go), (4, ov_l co), (6, ov_i w7), (7, ov_i (x7 + 1))]) (st2 := []) (pc2 := 111) b_182_108_1 rfl rfl ?_
              refine ov_goto (tgt := 54) d_182_111 (by decide) ?_
              exact ih13 (x7 + 1) _ _ I37 (by show 0 ≤ (x7 + 1) ∧ (x7 + 1) ≤ 60 ∧ (h36 36 7) = (h 36 7) ∧ (h36 1 1) = (h 1 1) ∧ (h36 90 2) = (h 90 2) ∧ (h36 0 10) = (h 0 10) ∧ (h36 0 11) = (h 0 11) ∧ (h36 0 12) = (h 0 12) ∧ (h36 0 13) = (h 0 13) ∧ (h36 3 1) = (h 3 1) ∧ (h36 36 8) = (h 36 8) ∧ (h36 46 3) = (h 46 3) ∧ (h36 46 4) = (h 46 4) ∧ (h36 49 4) = (h 49 4) ∧ (h36 49 5) = (h 49 5) ∧ (h36 64 0) = (h 64 0) ∧ (h36 76 0) = (h 76 0); omega) (by omega)
      exact L15 61 0 _ _ I (by show 0 ≤ 0 ∧ 0 ≤ 60 ∧ (h 36 7) = (h 36 7) ∧ (h 1 1) = (h 1 1) ∧ (h 90 2) = (h 90 2) ∧ (h 0 10) = (h 0 10) ∧ (h 0 11) = (h 0 11) ∧ (h 0 12) = (h 0 12) ∧ (h 0 13) = (h 0 13) ∧ (h 3 1) = (h 3 1) ∧ (h 36 8) = (h 36 8) ∧ (h 46 3) = (h 46 3) ∧ (h 46 4) = (h 46 4) ∧ (h 49 4) = (h 49 4) ∧ (h 49 5) = (h 49 5) ∧ (h 64 0) = (h 64 0) ∧ (h 76 0) = (h 76 0); omega) (by omega)
    · skip
      refine ov_blk (ls2 := [(0, ov_r 54), (1, ov_i l), (2, ov_l go), (4, ov_l co), (6, ov_i w7)]) (st2 := [ov_i w7, ov_r 54]) (pc2 := 33) b_182_30_2 rfl rfl ?_
      refine ov_putf (x := w7) d_182_33 fl_Wave_55 (zb_54 I) (zs_54 I) rfl nk_0 rfl ?_
      have I39 := up_54_0 (x := w7) I (by omega)
      refine ov_blk (ls2 := [(0, ov_r 54), (1, ov_i l), (2, ov_l go), (4, ov_l co), (6, ov_i w7)]) (st2 := [ov_r 54]) (pc2 := 37) b_182_36_1 rfl rfl ?_
      refine ov_getf (v := ov_r 56) d_182_37 fl_Wave_15 (zb_54 I39) (zs_54 I39) (congrArg ov_r (rg_54_2 I39)) ?_
      refine ov_blk (ls2 := [(0, ov_r 54), (1, ov_i l), (2, ov_l go), (4, ov_l co), (6, ov_i w7)]) (st2 := [ov_r 54, ov_i 0, ov_r 56]) (pc2 := 42) b_182_40_2 rfl rfl ?_
      refine ov_getf (v := ov_r 55) d_182_42 fl_Wave_11 (zb_54 I39) (zs_54 I39) (congrArg ov_r (rg_54_1 I39)) ?_
      refine ov_blk (ls2 := [(0, ov_r 54), (1, ov_i l), (2, ov_l go), (4, ov_l co), (6, ov_i w7)]) (st2 := [ov_i 4, ov_i 0, ov_r 55, ov_i 0, ov_r 56]) (pc2 := 47) b_182_45_2 rfl rfl ?_
      refine ov_acp d_182_47 la_Wave_81 la_1 la_2 la_3 (zb_56 I39) (zs_56 I39) (zb_55 I39) (zs_55 I39) (by omega) (Nat.le_of_ble_eq_true rfl) (by omega) ?_
      have I40 := ov_I_cp (s := 56) (t := 55) (n := 4) I39 (by decide) (fun k => ra_56 I39 k) (fun q => by unfold ov_kq at q; omega)
      exact ov_retv (st := []) d_182_50 rfl ⟨rfl, I40, (by show (h 36 7) = (h 36 7) ∧ (h 1 1) = (h 1 1) ∧ (h 90 2) = (h 90 2) ∧ (h 0 10) = (h 0 10) ∧ (h 0 11) = (h 0 11) ∧ (h 0 12) = (h 0 12) ∧ (h 0 13) = (h 0 13) ∧ (h 3 1) = (h 3 1) ∧ (h 36 8) = (h 36 8) ∧ (h 46 3) = (h 46 3) ∧ (h 46 4) = (h 46 4) ∧ (h 49 4) = (h 49 4) ∧ (h 49 5) = (h 49 5) ∧ (h 64 0) = (h 64 0) ∧ (h 76 0) = (h 76 0); omega)⟩
  · skip
    exact ov_retv (st := []) d_182_21 rfl ⟨rfl, I, (by show (h 36 7) = (h 36 7) ∧ (h 1 1) = (h 1 1) ∧ (h 90 2) = (h 90 2) ∧ (h 0 10) = (h 0 10) ∧ (h 0 11) = (h 0 11) ∧ (h 0 12) = (h 0 12) ∧ (h 0 13) = (h 0 13) ∧ (h 3 1) = (h 3 1) ∧ (h 36 8) = (h 36 8) ∧ (h 46 3) = (h 46 3) ∧ (h 46 4) = (h 46 4) ∧ (h 49 4) = (h 49 4) ∧ (h 49 5) = (h 49 5) ∧ (h 64 0) = (h 64 0) ∧ (h 76 0) = (h 76 0); omega)⟩
theorem c_Wave_search_54_all {u : ov_U} {F : ov_H} (k : Nat) : ∀ {z : ov_Z} {h : ov_H} (d : Nat) (hd : (10 + 1 * k ) ≤ d) (U : ov_cap u) (I : ov_I F z h) (l : Int) (go : Int) (co : Int) (g_l : ov_g l) (p0 : 0 ≤ l ∧ l + (k : Int) = 4), ov_T u d ov_m182 [ov_r 54, ov_i l, ov_l go, ov_l co] z h (P_Wave_search_54 F z h l go co) := by
  induction k using Nat.strongRecOn with
  | ind k ih => exact fun {z} {h} => @c_Wave_search_54 u F k (fun k' hk => @ih k' hk) z h
abbrev P_Wave_solve_54_58 (F : ov_H) (z : ov_Z) (h : ov_H) (c : Int) (n : Int) (b : Int) : Option ov_V → ov_Z → ov_H → Prop := fun r0 z' h' => r0 = none ∧ ov_I F z' h' ∧ ((h' 36 7) = (h 36 7) ∧ (h' 1 1) = (h 1 1) ∧ (h' 90 2) = (h 90 2) ∧ (h' 0 10) = (h 0 10) ∧ (h' 0 11) = (h 0 11) ∧ (h' 0 12) = (h 0 12) ∧ (h' 0 13) = (h 0 13) ∧ (h' 3 1) = (h 3 1) ∧ (h' 36 8) = (h 36 8) ∧ (h' 46 3) = (h 46 3) ∧ (h' 46 4) = (h 46 4) ∧ (h' 49 4) = (h 49 4) ∧ (h' 49 5) = (h 49 5) ∧ (h' 64 0) = (h 64 0) ∧ (h' 76 0) = (h 76 0))
set_option maxHeartbeats 4000000 in
theorem c_Wave_solve_54_58 {u : ov_U} {F : ov_H} {z : ov_Z} {h : ov_H} (d : Nat) (hd : 20 ≤ d) (U : ov_cap u) (I : ov_I F z h) (c : Int) (n : Int) (b : Int) (g_c : ov_g c) (g_n : ov_g n) (g_b : b = 0 ∨ b = 1) (p0 : 0 ≤ c ∧ c + 6 * (n - 1) ≤ 53) (p1 : 2 ≤ n ∧ n ≤ 4) : ov_T u d ov_m178 [ov_r 54, ov_r 58, ov_i c, ov_i n, ov_i b] z h (P_Wave_solve_54_58 F z h c n b) := by
  refine ov_en rfl (Nat.le_of_ble_eq_true rfl) ?_
  show ov_R u d ov_m178 0 [(0, ov_r 54), (1, ov_r 58), (2, ov_i c), (3, ov_i n), (4, ov_i b)] [] z h (P_Wave_solve_54_58 F z h c n b)
  refine ov_blk (ls2 := [(0, ov_r 54), (1, ov_r 58), (2, ov_i c), (3, ov_i n), (4, ov_i b)]) (st2 := [ov_i b, ov_i (((c * 5) + n) * 2)]) (pc2 := 9) b_178_0_8 rfl rfl ?_
  refine ov_ifeq (tgt := 16) d_178_9 (by decide) (by omega) (fun c1 => ?_) (fun c1 => ?_)
  · skip
    refine ov_blk (ls2 := [(0, ov_r 54), (1, ov_r 58), (2, ov_i c), (3, ov_i n), (4, ov_i b), (5, ov_i ((((c * 5) + n) * 2) + 0))]) (st2 := [ov_r 54]) (pc2 := 21) b_178_16_4 rfl rfl ?_
    refine ov_getf (v := ov_i (h 54 8)) d_178_21 fl_Wave_22 (zb_54 I) (zs_54 I) rfl ?_
    have g2 := rg_54_8 I
    refine ov_blk (ls2 := [(0, ov_r 54), (1, ov_r 58), (2, ov_i c), (3, ov_i n), (4, ov_i b), (5, ov_i ((((c * 5) + n) * 2) + 0))]) (st2 := [ov_i ((((c * 5) + n) * 2) + 0), ov_i (h 54 8)]) (pc2 := 26) b_178_24_1 rfl rfl ?_
    refine ov_icne (tgt := 30) d_178_26 (by decide) (by omega) (by omega) (fun c3 => ?_) (fun c3 => ?_)
    · skip
      refine ov_blk (ls2 := [(0, ov_r 54), (1, ov_r 58), (2, ov_i c), (3, ov_i n), (4, ov_i b), (5, ov_i ((((c * 5) + n) * 2) + 0))]) (st2 := [ov_i ((((c * 5) + n) * 2) + 0), ov_r 54]) (pc2 := 33) b_178_30_2 rfl rfl ?_
      refine ov_putf (x := ((((c * 5) + n) * 2) + 0)) d_178_33 fl_Wave_22 (zb_54 I) (zs_54 I) rfl nk_0 rfl ?_
      have I4 := up_54_8 (x := ((((c * 5) + n) * 2) + 0)) I (by omega)
      refine ov_blk (ls2 := [(0, ov_r 54), (1, ov_r 58), (2, ov_i c), (3, ov_i n), (4, ov_i b), (5, ov_i ((((c * 5) + n) * 2) + 0))]) (st2 := [ov_i 4, ov_i n, ov_r 54]) (pc2 := 39) b_178_36_3 rfl rfl ?_
      refine ov_cS (as := [ov_i n, ov_i 4]) (st := [ov_r 54]) (d2 := d - 1) d_178_39 lk_Wave_26 rfl (Nat.le_of_ble_eq_true rfl) (by omega) (c_Math_min (d - 1) (by omega) U I4 n 4 (by omega) (by omega)) ?_
      rintro _ _ _ ⟨v6, rfl, rfl, rfl, f5⟩
      show ov_R u d ov_m178 42 [(0, ov_r 54), (1, ov_r 58), (2, ov_i c), (3, ov_i n), (4, ov_i b), (5, ov_i ((((c * 5) + n) * 2) + 0))] [ov_i v6, ov_r 54] z (ov_up h 54 8 ((((c * 5) + n) * 2) + 0)) (P_Wave_solve_54_58 F z h c n b)
      have f7 : v6 ≤ n ∧ v6 ≤ (4 : Int) ∧ (v6 = n ∨ v6 = (4 : Int)) := f5
      clear f5
      refine ov_putf (x := v6) d_178_42 fl_Wave_32 (zb_54 I4) (zs_54 I4) rfl nk_0 rfl ?_
      have I8 := up_54_4 (x := v6) I4 (by omega)
      refine ov_blk (ls2 := [(0, ov_r 54), (1, ov_r 58), (2, ov_i c), (3, ov_i n), (4, ov_i b), (5, ov_i ((((c * 5) + n) * 2) + 0))]) (st2 := [ov_r 58, ov_r 54]) (pc2 := 47) b_178_45_2 rfl rfl ?_
      refine ov_getf (v := ov_r 60) d_178_47 fl_Wave_35 (zb_58 I8) (zs_58 I8) (congrArg ov_r (rg_58_3 I8)) ?_
      refine ov_blk (ls2 := [(0, ov_r 54), (1, ov_r 58), (2, ov_i c), (3, ov_i n), (4, ov_i b), (5, ov_i ((((c * 5) + n) * 2) + 0))]) (st2 := [ov_i c, ov_r 60, ov_r 54]) (pc2 := 51) b_178_50_1 rfl rfl ?_
      refine ov_iald d_178_51 (zb_60 I8) (zs_60 I8) (by omega) ?_
      show ov_R u d ov_m178 52 [(0, ov_r 54), (1, ov_r 58), (2, ov_i c), (3, ov_i n), (4, ov_i b), (5, ov_i ((((c * 5) + n) * 2) + 0))] [ov_i (h 60 c), ov_r 54] z (ov_up (ov_up h 54 8 ((((c * 5) + n) * 2) + 0)) 54 4 v6) (P_Wave_solve_54_58 F z h c n b)
      have g9 := ra_60 I c
      refine ov_putf (x := (h 60 c)) d_178_52 fl_Wave_40 (zb_54 I8) (zs_54 I8) rfl nk_0 rfl ?_
      have I10 := up_54_5 (x := (h 60 c)) I8 (by omega)
      refine ov_blk (ls2 := [(0, ov_r 54), (1, ov_r 58), (2, ov_i c), (3, ov_i n), (4, ov_i b), (5, ov_i ((((c * 5) + n) * 2) + 0))]) (st2 := [ov_r 58, ov_r 54]) (pc2 := 57) b_178_55_2 rfl rfl ?_
      refine ov_getf (v := ov_r 64) d_178_57 fl_Wave_42 (zb_58 I10) (zs_58 I10) (congrArg ov_r (rg_58_7 I10)) ?_
      refine ov_blk (ls2 := [(0, ov_r 54), (1, ov_r 58), (2, ov_i c), (3, ov_i n), (4, ov_i b), (5, ov_i ((((c * 5) + n) * 2) + 0))]) (st2 := [ov_i 0, ov_r 64, ov_r 54]) (pc2 := 61) b_178_60_1 rfl rfl ?_
      refine ov_iald d_178_61 (zb_64 I10) (zs_64 I10) (by omega) ?_
      show ov_R u d ov_m178 62 [(0, ov_r 54), (1, ov_r 58), (2, ov_i c), (3, ov_i n), (4, ov_i b), (5, ov_i ((((c * 5) + n) * 2) + 0))] [ov_i (h 64 0), ov_r 54] z (ov_up (ov_up (ov_up h 54 8 ((((c * 5) + n) * 2) + 0)) 54 4 v6) 54 5 (h 60 c)) (P_Wave_solve_54_58 F z h c n b)
      have g11 := ra_64 I 0
      refine ov_putf (x := (h 64 0)) d_178_62 fl_Wave_45 (zb_54 I10) (zs_54 I10) rfl nk_0 rfl ?_
      have I12 := up_54_6 (x := (h 64 0)) I10 (by omega)
      refine ov_blk (ls2 := [(0, ov_r 54), (1, ov_r 58), (2, ov_i c), (3, ov_i n), (4, ov_i b), (5, ov_i ((((c * 5) + n) * 2) + 0))]) (st2 := [ov_i b, ov_r 54]) (pc2 := 68) b_178_65_2 rfl rfl ?_
      refine ov_putf (x := b) d_178_68 fl_Wave_48 (zb_54 I12) (zs_54 I12) rfl (nk_3 (by omega)) rfl ?_
      have I13 := up_54_7 (x := b) I12 (by omega)
      refine ov_blk (ls2 := [(0, ov_r 54), (1, ov_r 58), (2, ov_i c), (3, ov_i n), (4, ov_i b), (5, ov_i ((((c * 5) + n) * 2) + 0)), (6, ov_i 0)]) (st2 := []) (pc2 := 74) b_178_71_2 rfl rfl ?_
      have L17 : ∀ (n14 : Nat) (x6 : Int) (z18 : ov_Z) (h19 : ov_H) (I20 : ov_I F z18 h19) (q16 : 0 ≤ x6 ∧ x6 ≤ 4 ∧ (h19 54 4) ≤ n ∧ (h19 36 7) = (h 36 7) ∧ (h19 1 1) = (h 1 1) ∧ (h19 90 2) = (h 90 2) ∧ (h19 0 10) = (h 0 10) ∧ (h19 0 11) = (h 0 11) ∧ (h19 0 12) = (h 0 12) ∧ (h19 0 13) = (h 0 13) ∧ (h19 3 1) = (h 3 1) ∧ (h19 36 8) = (h 36 8) ∧ (h19 46 3) = (h 46 3) ∧ (h19 46 4) = (h 46 4) ∧ (h19 49 4) = (h 49 4) ∧ (h19 49 5) = (h 49 5) ∧ (h19 64 0) = (h 64 0) ∧ (h19 76 0) = (h 76 0)), 4 - x6 < (n14 : Int) → ov_R u d ov_m178 74 [(0, ov_r 54), (1, ov_r 58), (2, ov_i c), (3, ov_i n), (4, ov_i b), (5, ov_i ((((c * 5) + n) * 2) + 0)), (6, ov_i x6)] [] z18 h19 (P_Wave_solve_54_58 F z h c n b) := by
        intro n14
        induction n14 with
        | zero =>
          intro x6 z18 h19 I20 q16 hn21
          exact absurd hn21 (by omega)
        | succ n14 ih15 =>
          intro x6 z18 h19 I20 q16 hn21
          refine ov_blk (ls2 := [(0, ov_r 54), (1, ov_r 58), (2, ov_i c), (3, ov_i n), (4, ov_i b), (5, ov_i ((((c * 5) + n) * 2) + 0)), (6, ov_i x6)]) (st2 := [ov_r 54, ov_i x6]) (pc2 := 77) b_178_74_2 rfl rfl ?_
          refine ov_getf (v := ov_i (h19 54 4)) d_178_77 fl_Wave_32 (zb_54 I20) (zs_54 I20) rfl ?_
          have g22 := rg_54_4 I20
          refine ov_icge (tgt := 117) d_178_80 (by decide) (by omega) (by omega) (fun c23 => ?_) (fun c23 => ?_)
          · skip
            refine ov_blk (ls2 := [(0, ov_r 54), (1, ov_r 58), (2, ov_i c), (3, ov_i n), (4, ov_i b), (5, ov_i ((((c * 5) + n) * 2) + 0)), (6, ov_i x6)]) (st2 := [ov_i (-1), ov_r 54]) (pc2 := 119) b_178_117_2 rfl rfl ?_
            refine ov_putf (x := (-1)) d_178_119 fl_Wave_55 (zb_54 I20) (zs_54 I20) rfl nk_0 rfl ?_
            have I24 := up_54_0 (x := (-1)) I20 (by omega)
            refine ov_blk (ls2 := [(0, ov_r 54), (1, ov_r 58), (2, ov_i c), (3, ov_i n), (4, ov_i b), (5, ov_i ((((c * 5) + n) * 2) + 0)), (6, ov_i x6)]) (st2 := [ov_r 54]) (pc2 := 123) b_178_122_1 rfl rfl ?_
            refine ov_getf (v := ov_r 56) d_178_123 fl_Wave_15 (zb_54 I24) (zs_54 I24) (congrArg ov_r (rg_54_2 I24)) ?_
            refine ov_blk (ls2 := [(0, ov_r 54), (1, ov_r 58), (2, ov_i c), (3, ov_i n), (4, ov_i b), (5, ov_i ((((c * 5) + n) * 2) + 0)), (6, ov_i x6)]) (st2 := [ov_r 58, ov_i 0, ov_r 56]) (pc2 := 128) b_178_126_2 rfl rfl ?_
            refine ov_getf (v := ov_r 61) d_178_128 fl_Wave_58 (zb_58 I24) (zs_58 I24) (congrArg ov_r (rg_58_4 I24)) ?_
            refine ov_blk (ls2 := [(0, ov_r 54), (1, ov_r 58), (2, ov_i c), (3, ov_i n), (4, ov_i b), (5, ov_i ((((c * 5) + n) * 2) + 0)), (6, ov_i x6)]) (st2 := [ov_i c, ov_r 61, ov_i 0, ov_r 56]) (pc2 := 132) b_178_131_1 rfl rfl ?_
            refine ov_iald d_178_132 (zb_61 I24) (zs_61 I24) (by omega) ?_
            show ov_R u d ov_m178 133 [(0, ov_r 54), (1, ov_r 58), (2, ov_i c), (3, ov_i n), (4, ov_i b), (5, ov_i ((((c * 5) + n) * 2) + 0)), (6, ov_i x6)] [ov_i (h19 61 c), ov_i 0, ov_r 56] z18 (ov_up h19 54 0 (-1)) (P_Wave_solve_54_58 F z h c n b)
            have g25 := ra_61 I20 c
            refine ov_blk (ls2 := [(0, ov_r 54), (1, ov_r 58), (2, ov_i c), (3, ov_i n), (4, ov_i b), (5, ov_i ((((c * 5) + n) * 2) + 0)), (6, ov_i x6)]) (st2 := [ov_r 58, ov_i (h19 61 c), ov_i 0, ov_r 56]) (pc2 := 134) b_178_133_1 rfl rfl ?_
            refine ov_getf (v := ov_r 62) d_178_134 fl_Wave_52 (zb_58 I24) (zs_58 I24) (congrArg ov_r (rg_58_5 I24)) ?_
            refine ov_blk (ls2 := [(0, ov_r 54), (1, ov_r 58), (2, ov_i c), (3, ov_i n), (4, ov_i b), (5, ov_i ((((c * 5) + n) * 2) + 0)), (6, ov_i x6)]) (st2 := [ov_i c, ov_r 62, ov_i (h19 61 c), ov_i 0, ov_r 56]) (pc2 := 138) b_178_137_1 rfl rfl ?_
            refine ov_iald d_178_138 (zb_62 I24) (zs_62 I24) (by omega) ?_
            show ov_R u d ov_m178 139 [(0, ov_r 54), (1, ov_r 58), (2, ov_i c), (3, ov_i n), (4, ov_i b), (5, ov_i ((((c * 5) + n) * 2) + 0)), (6, ov_i x6)] [ov_i (h19 62 c), ov_i (h19 61 c), ov_i 0, ov_r 56] z18 (ov_up h19 54 0 (-1)) (P_Wave_solve_54_58 F z h c n b)
            have g26 := ra_62 I20 c
            refine ov_blk (ls2 := [(0, ov_r 54), (1, ov_r 58), (2, ov_i c), (3, ov_i n), (4, ov_i b), (5, ov_i ((((c * 5) + n) * 2) + 0)), (6, ov_i x6)]) (st2 := [ov_r 54, ov_i ((h19 61 c) + (h19 62 c)), ov_i 0, ov_r 56]) (pc2 := 141) b_178_139_2 rfl rfl ?_
            refine ov_getf (v := ov_i (h19 54 5)) d_178_141 fl_Wave_40 (zb_54 I24) (zs_54 I24) rfl ?_
            have g27 := rg_54_5 I20
            refine ov_cSN (as := [ov_i ((h19 61 c) + (h19 62 c)), ov_i (h19 54 5)]) (st := [ov_i 0, ov_r 56]) (d2 := d - 1) d_178_144 lk_Wave_61 rfl (Nat.le_of_ble_eq_true rfl) (by omega) (c_OF_modulo (d - 1) (by omega) U I24 ((h19 61 c) + (h19 62 c)) (h19 54 5) (by omega) (by omega)) ?_
            rintro _ _ _ ⟨v29, rfl, rfl, rfl, f28⟩
            show ov_R u d ov_m178 147 [(0, ov_r 54), (1, ov_r 58), (2, ov_i c), (3, ov_i n), (4, ov_i b), (5, ov_i ((((c * 5) + n) * 2) + 0)), (6, ov_i x6)] [ov_i v29, ov_i 0, ov_r 56] z18 (ov_up h19 54 0 (-1)) (P_Wave_solve_54_58 F z h c n b)
            have f30 : (0 < (h19 54 5) → 0 ≤ v29 ∧ v29 < (h19 54 5)) ∧ ((h19 54 5) ≤ 0 → v29 = 0) := f28
            clear f28
            refine ov_iast d_178_147 (zb_56 I24) (zs_56 I24) (by omega) ?_
            have I31 := ua_56 (k := 0) (x := v29) I24 (by omega)
            refine ov_blk (ls2 := [(0, ov_r 54), (1, ov_r 58), (2, ov_i c), (3, ov_i n), (4, ov_i b), (5, ov_i ((((c * 5) + n) * 2) + 0)), (6, ov_i x6)]) (st2 := [ov_r 54, ov_i 0, ov_r 54, ov_i 1, ov_r 54]) (pc2 := 153) b_178_148_5 rfl rfl ?_
            refine ov_getf (v := ov_r 56) d_178_153 fl_Wave_15 (zb_54 I31) (zs_54 I31) (congrArg ov_r (rg_54_2 I31)) ?_
            refine ov_blk (ls2 := [(0, ov_r 54), (1, ov_r 58), (2, ov_i c), (3, ov_i n), (4, ov_i b), (5, ov_i ((((c * 5) + n) * 2) + 0)), (6, ov_i x6)]) (st2 := [ov_i 0, ov_r 56, ov_i 0, ov_r 54, ov_i 1, ov_r 54]) (pc2 := 157) b_178_156_1 rfl rfl ?_
            refine ov_iald d_178_157 (zb_56 I31) (zs_56 I31) (by omega) ?_
            show ov_R u d ov_m178 158 [(0, ov_r 54), (1, ov_r 58), (2, ov_i c), (3, ov_i n), (4, ov_i b), (5, ov_i ((((c * 5) + n) * 2) + 0)), (6, ov_i x6)] [ov_i v29, ov_i 0, ov_r 54, ov_i 1, ov_r 54] z18 (ov_up (ov_up h19 54 0 (-1)) 56 0 v29) (P_Wave_solve_54_58 F z h c n b)
            refine ov_cV (as := [ov_i 0, ov_i v29]) (st := [ov_i 1, ov_r 54]) (d2 := d - 1) d_178_158 lk_Wave_64 rfl (Nat.le_of_ble_eq_true rfl) (c := 11) (zb_54 I31) (zs_54 I31) ⟨by decide, rfl⟩ (by omega) (c_Wave_there_54 (d - 1) (by omega) U I31 0 v29 (by omega) (by omega) (by omega)) ?_
            rintro _ _ _ ⟨v33, rfl, rfl, rfl, f32⟩
            show ov_R u d ov_m178 161 [(0, ov_r 54), (1, ov_r 58), (2, ov_i c), (3, ov_i n), (4, ov_i b), (5, ov_i ((((c * 5) + n) * 2) + 0)), (6, ov_i x6)] [ov_l v33, ov_i 1, ov_r 54] z18 (ov_up (ov_up h19 54 0 (-1)) 56 0 v29) (P_Wave_solve_54_58 F z h c n b)
            clear f32
            refine ov_blk (ls2 := [(0, ov_r 54), (1, ov_r 58), (2, ov_i c), (3, ov_i n), (4, ov_i b), (5, ov_i ((((c * 5) + n) * 2) + 0)), (6, ov_i x6)]) (st2 := [ov_r 54, ov_l v33, ov_i 1, ov_r 54]) (pc2 := 162) b_178_161_1 rfl rfl ?_
            refine ov_getf (v := ov_i (h19 54 7)) d_178_162 fl_Wave_48 (zb_54 I31) (zs_54 I31) rfl ?_
            have g34 := rg_54_7 I20
            refine ov_ifeq (tgt := 182) d_178_165 (by decide) (by omega) (fun c35 => ?_) (fun c35 => ?_)
            · skip
              refine ov_blk (ls2 := [(0, ov_r 54), (1, ov_r 58), (2, ov_i c), (3, ov_i n), (4, ov_i b), (5, ov_i ((((c * 5) + n) * 2) + 0)), (6, ov_i x6)]) (st2 := [ov_l 0, ov_l v33, ov_i 1, ov_r 54]) (pc2 := 183) b_178_182_1 rfl rfl ?_
              refine ov_cV (as := [ov_i 1, ov_l v33, ov_l 0]) (st := []) (d2 := d - 1) d_178_183 lk_Wave_71 rfl (Nat.le_of_ble_eq_true rfl) (c := 11) (zb_54 I31) (zs_54 I31) ⟨by decide, rfl⟩ (by omega) (c_Wave_search_54_all 3 (d - 1) (by omega) U I31 1 v33 0 (by omega) (by omega)) ?_
              rintro _ z37 h38 ⟨rfl, I39, f36⟩
              show ov_R u d ov_m178 186 [(0, ov_r 54), (1, ov_r 58), (2, ov_i c), (3, ov_i n), (4, ov_i b), (5, ov_i ((((c * 5) + n) * 2) + 0)), (6, ov_i x6)] [] z37 h38 (P_Wave_solve_54_58 F z h c n b)
              have f40 : (h38 36 7) = (h19 36 7) ∧ (h38 1 1) = (h19 1 1) ∧ (h38 90 2) = (h19 90 2) ∧ (h38 0 10) = (h19 0 10) ∧ (h38 0 11) = (h19 0 11) ∧ (h38 0 12) = (h19 0 12) ∧ (h38 0 13) = (h19 0 13) ∧ (h38 3 1) = (h19 3 1) ∧ (h38 36 8) = (h19 36 8) ∧ (h38 46 3) = (h19 46 3) ∧ (h38 46 4) = (h19 46 4) ∧ (h38 49 4) = (h19 49 4) ∧ (h38 49 5) = (h19 49 5) ∧ (h38 64 0) = (h19 64 0) ∧ (h38 76 0) = (h19 76 0) := f36
              clear f36
              exact ov_retv (st := []) d_178_186 rfl ⟨rfl, I39, (by show (h38 36 7) = (h 36 7) ∧ (h38 1 1) = (h 1 1) ∧ (h38 90 2) = (h 90 2) ∧ (h38 0 10) = (h 0 10) ∧ (h38 0 11) = (h 0 11) ∧ (h38 0 12) = (h 0 12) ∧ (h38 0 13) = (h 0 13) ∧ (h38 3 1) = (h 3 1) ∧ (h38 36 8) = (h 36 8) ∧ (h38 46 3) = (h 46 3) ∧ (h38 46 4) = (h 46 4) ∧ (h38 49 4) = (h 49 4) ∧ (h38 49 5) = (h 49 5) ∧ (h38 64 0) = (h 64 0) ∧ (h38 76 0) = (h 76 0); omega)⟩
            · skip
              refine ov_blk (ls2 := [(0, ov_r 54), (1, ov_r 58), (2, ov_i c), (3, ov_i n), (4, ov_i b), (5, ov_i ((((c * 5) + n) * 2) + 0)), (6, ov_i x6)]) (st2 := [ov_r 54, ov_i 0, ov_r 54, ov_l v33, ov_i 1, ov_r 54]) (pc2 := 171) b_178_168_3 rfl rfl ?_
              refine ov_getf (v := ov_r 56) d_178_171 fl_Wave_15 (zb_54 I31) (zs_54 I31) (congrArg ov_r (rg_54_2 I31)) ?_
              refine ov_blk (ls2 := [(0, ov_r 54), (1, ov_r 58), (2, ov_i c), (3, ov_i n), (4, ov_i b), (5, ov_i ((((c * 5) + n) * 2) + 0)), (6, ov_i x6)]) (st2 := [ov_i 0, ov_r 56, ov_i 0, ov_r 54, ov_l v33, ov_i 1, ov_r 54]) (pc2 := 175) b_178_174_1 rfl rfl ?_
              refine ov_iald d_178_175 (zb_56 I31) (zs_56 I31) (by omega) ?_
              show ov_R u d ov_m178 176 [(0, ov_r 54), (1, ov_r 58), (2, ov_i c), (3, ov_i n), (4, ov_i b), (5, ov_i ((((c * 5) + n) * 2) + 0)), (6, ov_i x6)] [ov_i v29, ov_i 0, ov_r 54, ov_l v33, ov_i 1, ov_r 54] z18 (ov_up (ov_up h19 54 0 (-1)) 56 0 v29) (P_Wave_solve_54_58 F z h c n b)
              refine ov_cV (as := [ov_i 0, ov_i v29]) (st := [ov_l v33, ov_i 1, ov_r 54]) (d2 := d - 1) d_178_176 lk_Wave_68 rfl (Nat.le_of_ble_eq_true rfl) (c := 11) (zb_54 I31) (zs_54 I31) ⟨by decide, rfl⟩ (by omega) (c_Wave_back_54 (d - 1) (by omega) U I31 0 v29 (by omega) (by omega) (by omega)) ?_
              rintro _ _ _ ⟨v42, rfl, rfl, rfl, f41⟩
              show ov_R u d ov_m178 179 [(0, ov_r 54), (1, ov_r 58), (2, ov_i c), (3, ov_i n), (4, ov_i b), (5, ov_i ((((c * 5) + n) * 2) + 0)), (6, ov_i x6)] [ov_l v42, ov_l v33, ov_i 1, ov_r 54] z18 (ov_up (ov_up h19 54 0 (-1)) 56 0 v29) (P_Wave_solve_54_58 F z h c n b)
              clear f41
              refine ov_goto (tgt := 183) d_178_179 (by decide) ?_
              refine ov_cV (as := [ov_i 1, ov_l v33, ov_l v42]) (st := []) (d2 := d - 1) d_178_183 lk_Wave_71 rfl (Nat.le_of_ble_eq_true rfl) (c := 11) (zb_54 I31) (zs_54 I31) ⟨by decide, rfl⟩ (by omega) (c_Wave_search_54_all 3 (d - 1) (by omega) U I31 1 v33 v42 (by omega) (by omega)) ?_
              rintro _ z44 h45 ⟨rfl, I46, f43⟩
              show ov_R u d ov_m178 186 [(0, ov_r 54), (1, ov_r 58), (2, ov_i c), (3, ov_i n), (4, ov_i b), (5, ov_i ((((c * 5) + n) * 2) + 0)), (6, ov_i x6)] [] z44 h45 (P_Wave_solve_54_58 F z h c n b)
              have f47 : (h45 36 7) = (h19 36 7) ∧ (h45 1 1) = (h19 1 1) ∧ (h45 90 2) = (h19 90 2) ∧ (h45 0 10) = (h19 0 10) ∧ (h45 0 11) = (h19 0 11) ∧ (h45 0 12) = (h19 0 12) ∧ (h45 0 13) = (h19 0 13) ∧ (h45 3 1) = (h19 3 1) ∧ (h45 36 8) = (h19 36 8) ∧ (h45 46 3) = (h19 46 3) ∧ (h45 46 4) = (h19 46 4) ∧ (h45 49 4) = (h19 49 4) ∧ (h45 49 5) = (h19 49 5) ∧ (h45 64 0) = (h19 64 0) ∧ (h45 76 0) = (h19 76 0) := f43
              clear f43
              exact ov_retv (st := []) d_178_186 rfl ⟨rfl, I46, (by show (h45 36 7) = (h 36 7) ∧ (h45 1 1) = (h 1 1) ∧ (h45 90 2) = (h 90 2) ∧ (h45 0 10) = (h 0 10) ∧ (h45 0 11) = (h 0 11) ∧ (h45 0 12) = (h 0 12) ∧ (h45 0 13) = (h 0 13) ∧ (h45 3 1) = (h 3 1) ∧ (h45 36 8) = (h 36 8) ∧ (h45 46 3) = (h 46 3) ∧ (h45 46 4) = (h 46 4) ∧ (h45 49 4) = (h 49 4) ∧ (h45 49 5) = (h 49 5) ∧ (h45 64 0) = (h 64 0) ∧ (h45 76 0) = (h 76 0); omega)⟩
          · skip
            refine ov_blk (ls2 := [(0, ov_r 54), (1, ov_r 58), (2, ov_i c), (3, ov_i n), (4, ov_i b), (5, ov_i ((((c * 5) + n) * 2) + 0)), (6, ov_i x6)]) (st2 := [ov_r 54]) (pc2 := 84) b_178_83_1 rfl rfl ?_
            refine ov_getf (v := ov_r 57) d_178_84 fl_Wave_18 (zb_54 I20) (zs_54 I20) (congrArg ov_r (rg_54_3 I20)) ?_
            refine ov_blk (ls2 := [(0, ov_r 54), (1, ov_r 58), (2, ov_i c), (3, ov_i n), (4, ov_i b), (5, ov_i ((((c * 5) + n) * 2) + 0)), (6, ov_i x6)]) (st2 := [ov_r 54, ov_l 1, ov_i x6, ov_r 57]) (pc2 := 91) b_178_87_3 rfl rfl ?_
            refine ov_getf (v := ov_i (h19 54 5)) d_178_91 fl_Wave_40 (zb_54 I20) (zs_54 I20) rfl ?_
            have g48 := rg_54_5 I20
            refine ov_blk (ls2 := [(0, ov_r 54), (1, ov_r 58), (2, ov_i c), (3, ov_i n), (4, ov_i b), (5, ov_i ((((c * 5) + n) * 2) + 0)), (6, ov_i x6)]) (st2 := [ov_r 58, ov_i (h19 54 5), ov_l 1, ov_i x6, ov_r 57]) (pc2 := 95) b_178_94_1 rfl rfl ?_
            refine ov_getf (v := ov_r 62) d_178_95 fl_Wave_52 (zb_58 I20) (zs_58 I20) (congrArg ov_r (rg_58_5 I20)) ?_
            refine ov_blk (ls2 := [(0, ov_r 54), (1, ov_r 58), (2, ov_i c), (3, ov_i n), (4, ov_i b), (5, ov_i ((((c * 5) + n) * 2) + 0)), (6, ov_i x6)]) (st2 := [ov_i (c + (x6 * 6)), ov_r 62, ov_i (h19 54 5), ov_l 1, ov_i x6, ov_r 57]) (pc2 := 105) b_178_98_5 rfl rfl ?_
            refine ov_iald d_178_105 (zb_62 I20) (zs_62 I20) (by omega) ?_
            have g49 := ra_62 I20 (c + (x6 * 6))
            refine ov_blk (ls2 := [(0, ov_r 54), (1, ov_r 58), (2, ov_i c), (3, ov_i n), (4, ov_i b), (5, ov_i ((((c * 5) + n) * 2) + 0)), (6, ov_i x6)]) (st2 := [ov_l ((ov_lshl 1 ((h19 54 5) - (h19 62 (c + (x6 * 6))))) - 1), ov_i x6, ov_r 57]) (pc2 := 110) b_178_106_4 rfl rfl ?_
            refine ov_last d_178_110 (zb_57 I20) (zs_57 I20) (by omega) ?_
            have I50 := ua_57 (k := x6) (x := ((ov_lshl 1 ((h19 54 5) - (h19 62 (c + (x6 * 6))))) - 1)) I20
            refine ov_blk (ls2 := [(0, ov_r 54), (1, ov_r 58), (2, ov_i c), (3, ov_i n), (4, ov_i b), (5, ov_i ((((c * 5) + n) * 2) + 0)), (6, ov_i (x6 + 1))]) (st2 := []) (pc2 := 114) b_178_111_1 rfl rfl ?_
            refine ov_goto (tgt := 74) d_178_114 (by decide) ?_
            exact ih15 (x6 + 1) _ _ I50 (by show 0 ≤ (x6 + 1) ∧ (x6 + 1) ≤ 4 ∧ (h19 54 4) ≤ n ∧ (h19 36 7) = (h 36 7) ∧ (h19 1 1) = (h 1 1) ∧ (h19 90 2) = (h 90 2) ∧ (h19 0 10) = (h 0 10) ∧ (h19 0 11) = (h 0 11) ∧ (h19 0 12) = (h 0 12) ∧ (h19 0 13) = (h 0 13) ∧ (h19 3 1) = (h 3 1) ∧ (h19 36 8) = (h 36 8) ∧ (h19 46 3) = (h 46 3) ∧ (h19 46 4) = (h 46 4) ∧ (h19 49 4) = (h 49 4) ∧ (h19 49 5) = (h 49 5) ∧ (h19 64 0) = (h 64 0) ∧ (h19 76 0) = (h 76 0); omega) (by omega)
      exact L17 5 0 _ _ I13 (by show 0 ≤ 0 ∧ 0 ≤ 4 ∧ v6 ≤ n ∧ (h 36 7) = (h 36 7) ∧ (h 1 1) = (h 1 1) ∧ (h 90 2) = (h 90 2) ∧ (h 0 10) = (h 0 10) ∧ (h 0 11) = (h 0 11) ∧ (h 0 12) = (h 0 12) ∧ (h 0 13) = (h 0 13) ∧ (h 3 1) = (h 3 1) ∧ (h 36 8) = (h 36 8) ∧ (h 46 3) = (h 46 3) ∧ (h 46 4) = (h 46 4) ∧ (h 49 4) = (h 49 4) ∧ (h 49 5) = (h 49 5) ∧ (h 64 0) = (h 64 0) ∧ (h 76 0) = (h 76 0); omega) (by omega)
    · skip
      exact ov_retv (st := []) d_178_29 rfl ⟨rfl, I, (by show (h 36 7) = (h 36 7) ∧ (h 1 1) = (h 1 1) ∧ (h 90 2) = (h 90 2) ∧ (h 0 10) = (h 0 10) ∧ (h 0 11) = (h 0 11) ∧ (h 0 12) = (h 0 12) ∧ (h 0 13) = (h 0 13) ∧ (h 3 1) = (h 3 1) ∧ (h 36 8) = (h 36 8) ∧ (h 46 3) = (h 46 3) ∧ (h 46 4) = (h 46 4) ∧ (h 49 4) = (h 49 4) ∧ (h 49 5) = (h 49 5) ∧ (h 64 0) = (h 64 0) ∧ (h 76 0) = (h 76 0); omega)⟩
  · skip
    refine ov_blk (ls2 := [(0, ov_r 54), (1, ov_r 58), (2, ov_i c), (3, ov_i n), (4, ov_i b)]) (st2 := [ov_i 1, ov_i (((c * 5) + n) * 2)]) (pc2 := 13) b_178_12_1 rfl rfl ?_
    refine ov_goto (tgt := 17) d_178_13 (by decide) ?_
    refine ov_blk (ls2 := [(0, ov_r 54), (1, ov_r 58), (2, ov_i c), (3, ov_i n), (4, ov_i b), (5, ov_i ((((c * 5) + n) * 2) + 1))]) (st2 := [ov_r 54]) (pc2 := 21) b_178_17_3 rfl rfl ?_
    refine ov_getf (v := ov_i (h 54 8)) d_178_21 fl_Wave_22 (zb_54 I) (zs_54 I) rfl ?_
    have g51 := rg_54_8 I
    refine ov_blk (ls2 := [(0, ov_r 54), (1, ov_r 58), (2, ov_i c), (3, ov_i n), (4, ov_i b), (5, ov_i ((((c * 5) + n) * 2) + 1))]) (st2 := [ov_i ((((c * 5) + n) * 2) + 1), ov_i (h 54 8)]) (pc2 := 26) b_178_24_1 rfl rfl ?_
    refine ov_icne (tgt := 30) d_178_26 (by decide) (by omega) (by omega) (fun c52 => ?_) (fun c52 => ?_)
    · skip
      refine ov_blk (ls2 := [(0, ov_r 54), (1, ov_r 58), (2, ov_i c), (3, ov_i n), (4, ov_i b), (5, ov_i ((((c * 5) + n) * 2) + 1))]) (st2 := [ov_i ((((c * 5) + n) * 2) + 1), ov_r 54]) (pc2 := 33) b_178_30_2 rfl rfl ?_
      refine ov_putf (x := ((((c * 5) + n) * 2) + 1)) d_178_33 fl_Wave_22 (zb_54 I) (zs_54 I) rfl nk_0 rfl ?_
      have I53 := up_54_8 (x := ((((c * 5) + n) * 2) + 1)) I (by omega)
      refine ov_blk (ls2 := [(0, ov_r 54), (1, ov_r 58), (2, ov_i c), (3, ov_i n), (4, ov_i b), (5, ov_i ((((c * 5) + n) * 2) + 1))]) (st2 := [ov_i 4, ov_i n, ov_r 54]) (pc2 := 39) b_178_36_3 rfl rfl ?_
      refine ov_cS (as := [ov_i n, ov_i 4]) (st := [ov_r 54]) (d2 := d - 1) d_178_39 lk_Wave_26 rfl (Nat.le_of_ble_eq_true rfl) (by omega) (c_Math_min (d - 1) (by omega) U I53 n 4 (by omega) (by omega)) ?_
      rintro _ _ _ ⟨v55, rfl, rfl, rfl, f54⟩
      show ov_R u d ov_m178 42 [(0, ov_r 54), (1, ov_r 58), (2, ov_i c), (3, ov_i n), (4, ov_i b), (5, ov_i ((((c * 5) + n) * 2) + 1))] [ov_i v55, ov_r 54] z (ov_up h 54 8 ((((c * 5) + n) * 2) + 1)) (P_Wave_solve_54_58 F z h c n b)
      have f56 : v55 ≤ n ∧ v55 ≤ (4 : Int) ∧ (v55 = n ∨ v55 = (4 : Int)) := f54
      clear f54
      refine ov_putf (x := v55) d_178_42 fl_Wave_32 (zb_54 I53) (zs_54 I53) rfl nk_0 rfl ?_
      have I57 := up_54_4 (x := v55) I53 (by omega)
      refine ov_blk (ls2 := [(0, ov_r 54), (1, ov_r 58), (2, ov_i c), (3, ov_i n), (4, ov_i b), (5, ov_i ((((c * 5) + n) * 2) + 1))]) (st2 := [ov_r 58, ov_r 54]) (pc2 := 47) b_178_45_2 rfl rfl ?_
      refine ov_getf (v := ov_r 60) d_178_47 fl_Wave_35 (zb_58 I57) (zs_58 I57) (congrArg ov_r (rg_58_3 I57)) ?_
      refine ov_blk (ls2 := [(0, ov_r 54), (1, ov_r 58), (2, ov_i c), (3, ov_i n), (4, ov_i b), (5, ov_i ((((c * 5) + n) * 2) + 1))]) (st2 := [ov_i c, ov_r 60, ov_r 54]) (pc2 := 51) b_178_50_1 rfl rfl ?_
      refine ov_iald d_178_51 (zb_60 I57) (zs_60 I57) (by omega) ?_
      show ov_R u d ov_m178 52 [(0, ov_r 54), (1, ov_r 58), (2, ov_i c), (3, ov_i n), (4, ov_i b), (5, ov_i ((((c * 5) + n) * 2) + 1))] [ov_i (h 60 c), ov_r 54] z (ov_up (ov_up h 54 8 ((((c * 5) + n) * 2) + 1)) 54 4 v55) (P_Wave_solve_54_58 F z h c n b)
      have g58 := ra_60 I c
      refine ov_putf (x := (h 60 c)) d_178_52 fl_Wave_40 (zb_54 I57) (zs_54 I57) rfl nk_0 rfl ?_
      have I59 := up_54_5 (x := (h 60 c)) I57 (by omega)
      refine ov_blk (ls2 := [(0, ov_r 54), (1, ov_r 58), (2, ov_i c), (3, ov_i n), (4, ov_i b), (5, ov_i ((((c * 5) + n) * 2) + 1))]) (st2 := [ov_r 58, ov_r 54]) (pc2 := 57) b_178_55_2 rfl rfl ?_
      refine ov_getf (v := ov_r 64) d_178_57 fl_Wave_42 (zb_58 I59) (zs_58 I59) (congrArg ov_r (rg_58_7 I59)) ?_
      refine ov_blk (ls2 := [(0, ov_r 54), (1, ov_r 58), (2, ov_i c), (3, ov_i n), (4, ov_i b), (5, ov_i ((((c * 5) + n) * 2) + 1))]) (st2 := [ov_i 0, ov_r 64, ov_r 54]) (pc2 := 61) b_178_60_1 rfl rfl ?_
      refine ov_iald d_178_61 (zb_64 I59) (zs_64 I59) (by omega) ?_
      show ov_R u d ov_m178 62 [(0, ov_r 54), (1, ov_r 58), (2, ov_i c), (3, ov_i n), (4, ov_i b), (5, ov_i ((((c * 5) + n) * 2) + 1))] [ov_i (h 64 0), ov_r 54] z (ov_up (ov_up (ov_up h 54 8 ((((c * 5) + n) * 2) + 1)) 54 4 v55) 54 5 (h 60 c)) (P_Wave_solve_54_58 F z h c n b)
      have g60 := ra_64 I 0
      refine ov_putf (x := (h 64 0)) d_178_62 fl_Wave_45 (zb_54 I59) (zs_54 I59) rfl nk_0 rfl ?_
      have I61 := up_54_6 (x := (h 64 0)) I59 (by omega)
      refine ov_blk (ls2 := [(0, ov_r 54), (1, ov_r 58), (2, ov_i c), (3, ov_i n), (4, ov_i b), (5, ov_i ((((c * 5) + n) * 2) + 1))]) (st2 := [ov_i b, ov_r 54]) (pc2 := 68) b_178_65_2 rfl rfl ?_
      refine ov_putf (x := b) d_178_68 fl_Wave_48 (zb_54 I61) (zs_54 I61) rfl (nk_3 (by omega)) rfl ?_
      have I62 := up_54_7 (x := b) I61 (by omega)
      refine ov_blk (ls2 := [(0, ov_r 54), (1, ov_r 58), (2, ov_i c), (3, ov_i n), (4, ov_i b), (5, ov_i ((((c * 5) + n) * 2) + 1)), (6, ov_i 0)]) (st2 := []) (pc2 := 74) b_178_71_2 rfl rfl ?_
      have L66 : ∀ (n63 : Nat) (x6_ : Int) (z67 : ov_Z) (h68 : ov_H) (I69 : ov_I F z67 h68) (q65 : 0 ≤ x6_ ∧ x6_ ≤ 4 ∧ (h68 54 4) ≤ n ∧ (h68 36 7) = (h 36 7) ∧ (h68 1 1) = (h 1 1) ∧ (h68 90 2) = (h 90 2) ∧ (h68 0 10) = (h 0 10) ∧ (h68 0 11) = (h 0 11) ∧ (h68 0 12) = (h 0 12) ∧ (h68 0 13) = (h 0 13) ∧ (h68 3 1) = (h 3 1) ∧ (h68 36 8) = (h 36 8) ∧ (h68 46 3) = (h 46 3) ∧ (h68 46 4) = (h 46 4) ∧ (h68 49 4) = (h 49 4) ∧ (h68 49 5) = (h 49 5) ∧ (h68 64 0) = (h 64 0) ∧ (h68 76 0) = (h 76 0)), 4 - x6_ < (n63 : Int) → ov_R u d ov_m178 74 [(0, ov_r 54), (1, ov_r 58), (2, ov_i c), (3, ov_i n), (4, ov_i b), (5, ov_i ((((c * 5) + n) * 2) + 1)), (6, ov_i x6_)] [] z67 h68 (P_Wave_solve_54_58 F z h c n b) := by
        intro n63
        induction n63 with
        | zero =>
          intro x6_ z67 h68 I69 q65 hn70
          exact absurd hn70 (by omega)
        | succ n63 ih64 =>
          intro x6_ z67 h68 I69 q65 hn70
          refine ov_blk (ls2 := [(0, ov_r 54), (1, ov_r 58), (2, ov_i c), (3, ov_i n), (4, ov_i b), (5, ov_i ((((c * 5) + n) * 2) + 1)), (6, ov_i x6_)]) (st2 := [ov_r 54, ov_i x6_]) (pc2 := 77) b_178_74_2 rfl rfl ?_
          refine ov_getf (v := ov_i (h68 54 4)) d_178_77 fl_Wave_32 (zb_54 I69) (zs_54 I69) rfl ?_
          have g71 := rg_54_4 I69
          refine ov_icge (tgt := 117) d_178_80 (by decide) (by omega) (by omega) (fun c72 => ?_) (fun c72 => ?_)
          · skip
            refine ov_blk (ls2 := [(0, ov_r 54), (1, ov_r 58), (2, ov_i c), (3, ov_i n), (4, ov_i b), (5, ov_i ((((c * 5) + n) * 2) + 1)), (6, ov_i x6_)]) (st2 := [ov_i (-1), ov_r 54]) (pc2 := 119) b_178_117_2 rfl rfl ?_
            refine ov_putf (x := (-1)) d_178_119 fl_Wave_55 (zb_54 I69) (zs_54 I69) rfl nk_0 rfl ?_
            have I73 := up_54_0 (x := (-1)) I69 (by omega)
            refine ov_blk (ls2 := [(0, ov_r 54), (1, ov_r 58), (2, ov_i c), (3, ov_i n), (4, ov_i b), (5, ov_i ((((c * 5) + n) * 2) + 1)), (6, ov_i x6_)]) (st2 := [ov_r 54]) (pc2 := 123) b_178_122_1 rfl rfl ?_
            refine ov_getf (v := ov_r 56) d_178_123 fl_Wave_15 (zb_54 I73) (zs_54 I73) (congrArg ov_r (rg_54_2 I73)) ?_
            refine ov_blk (ls2 := [(0, ov_r 54), (1, ov_r 58), (2, ov_i c), (3, ov_i n), (4, ov_i b), (5, ov_i ((((c * 5) + n) * 2) + 1)), (6, ov_i x6_)]) (st2 := [ov_r 58, ov_i 0, ov_r 56]) (pc2 := 128) b_178_126_2 rfl rfl ?_
            refine ov_getf (v := ov_r 61) d_178_128 fl_Wave_58 (zb_58 I73) (zs_58 I73) (congrArg ov_r (rg_58_4 I73)) ?_
            refine ov_blk (ls2 := [(0, ov_r 54), (1, ov_r 58), (2, ov_i c), (3, ov_i n), (4, ov_i b), (5, ov_i ((((c * 5) + n) * 2) + 1)), (6, ov_i x6_)]) (st2 := [ov_i c, ov_r 61, ov_i 0, ov_r 56]) (pc2 := 132) b_178_131_1 rfl rfl ?_
            refine ov_iald d_178_132 (zb_61 I73) (zs_61 I73) (by omega) ?_
            show ov_R u d ov_m178 133 [(0, ov_r 54), (1, ov_r 58), (2, ov_i c), (3, ov_i n), (4, ov_i b), (5, ov_i ((((c * 5) + n) * 2) + 1)), (6, ov_i x6_)] [ov_i (h68 61 c), ov_i 0, ov_r 56] z67 (ov_up h68 54 0 (-1)) (P_Wave_solve_54_58 F z h c n b)
            have g74 := ra_61 I69 c
            refine ov_blk (ls2 := [(0, ov_r 54), (1, ov_r 58), (2, ov_i c), (3, ov_i n), (4, ov_i b), (5, ov_i ((((c * 5) + n) * 2) + 1)), (6, ov_i x6_)]) (st2 := [ov_r 58, ov_i (h68 61 c), ov_i 0, ov_r 56]) (pc2 := 134) b_178_133_1 rfl rfl ?_
            refine ov_getf (v := ov_r 62) d_178_134 fl_Wave_52 (zb_58 I73) (zs_58 I73) (congrArg ov_r (rg_58_5 I73)) ?_
            refine ov_blk (ls2 := [(0, ov_r 54), (1, ov_r 58), (2, ov_i c), (3, ov_i n), (4, ov_i b), (5, ov_i ((((c * 5) + n) * 2) + 1)), (6, ov_i x6_)]) (st2 := [ov_i c, ov_r 62, ov_i (h68 61 c), ov_i 0, ov_r 56]) (pc2 := 138) b_178_137_1 rfl rfl ?_
            refine ov_iald d_178_138 (zb_62 I73) (zs_62 I73) (by omega) ?_
            show ov_R u d ov_m178 139 [(0, ov_r 54), (1, ov_r 58), (2, ov_i c), (3, ov_i n), (4, ov_i b), (5, ov_i ((((c * 5) + n) * 2) + 1)), (6, ov_i x6_)] [ov_i (h68 62 c), ov_i (h68 61 c), ov_i 0, ov_r 56] z67 (ov_up h68 54 0 (-1)) (P_Wave_solve_54_58 F z h c n b)
            have g75 := ra_62 I69 c
            refine ov_blk (ls2 := [(0, ov_r 54), (1, ov_r 58), (2, ov_i c), (3, ov_i n), (4, ov_i b), (5, ov_i ((((c * 5) + n) * 2) + 1)), (6, ov_i x6_)]) (st2 := [ov_r 54, ov_i ((h68 61 c) + (h68 62 c)), ov_i 0, ov_r 56]) (pc2 := 141) b_178_139_2 rfl rfl ?_
            refine ov_getf (v := ov_i (h68 54 5)) d_178_141 fl_Wave_40 (zb_54 I73) (zs_54 I73) rfl ?_
            have g76 := rg_54_5 I69
            refine ov_cSN (as := [ov_i ((h68 61 c) + (h68 62 c)), ov_i (h68 54 5)]) (st := [ov_i 0, ov_r 56]) (d2 := d - 1) d_178_144 lk_Wave_61 rfl (Nat.le_of_ble_eq_true rfl) (by omega) (c_OF_modulo (d - 1) (by omega) U I73 ((h68 61 c) + (h68 62 c)) (h68 54 5) (by omega) (by omega)) ?_
            rintro _ _ _ ⟨v78, rfl, rfl, rfl, f77⟩
            show ov_R u d ov_m178 147 [(0, ov_r 54), (1, ov_r 58), (2, ov_i c), (3, ov_i n), (4, ov_i b), (5, ov_i ((((c * 5) + n) * 2) + 1)), (6, ov_i x6_)] [ov_i v78, ov_i 0, ov_r 56] z67 (ov_up h68 54 0 (-1)) (P_Wave_solve_54_58 F z h c n b)
            have f79 : (0 < (h68 54 5) → 0 ≤ v78 ∧ v78 < (h68 54 5)) ∧ ((h68 54 5) ≤ 0 → v78 = 0) := f77
            clear f77
            refine ov_iast d_178_147 (zb_56 I73) (zs_56 I73) (by omega) ?_
            have I80 := ua_56 (k := 0) (x := v78) I73 (by omega)
            refine ov_blk (ls2 := [(0, ov_r 54), (1, ov_r 58), (2, ov_i c), (3, ov_i n), (4, ov_i b), (5, ov_i ((((c * 5) + n) * 2) + 1)), (6, ov_i x6_)]) (st2 := [ov_r 54, ov_i 0, ov_r 54, ov_i 1, ov_r 54]) (pc2 := 153) b_178_148_5 rfl rfl ?_
            refine ov_getf (v := ov_r 56) d_178_153 fl_Wave_15 (zb_54 I80) (zs_54 I80) (congrArg ov_r (rg_54_2 I80)) ?_
            refine ov_blk (ls2 := [(0, ov_r 54), (1, ov_r 58), (2, ov_i c), (3, ov_i n), (4, ov_i b), (5, ov_i ((((c * 5) + n) * 2) + 1)), (6, ov_i x6_)]) (st2 := [ov_i 0, ov_r 56, ov_i 0, ov_r 54, ov_i 1, ov_r 54]) (pc2 := 157) b_178_156_1 rfl rfl ?_
            refine ov_iald d_178_157 (zb_56 I80) (zs_56 I80) (by omega) ?_
            show ov_R u d ov_m178 158 [(0, ov_r 54), (1, ov_r 58), (2, ov_i c), (3, ov_i n), (4, ov_i b), (5, ov_i ((((c * 5) + n) * 2) + 1)), (6, ov_i x6_)] [ov_i v78, ov_i 0, ov_r 54, ov_i 1, ov_r 54] z67 (ov_up (ov_up h68 54 0 (-1)) 56 0 v78) (P_Wave_solve_54_58 F z h c n b)
            refine ov_cV (as := [ov_i 0, ov_i v78]) (st := [ov_i 1, ov_r 54]) (d2 := d - 1) d_178_158 lk_Wave_64 rfl (Nat.le_of_ble_eq_true rfl) (c := 11) (zb_54 I80) (zs_54 I80) ⟨by decide, rfl⟩ (by omega) (c_Wave_there_54 (d - 1) (by omega) U I80 0 v78 (by omega) (by omega) (by omega)) ?_
            rintro _ _ _ ⟨v82, rfl, rfl, rfl, f81⟩
            show ov_R u d ov_m178 161 [(0, ov_r 54), (1, ov_r 58), (2, ov_i c), (3, ov_i n), (4, ov_i b), (5, ov_i ((((c * 5) + n) * 2) + 1)), (6, ov_i x6_)] [ov_l v82, ov_i 1, ov_r 54] z67 (ov_up (ov_up h68 54 0 (-1)) 56 0 v78) (P_Wave_solve_54_58 F z h c n b)
            clear f81
            refine ov_blk (ls2 := [(0, ov_r 54), (1, ov_r 58), (2, ov_i c), (3, ov_i n), (4, ov_i b), (5, ov_i ((((c * 5) + n) * 2) + 1)), (6, ov_i x6_)]) (st2 := [ov_r 54, ov_l v82, ov_i 1, ov_r 54]) (pc2 := 162) b_178_161_1 rfl rfl ?_
            refine ov_getf (v := ov_i (h68 54 7)) d_178_162 fl_Wave_48 (zb_54 I80) (zs_54 I80) rfl ?_
            have g83 := rg_54_7 I69
            refine ov_ifeq (tgt := 182) d_178_165 (by decide) (by omega) (fun c84 => ?_) (fun c84 => ?_)
            · skip
              refine ov_blk (ls2 := [(0, ov_r 54), (1, ov_r 58), (2, ov_i c), (3, ov_i n), (4, ov_i b), (5, ov_i ((((c * 5) + n) * 2) + 1)), (6, ov_i x6_)]) (st2 := [ov_l 0, ov_l v82, ov_i 1, ov_r 54]) (pc2 := 183) b_178_182_1 rfl rfl ?_
              refine ov_cV (as := [ov_i 1, ov_l v82, ov_l 0]) (st := []) (d2 := d - 1) d_178_183 lk_Wave_71 rfl (Nat.le_of_ble_eq_true rfl) (c := 11) (zb_54 I80) (zs_54 I80) ⟨by decide, rfl⟩ (by omega) (c_Wave_search_54_all 3 (d - 1) (by omega) U I80 1 v82 0 (by omega) (by omega)) ?_
              rintro _ z86 h87 ⟨rfl, I88, f85⟩
              show ov_R u d ov_m178 186 [(0, ov_r 54), (1, ov_r 58), (2, ov_i c), (3, ov_i n), (4, ov_i b), (5, ov_i ((((c * 5) + n) * 2) + 1)), (6, ov_i x6_)] [] z86 h87 (P_Wave_solve_54_58 F z h c n b)
              have f89 : (h87 36 7) = (h68 36 7) ∧ (h87 1 1) = (h68 1 1) ∧ (h87 90 2) = (h68 90 2) ∧ (h87 0 10) = (h68 0 10) ∧ (h87 0 11) = (h68 0 11) ∧ (h87 0 12) = (h68 0 12) ∧ (h87 0 13) = (h68 0 13) ∧ (h87 3 1) = (h68 3 1) ∧ (h87 36 8) = (h68 36 8) ∧ (h87 46 3) = (h68 46 3) ∧ (h87 46 4) = (h68 46 4) ∧ (h87 49 4) = (h68 49 4) ∧ (h87 49 5) = (h68 49 5) ∧ (h87 64 0) = (h68 64 0) ∧ (h87 76 0) = (h68 76 0) := f85
              clear f85
              exact ov_retv (st := []) d_178_186 rfl ⟨rfl, I88, (by show (h87 36 7) = (h 36 7) ∧ (h87 1 1) = (h 1 1) ∧ (h87 90 2) = (h 90 2) ∧ (h87 0 10) = (h 0 10) ∧ (h87 0 11) = (h 0 11) ∧ (h87 0 12) = (h 0 12) ∧ (h87 0 13) = (h 0 13) ∧ (h87 3 1) = (h 3 1) ∧ (h87 36 8) = (h 36 8) ∧ (h87 46 3) = (h 46 3) ∧ (h87 46 4) = (h 46 4) ∧ (h87 49 4) = (h 49 4) ∧ (h87 49 5) = (h 49 5) ∧ (h87 64 0) = (h 64 0) ∧ (h87 76 0) = (h 76 0); omega)⟩
            · skip
              refine ov_blk (ls2 := [(0, ov_r 54), (1, ov_r 58), (2, ov_i c), (3, ov_i n), (4, ov_i b), (5, ov_i ((((c * 5) + n) * 2) + 1)), (6, ov_i x6_)]) (st2 := [ov_r 54, ov_i 0, ov_r 54, ov_l v82, ov_i 1, ov_r 54]) (pc2 := 171) b_178_168_3 rfl rfl ?_
              refine ov_getf (v := ov_r 56) d_178_171 fl_Wave_15 (zb_54 I80) (zs_54 I80) (congrArg ov_r (rg_54_2 I80)) ?_
              refine ov_blk (ls2 := [(0, ov_r 54), (1, ov_r 58), (2, ov_i c), (3, ov_i n), (4, ov_i b), (5, ov_i ((((c * 5) + n) * 2) + 1)), (6, ov_i x6_)]) (st2 := [ov_i 0, ov_r 56, ov_i 0, ov_r 54, ov_l v82, ov_i 1, ov_r 54]) (pc2 := 175) b_178_174_1 rfl rfl ?_
              refine ov_iald d_178_175 (zb_56 I80) (zs_56 I80) (by omega) ?_
              show ov_R u d ov_m178 176 [(0, ov_r 54), (1, ov_r 58), (2, ov_i c), (3, ov_i n), (4, ov_i b), (5, ov_i ((((c * 5) + n) * 2) + 1)), (6, ov_i x6_)] [ov_i v78, ov_i 0, ov_r 54, ov_l v82, ov_i 1, ov_r 54] z67 (ov_up (ov_up h68 54 0 (-1)) 56 0 v78) (P_Wave_solve_54_58 F z h c n b)
              refine ov_cV (as := [ov_i 0, ov_i v78]) (st := [ov_l v82, ov_i 1, ov_r 54]) (d2 := d - 1) d_178_176 lk_Wave_68 rfl (Nat.le_of_ble_eq_true rfl) (c := 11) (zb_54 I80) (zs_54 I80) ⟨by decide, rfl⟩ (by omega) (c_Wave_back_54 (d - 1) (by omega) U I80 0 v78 (by omega) (by omega) (by omega)) ?_
              rintro _ _ _ ⟨v91, rfl, rfl, rfl, f90⟩
              show ov_R u d ov_m178 179 [(0, ov_r 54), (1, ov_r 58), (2, ov_i c), (3, ov_i n), (4, ov_i b), (5, ov_i ((((c * 5) + n) * 2) + 1)), (6, ov_i x6_)] [ov_l v91, ov_l v82, ov_i 1, ov_r 54] z67 (ov_up (ov_up h68 54 0 (-1)) 56 0 v78) (P_Wave_solve_54_58 F z h c n b)
              clear f90
              refine ov_goto (tgt := 183) d_178_179 (by decide) ?_
              refine ov_cV (as := [ov_i 1, ov_l v82, ov_l v91]) (st := []) (d2 := d - 1) d_178_183 lk_Wave_71 rfl (Nat.le_of_ble_eq_true rfl) (c := 11) (zb_54 I80) (zs_54 I80) ⟨by decide, rfl⟩ (by omega) (c_Wave_search_54_all 3 (d - 1) (by omega) U I80 1 v82 v91 (by omega) (by omega)) ?_
              rintro _ z93 h94 ⟨rfl, I95, f92⟩
              show ov_R u d ov_m178 186 [(0, ov_r 54), (1, ov_r 58), (2, ov_i c), (3, ov_i n), (4, ov_i b), (5, ov_i ((((c * 5) + n) * 2) + 1)), (6, ov_i x6_)] [] z93 h94 (P_Wave_solve_54_58 F z h c n b)
              have f96 : (h94 36 7) = (h68 36 7) ∧ (h94 1 1) = (h68 1 1) ∧ (h94 90 2) = (h68 90 2) ∧ (h94 0 10) = (h68 0 10) ∧ (h94 0 11) = (h68 0 11) ∧ (h94 0 12) = (h68 0 12) ∧ (h94 0 13) = (h68 0 13) ∧ (h94 3 1) = (h68 3 1) ∧ (h94 36 8) = (h68 36 8) ∧ (h94 46 3) = (h68 46 3) ∧ (h94 46 4) = (h68 46 4) ∧ (h94 49 4) = (h68 49 4) ∧ (h94 49 5) = (h68 49 5) ∧ (h94 64 0) = (h68 64 0) ∧ (h94 76 0) = (h68 76 0) := f92
              clear f92
              exact ov_retv (st := []) d_178_186 rfl ⟨rfl, I95, (by show (h94 36 7) = (h 36 7) ∧ (h94 1 1) = (h 1 1) ∧ (h94 90 2) = (h 90 2) ∧ (h94 0 10) = (h 0 10) ∧ (h94 0 11) = (h 0 11) ∧ (h94 0 12) = (h 0 12) ∧ (h94 0 13) = (h 0 13) ∧ (h94 3 1) = (h 3 1) ∧ (h94 36 8) = (h 36 8) ∧ (h94 46 3) = (h 46 3) ∧ (h94 46 4) = (h 46 4) ∧ (h94 49 4) = (h 49 4) ∧ (h94 49 5) = (h 49 5) ∧ (h94 64 0) = (h 64 0) ∧ (h94 76 0) = (h 76 0); omega)⟩
          · skip
            refine ov_blk (ls2 := [(0, ov_r 54), (1, ov_r 58), (2, ov_i c), (3, ov_i n), (4, ov_i b), (5, ov_i ((((c * 5) + n) * 2) + 1)), (6, ov_i x6_)]) (st2 := [ov_r 54]) (pc2 := 84) b_178_83_1 rfl rfl ?_
            refine ov_getf (v := ov_r 57) d_178_84 fl_Wave_18 (zb_54 I69) (zs_54 I69) (congrArg ov_r (rg_54_3 I69)) ?_
            refine ov_blk (ls2 := [(0, ov_r 54), (1, ov_r 58), (2, ov_i c), (3, ov_i n), (4, ov_i b), (5, ov_i ((((c * 5) + n) * 2) + 1)), (6, ov_i x6_)]) (st2 := [ov_r 54, ov_l 1, ov_i x6_, ov_r 57]) (pc2 := 91) b_178_87_3 rfl rfl ?_
            refine ov_getf (v := ov_i (h68 54 5)) d_178_91 fl_Wave_40 (zb_54 I69) (zs_54 I69) rfl ?_
            have g97 := rg_54_5 I69
            refine ov_blk (ls2 := [(0, ov_r 54), (1, ov_r 58), (2, ov_i c), (3, ov_i n), (4, ov_i b), (5, ov_i ((((c * 5) + n) * 2) + 1)), (6, ov_i x6_)]) (st2 := [ov_r 58, ov_i (h68 54 5), ov_l 1, ov_i x6_, ov_r 57]) (pc2 := 95) b_178_94_1 rfl rfl ?_
            refine ov_getf (v := ov_r 62) d_178_95 fl_Wave_52 (zb_58 I69) (zs_58 I69) (congrArg ov_r (rg_58_5 I69)) ?_
            refine ov_blk (ls2 := [(0, ov_r 54), (1, ov_r 58), (2, ov_i c), (3, ov_i n), (4, ov_i b), (5, ov_i ((((c * 5) + n) * 2) + 1)), (6, ov_i x6_)]) (st2 := [ov_i (c + (x6_ * 6)), ov_r 62, ov_i (h68 54 5), ov_l 1, ov_i x6_, ov_r 57]) (pc2 := 105) b_178_98_5 rfl rfl ?_
            refine ov_iald d_178_105 (zb_62 I69) (zs_62 I69) (by omega) ?_
            have g98 := ra_62 I69 (c + (x6_ * 6))
            refine ov_blk (ls2 := [(0, ov_r 54), (1, ov_r 58), (2, ov_i c), (3, ov_i n), (4, ov_i b), (5, ov_i ((((c * 5) + n) * 2) + 1)), (6, ov_i x6_)]) (st2 := [ov_l ((ov_lshl 1 ((h68 54 5) - (h68 62 (c + (x6_ * 6))))) - 1), ov_i x6_, ov_r 57]) (pc2 := 110) b_178_106_4 rfl rfl ?_
            refine ov_last d_178_110 (zb_57 I69) (zs_57 I69) (by omega) ?_
            have I99 := ua_57 (k := x6_) (x := ((ov_lshl 1 ((h68 54 5) - (h68 62 (c + (x6_ * 6))))) - 1)) I69
            refine ov_blk (ls2 := [(0, ov_r 54), (1, ov_r 58), (2, ov_i c), (3, ov_i n), (4, ov_i b), (5, ov_i ((((c * 5) + n) * 2) + 1)), (6, ov_i (x6_ + 1))]) (st2 := []) (pc2 := 114) b_178_111_1 rfl rfl ?_
            refine ov_goto (tgt := 74) d_178_114 (by decide) ?_
            exact ih64 (x6_ + 1) _ _ I99 (by show 0 ≤ (x6_ + 1) ∧ (x6_ + 1) ≤ 4 ∧ (h68 54 4) ≤ n ∧ (h68 36 7) = (h 36 7) ∧ (h68 1 1) = (h 1 1) ∧ (h68 90 2) = (h 90 2) ∧ (h68 0 10) = (h 0 10) ∧ (h68 0 11) = (h 0 11) ∧ (h68 0 12) = (h 0 12) ∧ (h68 0 13) = (h 0 13) ∧ (h68 3 1) = (h 3 1) ∧ (h68 36 8) = (h 36 8) ∧ (h68 46 3) = (h 46 3) ∧ (h68 46 4) = (h 46 4) ∧ (h68 49 4) = (h 49 4) ∧ (h68 49 5) = (h 49 5) ∧ (h68 64 0) = (h 64 0) ∧ (h68 76 0) = (h 76 0); omega) (by omega)
      exact L66 5 0 _ _ I62 (by show 0 ≤ 0 ∧ 0 ≤ 4 ∧ v55 ≤ n ∧ (h 36 7) = (h 36 7) ∧ (h 1 1) = (h 1 1) ∧ (h 90 2) = (h 90 2) ∧ (h 0 10) = (h 0 10) ∧ (h 0 11) = (h 0 11) ∧ (h 0 12) = (h 0 12) ∧ (h 0 13) = (h 0 13) ∧ (h 3 1) = (h 3 1) ∧ (h 36 8) = (h 36 8) ∧ (h 46 3) = (h 46 3) ∧ (h 46 4) = (h 46 4) ∧ (h 49 4) = (h 49 4) ∧ (h 49 5) = (h 49 5) ∧ (h 64 0) = (h 64 0) ∧ (h 76 0) = (h 76 0); omega) (by omega)
    · skip
      exact ov_retv (st := []) d_178_29 rfl ⟨rfl, I, (by show (h 36 7) = (h 36 7) ∧ (h 1 1) = (h 1 1) ∧ (h 90 2) = (h 90 2) ∧ (h 0 10) = (h 0 10) ∧ (h 0 11) = (h 0 11) ∧ (h 0 12) = (h 0 12) ∧ (h 0 13) = (h 0 13) ∧ (h 3 1) = (h 3 1) ∧ (h 36 8) = (h 36 8) ∧ (h 46 3) = (h 46 3) ∧ (h 46 4) = (h 46 4) ∧ (h 49 4) = (h 49 4) ∧ (h 49 5) = (h 49 5) ∧ (h 64 0) = (h 64 0) ∧ (h 76 0) = (h 76 0); omega)⟩
abbrev P_Wave_solve_54_70 (F : ov_H) (z : ov_Z) (h : ov_H) (c : Int) (n : Int) (b : Int) : Option ov_V → ov_Z → ov_H → Prop := fun r0 z' h' => r0 = none ∧ ov_I F z' h' ∧ ((h' 36 7) = (h 36 7) ∧ (h' 1 1) = (h 1 1) ∧ (h' 90 2) = (h 90 2) ∧ (h' 0 10) = (h 0 10) ∧ (h' 0 11) = (h 0 11) ∧ (h' 0 12) = (h 0 12) ∧ (h' 0 13) = (h 0 13) ∧ (h' 3 1) = (h 3 1) ∧ (h' 36 8) = (h 36 8) ∧ (h' 46 3) = (h 46 3) ∧ (h' 46 4) = (h 46 4) ∧ (h' 49 4) = (h 49 4) ∧ (h' 49 5) = (h 49 5) ∧ (h' 64 0) = (h 64 0) ∧ (h' 76 0) = (h 76 0))
set_option maxHeartbeats 4000000 in
theorem c_Wave_solve_54_70 {u : ov_U} {F : ov_H} {z : ov_Z} {h : ov_H} (d : Nat) (hd : 20 ≤ d) (U : ov_cap u) (I : ov_I F z h) (c : Int) (n : Int) (b : Int) (g_c : ov_g c) (g_n : ov_g n) (g_b : b = 0 ∨ b = 1) (p0 : 0 ≤ c ∧ c + 6 * (n - 1) ≤ 53) (p1 : 2 ≤ n ∧ n ≤ 4) : ov_T u d ov_m178 [ov_r 54, ov_r 70, ov_i c, ov_i n, ov_i b] z h (P_Wave_solve_54_70 F z h c n b) := by
  refine ov_en rfl (Nat.le_of_ble_eq_true rfl) ?_
  show ov_R u d ov_m178 0 [(0, ov_r 54), (1, ov_r 70), (2, ov_i c), (3, ov_i n), (4, ov_i b)] [] z h (P_Wave_solve_54_70 F z h c n b)
  refine ov_blk (ls2 := [(0, ov_r 54), (1, ov_r 70), (2, ov_i c), (3, ov_i n), (4, ov_i b)]) (st2 := [ov_i b, ov_i (((c * 5) + n) * 2)]) (pc2 := 9) b_178_0_8 rfl rfl ?_
  refine ov_ifeq (tgt := 16) d_178_9 (by decide) (by omega) (fun c1 => ?_) (fun c1 => ?_)
  · skip
    refine ov_blk (ls2 := [(0, ov_r 54), (1, ov_r 70), (2, ov_i c), (3, ov_i n), (4, ov_i b), (5, ov_i ((((c * 5) + n) * 2) + 0))]) (st2 := [ov_r 54]) (pc2 := 21) b_178_16_4 rfl rfl ?_
    refine ov_getf (v := ov_i (h 54 8)) d_178_21 fl_Wave_22 (zb_54 I) (zs_54 I) rfl ?_
    have g2 := rg_54_8 I
    refine ov_blk (ls2 := [(0, ov_r 54), (1, ov_r 70), (2, ov_i c), (3, ov_i n), (4, ov_i b), (5, ov_i ((((c * 5) + n) * 2) + 0))]) (st2 := [ov_i ((((c * 5) + n) * 2) + 0), ov_i (h 54 8)]) (pc2 := 26) b_178_24_1 rfl rfl ?_
    refine ov_icne (tgt := 30) d_178_26 (by decide) (by omega) (by omega) (fun c3 => ?_) (fun c3 => ?_)
    · skip
      refine ov_blk (ls2 := [(0, ov_r 54), (1, ov_r 70), (2, ov_i c), (3, ov_i n), (4, ov_i b), (5, ov_i ((((c * 5) + n) * 2) + 0))]) (st2 := [ov_i ((((c * 5) + n) * 2) + 0), ov_r 54]) (pc2 := 33) b_178_30_2 rfl rfl ?_
      refine ov_putf (x := ((((c * 5) + n) * 2) + 0)) d_178_33 fl_Wave_22 (zb_54 I) (zs_54 I) rfl nk_0 rfl ?_
      have I4 := up_54_8 (x := ((((c * 5) + n) * 2) + 0)) I (by omega)
      refine ov_blk (ls2 := [(0, ov_r 54), (1, ov_r 70), (2, ov_i c), (3, ov_i n), (4, ov_i b), (5, ov_i ((((c * 5) + n) * 2) + 0))]) (st2 := [ov_i 4, ov_i n, ov_r 54]) (pc2 := 39) b_178_36_3 rfl rfl ?_
      refine ov_cS (as := [ov_i n, ov_i 4]) (st := [ov_r 54]) (d2 := d - 1) d_178_39 lk_Wave_26 rfl (Nat.le_of_ble_eq_true rfl) (by omega) (c_Math_min (d - 1) (by omega) U I4 n 4 (by omega) (by omega)) ?_
      rintro _ _ _ ⟨v6, rfl, rfl, rfl, f5⟩
      show ov_R u d ov_m178 42 [(0, ov_r 54), (1, ov_r 70), (2, ov_i c), (3, ov_i n), (4, ov_i b), (5, ov_i ((((c * 5) + n) * 2) + 0))] [ov_i v6, ov_r 54] z (ov_up h 54 8 ((((c * 5) + n) * 2) + 0)) (P_Wave_solve_54_70 F z h c n b)
      have f7 : v6 ≤ n ∧ v6 ≤ (4 : Int) ∧ (v6 = n ∨ v6 = (4 : Int)) := f5
      clear f5
      refine ov_putf (x := v6) d_178_42 fl_Wave_32 (zb_54 I4) (zs_54 I4) rfl nk_0 rfl ?_
      have I8 := up_54_4 (x := v6) I4 (by omega)
      refine ov_blk (ls2 := [(0, ov_r 54), (1, ov_r 70), (2, ov_i c), (3, ov_i n), (4, ov_i b), (5, ov_i ((((c * 5) + n) * 2) + 0))]) (st2 := [ov_r 70, ov_r 54]) (pc2 := 47) b_178_45_2 rfl rfl ?_
      refine ov_getf (v := ov_r 72) d_178_47 fl_Wave_35 (zb_70 I8) (zs_70 I8) (congrArg ov_r (rg_70_3 I8)) ?_
      refine ov_blk (ls2 := [(0, ov_r 54), (1, ov_r 70), (2, ov_i c), (3, ov_i n), (4, ov_i b), (5, ov_i ((((c * 5) + n) * 2) + 0))]) (st2 := [ov_i c, ov_r 72, ov_r 54]) (pc2 := 51) b_178_50_1 rfl rfl ?_
      refine ov_iald d_178_51 (zb_72 I8) (zs_72 I8) (by omega) ?_
      show ov_R u d ov_m178 52 [(0, ov_r 54), (1, ov_r 70), (2, ov_i c), (3, ov_i n), (4, ov_i b), (5, ov_i ((((c * 5) + n) * 2) + 0))] [ov_i (h 72 c), ov_r 54] z (ov_up (ov_up h 54 8 ((((c * 5) + n) * 2) + 0)) 54 4 v6) (P_Wave_solve_54_70 F z h c n b)
      have g9 := ra_72 I c
      refine ov_putf (x := (h 72 c)) d_178_52 fl_Wave_40 (zb_54 I8) (zs_54 I8) rfl nk_0 rfl ?_
      have I10 := up_54_5 (x := (h 72 c)) I8 (by omega)
      refine ov_blk (ls2 := [(0, ov_r 54), (1, ov_r 70), (2, ov_i c), (3, ov_i n), (4, ov_i b), (5, ov_i ((((c * 5) + n) * 2) + 0))]) (st2 := [ov_r 70, ov_r 54]) (pc2 := 57) b_178_55_2 rfl rfl ?_
      refine ov_getf (v := ov_r 76) d_178_57 fl_Wave_42 (zb_70 I10) (zs_70 I10) (congrArg ov_r (rg_70_7 I10)) ?_
      refine ov_blk (ls2 := [(0, ov_r 54), (1, ov_r 70), (2, ov_i c), (3, ov_i n), (4, ov_i b), (5, ov_i ((((c * 5) + n) * 2) + 0))]) (st2 := [ov_i 0, ov_r 76, ov_r 54]) (pc2 := 61) b_178_60_1 rfl rfl ?_
      refine ov_iald d_178_61 (zb_76 I10) (zs_76 I10) (by omega) ?_
      show ov_R u d ov_m178 62 [(0, ov_r 54), (1, ov_r 70), (2, ov_i c), (3, ov_i n), (4, ov_i b), (5, ov_i ((((c * 5) + n) * 2) + 0))] [ov_i (h 76 0), ov_r 54] z (ov_up (ov_up (ov_up h 54 8 ((((c * 5) + n) * 2) + 0)) 54 4 v6) 54 5 (h 72 c)) (P_Wave_solve_54_70 F z h c n b)
      have g11 := ra_76 I 0
      refine ov_putf (x := (h 76 0)) d_178_62 fl_Wave_45 (zb_54 I10) (zs_54 I10) rfl nk_0 rfl ?_
      have I12 := up_54_6 (x := (h 76 0)) I10 (by omega)
      refine ov_blk (ls2 := [(0, ov_r 54), (1, ov_r 70), (2, ov_i c), (3, ov_i n), (4, ov_i b), (5, ov_i ((((c * 5) + n) * 2) + 0))]) (st2 := [ov_i b, ov_r 54]) (pc2 := 68) b_178_65_2 rfl rfl ?_
      refine ov_putf (x := b) d_178_68 fl_Wave_48 (zb_54 I12) (zs_54 I12) rfl (nk_3 (by omega)) rfl ?_
      have I13 := up_54_7 (x := b) I12 (by omega)
      refine ov_blk (ls2 := [(0, ov_r 54), (1, ov_r 70), (2, ov_i c), (3, ov_i n), (4, ov_i b), (5, ov_i ((((c * 5) + n) * 2) + 0)), (6, ov_i 0)]) (st2 := []) (pc2 := 74) b_178_71_2 rfl rfl ?_
      have L17 : ∀ (n14 : Nat) (x6 : Int) (z18 : ov_Z) (h19 : ov_H) (I20 : ov_I F z18 h19) (q16 : 0 ≤ x6 ∧ x6 ≤ 4 ∧ (h19 54 4) ≤ n ∧ (h19 36 7) = (h 36 7) ∧ (h19 1 1) = (h 1 1) ∧ (h19 90 2) = (h 90 2) ∧ (h19 0 10) = (h 0 10) ∧ (h19 0 11) = (h 0 11) ∧ (h19 0 12) = (h 0 12) ∧ (h19 0 13) = (h 0 13) ∧ (h19 3 1) = (h 3 1) ∧ (h19 36 8) = (h 36 8) ∧ (h19 46 3) = (h 46 3) ∧ (h19 46 4) = (h 46 4) ∧ (h19 49 4) = (h 49 4) ∧ (h19 49 5) = (h 49 5) ∧ (h19 64 0) = (h 64 0) ∧ (h19 76 0) = (h 76 0)), 4 - x6 < (n14 : Int) → ov_R u d ov_m178 74 [(0, ov_r 54), (1, ov_r 70), (2, ov_i c), (3, ov_i n), (4, ov_i b), (5, ov_i ((((c * 5) + n) * 2) + 0)), (6, ov_i x6)] [] z18 h19 (P_Wave_solve_54_70 F z h c n b) := by
        intro n14
        induction n14 with
        | zero =>
          intro x6 z18 h19 I20 q16 hn21
          exact absurd hn21 (by omega)
        | succ n14 ih15 =>
          intro x6 z18 h19 I20 q16 hn21
          refine ov_blk (ls2 := [(0, ov_r 54), (1, ov_r 70), (2, ov_i c), (3, ov_i n), (4, ov_i b), (5, ov_i ((((c * 5) + n) * 2) + 0)), (6, ov_i x6)]) (st2 := [ov_r 54, ov_i x6]) (pc2 := 77) b_178_74_2 rfl rfl ?_
          refine ov_getf (v := ov_i (h19 54 4)) d_178_77 fl_Wave_32 (zb_54 I20) (zs_54 I20) rfl ?_
          have g22 := rg_54_4 I20
          refine ov_icge (tgt := 117) d_178_80 (by decide) (by omega) (by omega) (fun c23 => ?_) (fun c23 => ?_)
          · skip
            refine ov_blk (ls2 := [(0, ov_r 54), (1, ov_r 70), (2, ov_i c), (3, ov_i n), (4, ov_i b), (5, ov_i ((((c * 5) + n) * 2) + 0)), (6, ov_i x6)]) (st2 := [ov_i (-1), ov_r 54]) (pc2 := 119) b_178_117_2 rfl rfl ?_
            refine ov_putf (x := (-1)) d_178_119 fl_Wave_55 (zb_54 I20) (zs_54 I20) rfl nk_0 rfl ?_
            have I24 := up_54_0 (x := (-1)) I20 (by omega)
            refine ov_blk (ls2 := [(0, ov_r 54), (1, ov_r 70), (2, ov_i c), (3, ov_i n), (4, ov_i b), (5, ov_i ((((c * 5) + n) * 2) + 0)), (6, ov_i x6)]) (st2 := [ov_r 54]) (pc2 := 123) b_178_122_1 rfl rfl ?_
            refine ov_getf (v := ov_r 56) d_178_123 fl_Wave_15 (zb_54 I24) (zs_54 I24) (congrArg ov_r (rg_54_2 I24)) ?_
            refine ov_blk (ls2 := [(0, ov_r 54), (1, ov_r 70), (2, ov_i c), (3, ov_i n), (4, ov_i b), (5, ov_i ((((c * 5) + n) * 2) + 0)), (6, ov_i x6)]) (st2 := [ov_r 70, ov_i 0, ov_r 56]) (pc2 := 128) b_178_126_2 rfl rfl ?_
            refine ov_getf (v := ov_r 73) d_178_128 fl_Wave_58 (zb_70 I24) (zs_70 I24) (congrArg ov_r (rg_70_4 I24)) ?_
            refine ov_blk (ls2 := [(0, ov_r 54), (1, ov_r 70), (2, ov_i c), (3, ov_i n), (4, ov_i b), (5, ov_i ((((c * 5) + n) * 2) + 0)), (6, ov_i x6)]) (st2 := [ov_i c, ov_r 73, ov_i 0, ov_r 56]) (pc2 := 132) b_178_131_1 rfl rfl ?_
            refine ov_iald d_178_132 (zb_73 I24) (zs_73 I24) (by omega) ?_
            show ov_R u d ov_m178 133 [(0, ov_r 54), (1, ov_r 70), (2, ov_i c), (3, ov_i n), (4, ov_i b), (5, ov_i ((((c * 5) + n) * 2) + 0)), (6, ov_i x6)] [ov_i (h19 73 c), ov_i 0, ov_r 56] z18 (ov_up h19 54 0 (-1)) (P_Wave_solve_54_70 F z h c n b)
            have g25 := ra_73 I20 c
            refine ov_blk (ls2 := [(0, ov_r 54), (1, ov_r 70), (2, ov_i c), (3, ov_i n), (4, ov_i b), (5, ov_i ((((c * 5) + n) * 2) + 0)), (6, ov_i x6)]) (st2 := [ov_r 70, ov_i (h19 73 c), ov_i 0, ov_r 56]) (pc2 := 134) b_178_133_1 rfl rfl ?_
            refine ov_getf (v := ov_r 74) d_178_134 fl_Wave_52 (zb_70 I24) (zs_70 I24) (congrArg ov_r (rg_70_5 I24)) ?_
            refine ov_blk (ls2 := [(0, ov_r 54), (1, ov_r 70), (2, ov_i c), (3, ov_i n), (4, ov_i b), (5, ov_i ((((c * 5) + n) * 2) + 0)), (6, ov_i x6)]) (st2 := [ov_i c, ov_r 74, ov_i (h19 73 c), ov_i 0, ov_r 56]) (pc2 := 138) b_178_137_1 rfl rfl ?_
            refine ov_iald d_178_138 (zb_74 I24) (zs_74 I24) (by omega) ?_
            show ov_R u d ov_m178 139 [(0, ov_r 54), (1, ov_r 70), (2, ov_i c), (3, ov_i n), (4, ov_i b), (5, ov_i ((((c * 5) + n) * 2) + 0)), (6, ov_i x6)] [ov_i (h19 74 c), ov_i (h19 73 c), ov_i 0, ov_r 56] z18 (ov_up h19 54 0 (-1)) (P_Wave_solve_54_70 F z h c n b)
            have g26 := ra_74 I20 c
            refine ov_blk (ls2 := [(0, ov_r 54), (1, ov_r 70), (2, ov_i c), (3, ov_i n), (4, ov_i b), (5, ov_i ((((c * 5) + n) * 2) + 0)), (6, ov_i x6)]) (st2 := [ov_r 54, ov_i ((h19 73 c) + (h19 74 c)), ov_i 0, ov_r 56]) (pc2 := 141) b_178_139_2 rfl rfl ?_
            refine ov_getf (v := ov_i (h19 54 5)) d_178_141 fl_Wave_40 (zb_54 I24) (zs_54 I24) rfl ?_
            have g27 := rg_54_5 I20
            refine ov_cSN (as := [ov_i ((h19 73 c) + (h19 74 c)), ov_i (h19 54 5)]) (st := [ov_i 0, ov_r 56]) (d2 := d - 1) d_178_144 lk_Wave_61 rfl (Nat.le_of_ble_eq_true rfl) (by omega) (c_OF_modulo (d - 1) (by omega) U I24 ((h19 73 c) + (h19 74 c)) (h19 54 5) (by omega) (by omega)) ?_
            rintro _ _ _ ⟨v29, rfl, rfl, rfl, f28⟩
            show ov_R u d ov_m178 147 [(0, ov_r 54), (1, ov_r 70), (2, ov_i c), (3, ov_i n), (4, ov_i b), (5, ov_i ((((c * 5) + n) * 2) + 0)), (6, ov_i x6)] [ov_i v29, ov_i 0, ov_r 56] z18 (ov_up h19 54 0 (-1)) (P_Wave_solve_54_70 F z h c n b)
            have f30 : (0 < (h19 54 5) → 0 ≤ v29 ∧ v29 < (h19 54 5)) ∧ ((h19 54 5) ≤ 0 → v29 = 0) := f28
            clear f28
            refine ov_iast d_178_147 (zb_56 I24) (zs_56 I24) (by omega) ?_
            have I31 := ua_56 (k := 0) (x := v29) I24 (by omega)
            refine ov_blk (ls2 := [(0, ov_r 54), (1, ov_r 70), (2, ov_i c), (3, ov_i n), (4, ov_i b), (5, ov_i ((((c * 5) + n) * 2) + 0)), (6, ov_i x6)]) (st2 := [ov_r 54, ov_i 0, ov_r 54, ov_i 1, ov_r 54]) (pc2 := 153) b_178_148_5 rfl rfl ?_
            refine ov_getf (v := ov_r 56) d_178_153 fl_Wave_15 (zb_54 I31) (zs_54 I31) (congrArg ov_r (rg_54_2 I31)) ?_
            refine ov_blk (ls2 := [(0, ov_r 54), (1, ov_r 70), (2, ov_i c), (3, ov_i n), (4, ov_i b), (5, ov_i ((((c * 5) + n) * 2) + 0)), (6, ov_i x6)]) (st2 := [ov_i 0, ov_r 56, ov_i 0, ov_r 54, ov_i 1, ov_r 54]) (pc2 := 157) b_178_156_1 rfl rfl ?_
            refine ov_iald d_178_157 (zb_56 I31) (zs_56 I31) (by omega) ?_
            show ov_R u d ov_m178 158 [(0, ov_r 54), (1, ov_r 70), (2, ov_i c), (3, ov_i n), (4, ov_i b), (5, ov_i ((((c * 5) + n) * 2) + 0)), (6, ov_i x6)] [ov_i v29, ov_i 0, ov_r 54, ov_i 1, ov_r 54] z18 (ov_up (ov_up h19 54 0 (-1)) 56 0 v29) (P_Wave_solve_54_70 F z h c n b)
            refine ov_cV (as := [ov_i 0, ov_i v29]) (st := [ov_i 1, ov_r 54]) (d2 := d - 1) d_178_158 lk_Wave_64 rfl (Nat.le_of_ble_eq_true rfl) (c := 11) (zb_54 I31) (zs_54 I31) ⟨by decide, rfl⟩ (by omega) (c_Wave_there_54 (d - 1) (by omega) U I31 0 v29 (by omega) (by omega) (by omega)) ?_
            rintro _ _ _ ⟨v33, rfl, rfl, rfl, f32⟩
            show ov_R u d ov_m178 161 [(0, ov_r 54), (1, ov_r 70), (2, ov_i c), (3, ov_i n), (4, ov_i b), (5, ov_i ((((c * 5) + n) * 2) + 0)), (6, ov_i x6)] [ov_l v33, ov_i 1, ov_r 54] z18 (ov_up (ov_up h19 54 0 (-1)) 56 0 v29) (P_Wave_solve_54_70 F z h c n b)
            clear f32
            refine ov_blk (ls2 := [(0, ov_r 54), (1, ov_r 70), (2, ov_i c), (3, ov_i n), (4, ov_i b), (5, ov_i ((((c * 5) + n) * 2) + 0)), (6, ov_i x6)]) (st2 := [ov_r 54, ov_l v33, ov_i 1, ov_r 54]) (pc2 := 162) b_178_161_1 rfl rfl ?_
            refine ov_getf (v := ov_i (h19 54 7)) d_178_162 fl_Wave_48 (zb_54 I31) (zs_54 I31) rfl ?_
            have g34 := rg_54_7 I20
            refine ov_ifeq (tgt := 182) d_178_165 (by decide) (by omega) (fun c35 => ?_) (fun c35 => ?_)
            · skip
              refine ov_blk (ls2 := [(0, ov_r 54), (1, ov_r 70), (2, ov_i c), (3, ov_i n), (4, ov_i b), (5, ov_i ((((c * 5) + n) * 2) + 0)), (6, ov_i x6)]) (st2 := [ov_l 0, ov_l v33, ov_i 1, ov_r 54]) (pc2 := 183) b_178_182_1 rfl rfl ?_
              refine ov_cV (as := [ov_i 1, ov_l v33, ov_l 0]) (st := []) (d2 := d - 1) d_178_183 lk_Wave_71 rfl (Nat.le_of_ble_eq_true rfl) (c := 11) (zb_54 I31) (zs_54 I31) ⟨by decide, rfl⟩ (by omega) (c_Wave_search_54_all 3 (d - 1) (by omega) U I31 1 v33 0 (by omega) (by omega)) ?_
              rintro _ z37 h38 ⟨rfl, I39, f36⟩
              show ov_R u d ov_m178 186 [(0, ov_r 54), (1, ov_r 70), (2, ov_i c), (3, ov_i n), (4, ov_i b), (5, ov_i ((((c * 5) + n) * 2) + 0)), (6, ov_i x6)] [] z37 h38 (P_Wave_solve_54_70 F z h c n b)
              have f40 : (h38 36 7) = (h19 36 7) ∧ (h38 1 1) = (h19 1 1) ∧ (h38 90 2) = (h19 90 2) ∧ (h38 0 10) = (h19 0 10) ∧ (h38 0 11) = (h19 0 11) ∧ (h38 0 12) = (h19 0 12) ∧ (h38 0 13) = (h19 0 13) ∧ (h38 3 1) = (h19 3 1) ∧ (h38 36 8) = (h19 36 8) ∧ (h38 46 3) = (h19 46 3) ∧ (h38 46 4) = (h19 46 4) ∧ (h38 49 4) = (h19 49 4) ∧ (h38 49 5) = (h19 49 5) ∧ (h38 64 0) = (h19 64 0) ∧ (h38 76 0) = (h19 76 0) := f36
              clear f36
              exact ov_retv (st := []) d_178_186 rfl ⟨rfl, I39, (by show (h38 36 7) = (h 36 7) ∧ (h38 1 1) = (h 1 1) ∧ (h38 90 2) = (h 90 2) ∧ (h38 0 10) = (h 0 10) ∧ (h38 0 11) = (h 0 11) ∧ (h38 0 12) = (h 0 12) ∧ (h38 0 13) = (h 0 13) ∧ (h38 3 1) = (h 3 1) ∧ (h38 36 8) = (h 36 8) ∧ (h38 46 3) = (h 46 3) ∧ (h38 46 4) = (h 46 4) ∧ (h38 49 4) = (h 49 4) ∧ (h38 49 5) = (h 49 5) ∧ (h38 64 0) = (h 64 0) ∧ (h38 76 0) = (h 76 0); omega)⟩
            · skip
              refine ov_blk (ls2 := [(0, ov_r 54), (1, ov_r 70), (2, ov_i c), (3, ov_i n), (4, ov_i b), (5, ov_i ((((c * 5) + n) * 2) + 0)), (6, ov_i x6)]) (st2 := [ov_r 54, ov_i 0, ov_r 54, ov_l v33, ov_i 1, ov_r 54]) (pc2 := 171) b_178_168_3 rfl rfl ?_
              refine ov_getf (v := ov_r 56) d_178_171 fl_Wave_15 (zb_54 I31) (zs_54 I31) (congrArg ov_r (rg_54_2 I31)) ?_
              refine ov_blk (ls2 := [(0, ov_r 54), (1, ov_r 70), (2, ov_i c), (3, ov_i n), (4, ov_i b), (5, ov_i ((((c * 5) + n) * 2) + 0)), (6, ov_i x6)]) (st2 := [ov_i 0, ov_r 56, ov_i 0, ov_r 54, ov_l v33, ov_i 1, ov_r 54]) (pc2 := 175) b_178_174_1 rfl rfl ?_
              refine ov_iald d_178_175 (zb_56 I31) (zs_56 I31) (by omega) ?_
              show ov_R u d ov_m178 176 [(0, ov_r 54), (1, ov_r 70), (2, ov_i c), (3, ov_i n), (4, ov_i b), (5, ov_i ((((c * 5) + n) * 2) + 0)), (6, ov_i x6)] [ov_i v29, ov_i 0, ov_r 54, ov_l v33, ov_i 1, ov_r 54] z18 (ov_up (ov_up h19 54 0 (-1)) 56 0 v29) (P_Wave_solve_54_70 F z h c n b)
              refine ov_cV (as := [ov_i 0, ov_i v29]) (st := [ov_l v33, ov_i 1, ov_r 54]) (d2 := d - 1) d_178_176 lk_Wave_68 rfl (Nat.le_of_ble_eq_true rfl) (c := 11) (zb_54 I31) (zs_54 I31) ⟨by decide, rfl⟩ (by omega) (c_Wave_back_54 (d - 1) (by omega) U I31 0 v29 (by omega) (by omega) (by omega)) ?_
              rintro _ _ _ ⟨v42, rfl, rfl, rfl, f41⟩
              show ov_R u d ov_m178 179 [(0, ov_r 54), (1, ov_r 70), (2, ov_i c), (3, ov_i n), (4, ov_i b), (5, ov_i ((((c * 5) + n) * 2) + 0)), (6, ov_i x6)] [ov_l v42, ov_l v33, ov_i 1, ov_r 54] z18 (ov_up (ov_up h19 54 0 (-1)) 56 0 v29) (P_Wave_solve_54_70 F z h c n b)
              clear f41
              refine ov_goto (tgt := 183) d_178_179 (by decide) ?_
              refine ov_cV (as := [ov_i 1, ov_l v33, ov_l v42]) (st := []) (d2 := d - 1) d_178_183 lk_Wave_71 rfl (Nat.le_of_ble_eq_true rfl) (c := 11) (zb_54 I31) (zs_54 I31) ⟨by decide, rfl⟩ (by omega) (c_Wave_search_54_all 3 (d - 1) (by omega) U I31 1 v33 v42 (by omega) (by omega)) ?_
              rintro _ z44 h45 ⟨rfl, I46, f43⟩
              show ov_R u d ov_m178 186 [(0, ov_r 54), (1, ov_r 70), (2, ov_i c), (3, ov_i n), (4, ov_i b), (5, ov_i ((((c * 5) + n) * 2) + 0)), (6, ov_i x6)] [] z44 h45 (P_Wave_solve_54_70 F z h c n b)
              have f47 : (h45 36 7) = (h19 36 7) ∧ (h45 1 1) = (h19 1 1) ∧ (h45 90 2) = (h19 90 2) ∧ (h45 0 10) = (h19 0 10) ∧ (h45 0 11) = (h19 0 11) ∧ (h45 0 12) = (h19 0 12) ∧ (h45 0 13) = (h19 0 13) ∧ (h45 3 1) = (h19 3 1) ∧ (h45 36 8) = (h19 36 8) ∧ (h45 46 3) = (h19 46 3) ∧ (h45 46 4) = (h19 46 4) ∧ (h45 49 4) = (h19 49 4) ∧ (h45 49 5) = (h19 49 5) ∧ (h45 64 0) = (h19 64 0) ∧ (h45 76 0) = (h19 76 0) := f43
              clear f43
              exact ov_retv (st := []) d_178_186 rfl ⟨rfl, I46, (by show (h45 36 7) = (h 36 7) ∧ (h45 1 1) = (h 1 1) ∧ (h45 90 2) = (h 90 2) ∧ (h45 0 10) = (h 0 10) ∧ (h45 0 11) = (h 0 11) ∧ (h45 0 12) = (h 0 12) ∧ (h45 0 13) = (h 0 13) ∧ (h45 3 1) = (h 3 1) ∧ (h45 36 8) = (h 36 8) ∧ (h45 46 3) = (h 46 3) ∧ (h45 46 4) = (h 46 4) ∧ (h45 49 4) = (h 49 4) ∧ (h45 49 5) = (h 49 5) ∧ (h45 64 0) = (h 64 0) ∧ (h45 76 0) = (h 76 0); omega)⟩
          · skip
            refine ov_blk (ls2 := [(0, ov_r 54), (1, ov_r 70), (2, ov_i c), (3, ov_i n), (4, ov_i b), (5, ov_i ((((c * 5) + n) * 2) + 0)), (6, ov_i x6)]) (st2 := [ov_r 54]) (pc2 := 84) b_178_83_1 rfl rfl ?_
            refine ov_getf (v := ov_r 57) d_178_84 fl_Wave_18 (zb_54 I20) (zs_54 I20) (congrArg ov_r (rg_54_3 I20)) ?_
            refine ov_blk (ls2 := [(0, ov_r 54), (1, ov_r 70), (2, ov_i c), (3, ov_i n), (4, ov_i b), (5, ov_i ((((c * 5) + n) * 2) + 0)), (6, ov_i x6)]) (st2 := [ov_r 54, ov_l 1, ov_i x6, ov_r 57]) (pc2 := 91) b_178_87_3 rfl rfl ?_
            refine ov_getf (v := ov_i (h19 54 5)) d_178_91 fl_Wave_40 (zb_54 I20) (zs_54 I20) rfl ?_
            have g48 := rg_54_5 I20
            refine ov_blk (ls2 := [(0, ov_r 54), (1, ov_r 70), (2, ov_i c), (3, ov_i n), (4, ov_i b), (5, ov_i ((((c * 5) + n) * 2) + 0)), (6, ov_i x6)]) (st2 := [ov_r 70, ov_i (h19 54 5), ov_l 1, ov_i x6, ov_r 57]) (pc2 := 95) b_178_94_1 rfl rfl ?_
            refine ov_getf (v := ov_r 74) d_178_95 fl_Wave_52 (zb_70 I20) (zs_70 I20) (congrArg ov_r (rg_70_5 I20)) ?_
            refine ov_blk (ls2 := [(0, ov_r 54), (1, ov_r 70), (2, ov_i c), (3, ov_i n), (4, ov_i b), (5, ov_i ((((c * 5) + n) * 2) + 0)), (6, ov_i x6)]) (st2 := [ov_i (c + (x6 * 6)), ov_r 74, ov_i (h19 54 5), ov_l 1, ov_i x6, ov_r 57]) (pc2 := 105) b_178_98_5 rfl rfl ?_
            refine ov_iald d_178_105 (zb_74 I20) (zs_74 I20) (by omega) ?_
            have g49 := ra_74 I20 (c + (x6 * 6))
            refine ov_blk (ls2 := [(0, ov_r 54), (1, ov_r 70), (2, ov_i c), (3, ov_i n), (4, ov_i b), (5, ov_i ((((c * 5) + n) * 2) + 0)), (6, ov_i x6)]) (st2 := [ov_l ((ov_lshl 1 ((h19 54 5) - (h19 74 (c + (x6 * 6))))) - 1), ov_i x6, ov_r 57]) (pc2 := 110) b_178_106_4 rfl rfl ?_
            refine ov_last d_178_110 (zb_57 I20) (zs_57 I20) (by omega) ?_
            have I50 := ua_57 (k := x6) (x := ((ov_lshl 1 ((h19 54 5) - (h19 74 (c + (x6 * 6))))) - 1)) I20
            refine ov_blk (ls2 := [(0, ov_r 54), (1, ov_r 70), (2, ov_i c), (3, ov_i n), (4, ov_i b), (5, ov_i ((((c * 5) + n) * 2) + 0)), (6, ov_i (x6 + 1))]) (st2 := []) (pc2 := 114) b_178_111_1 rfl rfl ?_
            refine ov_goto (tgt := 74) d_178_114 (by decide) ?_
            exact ih15 (x6 + 1) _ _ I50 (by show 0 ≤ (x6 + 1) ∧ (x6 + 1) ≤ 4 ∧ (h19 54 4) ≤ n ∧ (h19 36 7) = (h 36 7) ∧ (h19 1 1) = (h 1 1) ∧ (h19 90 2) = (h 90 2) ∧ (h19 0 10) = (h 0 10) ∧ (h19 0 11) = (h 0 11) ∧ (h19 0 12) = (h 0 12) ∧ (h19 0 13) = (h 0 13) ∧ (h19 3 1) = (h 3 1) ∧ (h19 36 8) = (h 36 8) ∧ (h19 46 3) = (h 46 3) ∧ (h19 46 4) = (h 46 4) ∧ (h19 49 4) = (h 49 4) ∧ (h19 49 5) = (h 49 5) ∧ (h19 64 0) = (h 64 0) ∧ (h19 76 0) = (h 76 0); omega) (by omega)
      exact L17 5 0 _ _ I13 (by show 0 ≤ 0 ∧ 0 ≤ 4 ∧ v6 ≤ n ∧ (h 36 7) = (h 36 7) ∧ (h 1 1) = (h 1 1) ∧ (h 90 2) = (h 90 2) ∧ (h 0 10) = (h 0 10) ∧ (h 0 11) = (h 0 11) ∧ (h 0 12) = (h 0 12) ∧ (h 0 13) = (h 0 13) ∧ (h 3 1) = (h 3 1) ∧ (h 36 8) = (h 36 8) ∧ (h 46 3) = (h 46 3) ∧ (h 46 4) = (h 46 4) ∧ (h 49 4) = (h 49 4) ∧ (h 49 5) = (h 49 5) ∧ (h 64 0) = (h 64 0) ∧ (h 76 0) = (h 76 0); omega) (by omega)
    · skip
      exact ov_retv (st := []) d_178_29 rfl ⟨rfl, I, (by show (h 36 7) = (h 36 7) ∧ (h 1 1) = (h 1 1) ∧ (h 90 2) = (h 90 2) ∧ (h 0 10) = (h 0 10) ∧ (h 0 11) = (h 0 11) ∧ (h 0 12) = (h 0 12) ∧ (h 0 13) = (h 0 13) ∧ (h 3 1) = (h 3 1) ∧ (h 36 8) = (h 36 8) ∧ (h 46 3) = (h 46 3) ∧ (h 46 4) = (h 46 4) ∧ (h 49 4) = (h 49 4) ∧ (h 49 5) = (h 49 5) ∧ (h 64 0) = (h 64 0) ∧ (h 76 0) = (h 76 0); omega)⟩
  · skip
    refine ov_blk (ls2 := [(0, ov_r 54), (1, ov_r 70), (2, ov_i c), (3, ov_i n), (4, ov_i b)]) (st2 := [ov_i 1, ov_i (((c * 5) + n) * 2)]) (pc2 := 13) b_178_12_1 rfl rfl ?_
    refine ov_goto (tgt := 17) d_178_13 (by decide) ?_
    refine ov_blk (ls2 := [(0, ov_r 54), (1, ov_r 70), (2, ov_i c), (3, ov_i n), (4, ov_i b), (5, ov_i ((((c * 5) + n) * 2) + 1))]) (st2 := [ov_r 54]) (pc2 := 21) b_178_17_3 rfl rfl ?_
    refine ov_getf (v := ov_i (h 54 8)) d_178_21 fl_Wave_22 (zb_54 I) (zs_54 I) rfl ?_
    have g51 := rg_54_8 I
    refine ov_blk (ls2 := [(0, ov_r 54), (1, ov_r 70), (2, ov_i c), (3, ov_i n), (4, ov_i b), (5, ov_i ((((c * 5) + n) * 2) + 1))]) (st2 := [ov_i ((((c * 5) + n) * 2) + 1), ov_i (h 54 8)]) (pc2 := 26) b_178_24_1 rfl rfl ?_
    refine ov_icne (tgt := 30) d_178_26 (by decide) (by omega) (by omega) (fun c52 => ?_) (fun c52 => ?_)
    · skip
      refine ov_blk (ls2 := [(0, ov_r 54), (1, ov_r 70), (2, ov_i c), (3, ov_i n), (4, ov_i b), (5, ov_i ((((c * 5) + n) * 2) + 1))]) (st2 := [ov_i ((((c * 5) + n) * 2) + 1), ov_r 54]) (pc2 := 33) b_178_30_2 rfl rfl ?_
      refine ov_putf (x := ((((c * 5) + n) * 2) + 1)) d_178_33 fl_Wave_22 (zb_54 I) (zs_54 I) rfl nk_0 rfl ?_
      have I53 := up_54_8 (x := ((((c * 5) + n) * 2) + 1)) I (by omega)
      refine ov_blk (ls2 := [(0, ov_r 54), (1, ov_r 70), (2, ov_i c), (3, ov_i n), (4, ov_i b), (5, ov_i ((((c * 5) + n) * 2) + 1))]) (st2 := [ov_i 4, ov_i n, ov_r 54]) (pc2 := 39) b_178_36_3 rfl rfl ?_
      refine ov_cS (as := [ov_i n, ov_i 4]) (st := [ov_r 54]) (d2 := d - 1) d_178_39 lk_Wave_26 rfl (Nat.le_of_ble_eq_true rfl) (by omega) (c_Math_min (d - 1) (by omega) U I53 n 4 (by omega) (by omega)) ?_
      rintro _ _ _ ⟨v55, rfl, rfl, rfl, f54⟩
      show ov_R u d ov_m178 42 [(0, ov_r 54), (1, ov_r 70), (2, ov_i c), (3, ov_i n), (4, ov_i b), (5, ov_i ((((c * 5) + n) * 2) + 1))] [ov_i v55, ov_r 54] z (ov_up h 54 8 ((((c * 5) + n) * 2) + 1)) (P_Wave_solve_54_70 F z h c n b)
      have f56 : v55 ≤ n ∧ v55 ≤ (4 : Int) ∧ (v55 = n ∨ v55 = (4 : Int)) := f54
      clear f54
      refine ov_putf (x := v55) d_178_42 fl_Wave_32 (zb_54 I53) (zs_54 I53) rfl nk_0 rfl ?_
      have I57 := up_54_4 (x := v55) I53 (by omega)
      refine ov_blk (ls2 := [(0, ov_r 54), (1, ov_r 70), (2, ov_i c), (3, ov_i n), (4, ov_i b), (5, ov_i ((((c * 5) + n) * 2) + 1))]) (st2 := [ov_r 70, ov_r 54]) (pc2 := 47) b_178_45_2 rfl rfl ?_
      refine ov_getf (v := ov_r 72) d_178_47 fl_Wave_35 (zb_70 I57) (zs_70 I57) (congrArg ov_r (rg_70_3 I57)) ?_
      refine ov_blk (ls2 := [(0, ov_r 54), (1, ov_r 70), (2, ov_i c), (3, ov_i n), (4, ov_i b), (5, ov_i ((((c * 5) + n) * 2) + 1))]) (st2 := [ov_i c, ov_r 72, ov_r 54]) (pc2 := 51) b_178_50_1 rfl rfl ?_
      refine ov_iald d_178_51 (zb_72 I57) (zs_72 I57) (by omega) ?_
      show ov_R u d ov_m178 52 [(0, ov_r 54), (1, ov_r 70), (2, ov_i c), (3, ov_i n), (4, ov_i b), (5, ov_i ((((c * 5) + n) * 2) + 1))] [ov_i (h 72 c), ov_r 54] z (ov_up (ov_up h 54 8 ((((c * 5) + n) * 2) + 1)) 54 4 v55) (P_Wave_solve_54_70 F z h c n b)
      have g58 := ra_72 I c
      refine ov_putf (x := (h 72 c)) d_178_52 fl_Wave_40 (zb_54 I57) (zs_54 I57) rfl nk_0 rfl ?_
      have I59 := up_54_5 (x := (h 72 c)) I57 (by omega)
      refine ov_blk (ls2 := [(0, ov_r 54), (1, ov_r 70), (2, ov_i c), (3, ov_i n), (4, ov_i b), (5, ov_i ((((c * 5) + n) * 2) + 1))]) (st2 := [ov_r 70, ov_r 54]) (pc2 := 57) b_178_55_2 rfl rfl ?_
      refine ov_getf (v := ov_r 76) d_178_57 fl_Wave_42 (zb_70 I59) (zs_70 I59) (congrArg ov_r (rg_70_7 I59)) ?_
      refine ov_blk (ls2 := [(0, ov_r 54), (1, ov_r 70), (2, ov_i c), (3, ov_i n), (4, ov_i b), (5, ov_i ((((c * 5) + n) * 2) + 1))]) (st2 := [ov_i 0, ov_r 76, ov_r 54]) (pc2 := 61) b_178_60_1 rfl rfl ?_
      refine ov_iald d_178_61 (zb_76 I59) (zs_76 I59) (by omega) ?_
      show ov_R u d ov_m178 62 [(0, ov_r 54), (1, ov_r 70), (2, ov_i c), (3, ov_i n), (4, ov_i b), (5, ov_i ((((c * 5) + n) * 2) + 1))] [ov_i (h 76 0), ov_r 54] z (ov_up (ov_up (ov_up h 54 8 ((((c * 5) + n) * 2) + 1)) 54 4 v55) 54 5 (h 72 c)) (P_Wave_solve_54_70 F z h c n b)
      have g60 := ra_76 I 0
      refine ov_putf (x := (h 76 0)) d_178_62 fl_Wave_45 (zb_54 I59) (zs_54 I59) rfl nk_0 rfl ?_
      have I61 := up_54_6 (x := (h 76 0)) I59 (by omega)
      refine ov_blk (ls2 := [(0, ov_r 54), (1, ov_r 70), (2, ov_i c), (3, ov_i n), (4, ov_i b), (5, ov_i ((((c * 5) + n) * 2) + 1))]) (st2 := [ov_i b, ov_r 54]) (pc2 := 68) b_178_65_2 rfl rfl ?_
      refine ov_putf (x := b) d_178_68 fl_Wave_48 (zb_54 I61) (zs_54 I61) rfl (nk_3 (by omega)) rfl ?_
      have I62 := up_54_7 (x := b) I61 (by omega)
      refine ov_blk (ls2 := [(0, ov_r 54), (1, ov_r 70), (2, ov_i c), (3, ov_i n), (4, ov_i b), (5, ov_i ((((c * 5) + n) * 2) + 1)), (6, ov_i 0)]) (st2 := []) (pc2 := 74) b_178_71_2 rfl rfl ?_
      have L66 : ∀ (n63 : Nat) (x6_ : Int) (z67 : ov_Z) (h68 : ov_H) (I69 : ov_I F z67 h68) (q65 : 0 ≤ x6_ ∧ x6_ ≤ 4 ∧ (h68 54 4) ≤ n ∧ (h68 36 7) = (h 36 7) ∧ (h68 1 1) = (h 1 1) ∧ (h68 90 2) = (h 90 2) ∧ (h68 0 10) = (h 0 10) ∧ (h68 0 11) = (h 0 11) ∧ (h68 0 12) = (h 0 12) ∧ (h68 0 13) = (h 0 13) ∧ (h68 3 1) = (h 3 1) ∧ (h68 36 8) = (h 36 8) ∧ (h68 46 3) = (h 46 3) ∧ (h68 46 4) = (h 46 4) ∧ (h68 49 4) = (h 49 4) ∧ (h68 49 5) = (h 49 5) ∧ (h68 64 0) = (h 64 0) ∧ (h68 76 0) = (h 76 0)), 4 - x6_ < (n63 : Int) → ov_R u d ov_m178 74 [(0, ov_r 54), (1, ov_r 70), (2, ov_i c), (3, ov_i n), (4, ov_i b), (5, ov_i ((((c * 5) + n) * 2) + 1)), (6, ov_i x6_)] [] z67 h68 (P_Wave_solve_54_70 F z h c n b) := by
        intro n63
        induction n63 with
        | zero =>
          intro x6_ z67 h68 I69 q65 hn70
          exact absurd hn70 (by omega)
        | succ n63 ih64 =>
          intro x6_ z67 h68 I69 q65 hn70
          refine ov_blk (ls2 := [(0, ov_r 54), (1, ov_r 70), (2, ov_i c), (3, ov_i n), (4, ov_i b), (5, ov_i ((((c * 5) + n) * 2) + 1)), (6, ov_i x6_)]) (st2 := [ov_r 54, ov_i x6_]) (pc2 := 77) b_178_74_2 rfl rfl ?_
          refine ov_getf (v := ov_i (h68 54 4)) d_178_77 fl_Wave_32 (zb_54 I69) (zs_54 I69) rfl ?_
          have g71 := rg_54_4 I69
          refine ov_icge (tgt := 117) d_178_80 (by decide) (by omega) (by omega) (fun c72 => ?_) (fun c72 => ?_)
          · skip
            refine ov_blk (ls2 := [(0, ov_r 54), (1, ov_r 70), (2, ov_i c), (3, ov_i n), (4, ov_i b), (5, ov_i ((((c * 5) + n) * 2) + 1)), (6, ov_i x6_)]) (st2 := [ov_i (-1), ov_r 54]) (pc2 := 119) b_178_117_2 rfl rfl ?_
            refine ov_putf (x := (-1)) d_178_119 fl_Wave_55 (zb_54 I69) (zs_54 I69) rfl nk_0 rfl ?_
            have I73 := up_54_0 (x := (-1)) I69 (by omega)
            refine ov_blk (ls2 := [(0, ov_r 54), (1, ov_r 70), (2, ov_i c), (3, ov_i n), (4, ov_i b), (5, ov_i ((((c * 5) + n) * 2) + 1)), (6, ov_i x6_)]) (st2 := [ov_r 54]) (pc2 := 123) b_178_122_1 rfl rfl ?_
            refine ov_getf (v := ov_r 56) d_178_123 fl_Wave_15 (zb_54 I73) (zs_54 I73) (congrArg ov_r (rg_54_2 I73)) ?_
            refine ov_blk (ls2 := [(0, ov_r 54), (1, ov_r 70), (2, ov_i c), (3, ov_i n), (4, ov_i b), (5, ov_i ((((c * 5) + n) * 2) + 1)), (6, ov_i x6_)]) (st2 := [ov_r 70, ov_i 0, ov_r 56]) (pc2 := 128) b_178_126_2 rfl rfl ?_
            refine ov_getf (v := ov_r 73) d_178_128 fl_Wave_58 (zb_70 I73) (zs_70 I73) (congrArg ov_r (rg_70_4 I73)) ?_
            refine ov_blk (ls2 := [(0, ov_r 54), (1, ov_r 70), (2, ov_i c), (3, ov_i n), (4, ov_i b), (5, ov_i ((((c * 5) + n) * 2) + 1)), (6, ov_i x6_)]) (st2 := [ov_i c, ov_r 73, ov_i 0, ov_r 56]) (pc2 := 132) b_178_131_1 rfl rfl ?_
            refine ov_iald d_178_132 (zb_73 I73) (zs_73 I73) (by omega) ?_
            show ov_R u d ov_m178 133 [(0, ov_r 54), (1, ov_r 70), (2, ov_i c), (3, ov_i n), (4, ov_i b), (5, ov_i ((((c * 5) + n) * 2) + 1)), (6, ov_i x6_)] [ov_i (h68 73 c), ov_i 0, ov_r 56] z67 (ov_up h68 54 0 (-1)) (P_Wave_solve_54_70 F z h c n b)
            have g74 := ra_73 I69 c
            refine ov_blk (ls2 := [(0, ov_r 54), (1, ov_r 70), (2, ov_i c), (3, ov_i n), (4, ov_i b), (5, ov_i ((((c * 5) + n) * 2) + 1)), (6, ov_i x6_)]) (st2 := [ov_r 70, ov_i (h68 73 c), ov_i 0, ov_r 56]) (pc2 := 134) b_178_133_1 rfl rfl ?_
            refine ov_getf (v := ov_r 74) d_178_134 fl_Wave_52 (zb_70 I73) (zs_70 I73) (congrArg ov_r (rg_70_5 I73)) ?_
            refine ov_blk (ls2 := [(0, ov_r 54), (1, ov_r 70), (2, ov_i c), (3, ov_i n), (4, ov_i b), (5, ov_i ((((c * 5) + n) * 2) + 1)), (6, ov_i x6_)]) (st2 := [ov_i c, ov_r 74, ov_i (h68 73 c), ov_i 0, ov_r 56]) (pc2 := 138) b_178_137_1 rfl rfl ?_
            refine ov_iald d_178_138 (zb_74 I73) (zs_74 I73) (by omega) ?_
            show ov_R u d ov_m178 139 [(0, ov_r 54), (1, ov_r 70), (2, ov_i c), (3, ov_i n), (4, ov_i b), (5, ov_i ((((c * 5) + n) * 2) + 1)), (6, ov_i x6_)] [ov_i (h68 74 c), ov_i (h68 73 c), ov_i 0, ov_r 56] z67 (ov_up h68 54 0 (-1)) (P_Wave_solve_54_70 F z h c n b)
            have g75 := ra_74 I69 c
            refine ov_blk (ls2 := [(0, ov_r 54), (1, ov_r 70), (2, ov_i c), (3, ov_i n), (4, ov_i b), (5, ov_i ((((c * 5) + n) * 2) + 1)), (6, ov_i x6_)]) (st2 := [ov_r 54, ov_i ((h68 73 c) + (h68 74 c)), ov_i 0, ov_r 56]) (pc2 := 141) b_178_139_2 rfl rfl ?_
            refine ov_getf (v := ov_i (h68 54 5)) d_178_141 fl_Wave_40 (zb_54 I73) (zs_54 I73) rfl ?_
            have g76 := rg_54_5 I69
            refine ov_cSN (as := [ov_i ((h68 73 c) + (h68 74 c)), ov_i (h68 54 5)]) (st := [ov_i 0, ov_r 56]) (d2 := d - 1) d_178_144 lk_Wave_61 rfl (Nat.le_of_ble_eq_true rfl) (by omega) (c_OF_modulo (d - 1) (by omega) U I73 ((h68 73 c) + (h68 74 c)) (h68 54 5) (by omega) (by omega)) ?_
            rintro _ _ _ ⟨v78, rfl, rfl, rfl, f77⟩
            show ov_R u d ov_m178 147 [(0, ov_r 54), (1, ov_r 70), (2, ov_i c), (3, ov_i n), (4, ov_i b), (5, ov_i ((((c * 5) + n) * 2) + 1)), (6, ov_i x6_)] [ov_i v78, ov_i 0, ov_r 56] z67 (ov_up h68 54 0 (-1)) (P_Wave_solve_54_70 F z h c n b)
            have f79 : (0 < (h68 54 5) → 0 ≤ v78 ∧ v78 < (h68 54 5)) ∧ ((h68 54 5) ≤ 0 → v78 = 0) := f77
            clear f77
            refine ov_iast d_178_147 (zb_56 I73) (zs_56 I73) (by omega) ?_
            have I80 := ua_56 (k := 0) (x := v78) I73 (by omega)
            refine ov_blk (ls2 := [(0, ov_r 54), (1, ov_r 70), (2, ov_i c), (3, ov_i n), (4, ov_i b), (5, ov_i ((((c * 5) + n) * 2) + 1)), (6, ov_i x6_)]) (st2 := [ov_r 54, ov_i 0, ov_r 54, ov_i 1, ov_r 54]) (pc2 := 153) b_178_148_5 rfl rfl ?_
            refine ov_getf (v := ov_r 56) d_178_153 fl_Wave_15 (zb_54 I80) (zs_54 I80) (congrArg ov_r (rg_54_2 I80)) ?_
            refine ov_blk (ls2 := [(0, ov_r 54), (1, ov_r 70), (2, ov_i c), (3, ov_i n), (4, ov_i b), (5, ov_i ((((c * 5) + n) * 2) + 1)), (6, ov_i x6_)]) (st2 := [ov_i 0, ov_r 56, ov_i 0, ov_r 54, ov_i 1, ov_r 54]) (pc2 := 157) b_178_156_1 rfl rfl ?_
            refine ov_iald d_178_157 (zb_56 I80) (zs_56 I80) (by omega) ?_
            show ov_R u d ov_m178 158 [(0, ov_r 54), (1, ov_r 70), (2, ov_i c), (3, ov_i n), (4, ov_i b), (5, ov_i ((((c * 5) + n) * 2) + 1)), (6, ov_i x6_)] [ov_i v78, ov_i 0, ov_r 54, ov_i 1, ov_r 54] z67 (ov_up (ov_up h68 54 0 (-1)) 56 0 v78) (P_Wave_solve_54_70 F z h c n b)
            refine ov_cV (as := [ov_i 0, ov_i v78]) (st := [ov_i 1, ov_r 54]) (d2 := d - 1) d_178_158 lk_Wave_64 rfl (Nat.le_of_ble_eq_true rfl) (c := 11) (zb_54 I80) (zs_54 I80) ⟨by decide, rfl⟩ (by omega) (c_Wave_there_54 (d - 1) (by omega) U I80 0 v78 (by omega) (by omega) (by omega)) ?_
            rintro _ _ _ ⟨v82, rfl, rfl, rfl, f81⟩
            show ov_R u d ov_m178 161 [(0, ov_r 54), (1, ov_r 70), (2, ov_i c), (3, ov_i n), (4, ov_i b), (5, ov_i ((((c * 5) + n) * 2) + 1)), (6, ov_i x6_)] [ov_l v82, ov_i 1, ov_r 54] z67 (ov_up (ov_up h68 54 0 (-1)) 56 0 v78) (P_Wave_solve_54_70 F z h c n b)
            clear f81
            refine ov_blk (ls2 := [(0, ov_r 54), (1, ov_r 70), (2, ov_i c), (3, ov_i n), (4, ov_i b), (5, ov_i ((((c * 5) + n) * 2) + 1)), (6, ov_i x6_)]) (st2 := [ov_r 54, ov_l v82, ov_i 1, ov_r 54]) (pc2 := 162) b_178_161_1 rfl rfl ?_
            refine ov_getf (v := ov_i (h68 54 7)) d_178_162 fl_Wave_48 (zb_54 I80) (zs_54 I80) rfl ?_
            have g83 := rg_54_7 I69
            refine ov_ifeq (tgt := 182) d_178_165 (by decide) (by omega) (fun c84 => ?_) (fun c84 => ?_)
            · skip
              refine ov_blk (ls2 := [(0, ov_r 54), (1, ov_r 70), (2, ov_i c), (3, ov_i n), (4, ov_i b), (5, ov_i ((((c * 5) + n) * 2) + 1)), (6, ov_i x6_)]) (st2 := [ov_l 0, ov_l v82, ov_i 1, ov_r 54]) (pc2 := 183) b_178_182_1 rfl rfl ?_
              refine ov_cV (as := [ov_i 1, ov_l v82, ov_l 0]) (st := []) (d2 := d - 1) d_178_183 lk_Wave_71 rfl (Nat.le_of_ble_eq_true rfl) (c := 11) (zb_54 I80) (zs_54 I80) ⟨by decide, rfl⟩ (by omega) (c_Wave_search_54_all 3 (d - 1) (by omega) U I80 1 v82 0 (by omega) (by omega)) ?_
              rintro _ z86 h87 ⟨rfl, I88, f85⟩
              show ov_R u d ov_m178 186 [(0, ov_r 54), (1, ov_r 70), (2, ov_i c), (3, ov_i n), (4, ov_i b), (5, ov_i ((((c * 5) + n) * 2) + 1)), (6, ov_i x6_)] [] z86 h87 (P_Wave_solve_54_70 F z h c n b)
              have f89 : (h87 36 7) = (h68 36 7) ∧ (h87 1 1) = (h68 1 1) ∧ (h87 90 2) = (h68 90 2) ∧ (h87 0 10) = (h68 0 10) ∧ (h87 0 11) = (h68 0 11) ∧ (h87 0 12) = (h68 0 12) ∧ (h87 0 13) = (h68 0 13) ∧ (h87 3 1) = (h68 3 1) ∧ (h87 36 8) = (h68 36 8) ∧ (h87 46 3) = (h68 46 3) ∧ (h87 46 4) = (h68 46 4) ∧ (h87 49 4) = (h68 49 4) ∧ (h87 49 5) = (h68 49 5) ∧ (h87 64 0) = (h68 64 0) ∧ (h87 76 0) = (h68 76 0) := f85
              clear f85
              exact ov_retv (st := []) d_178_186 rfl ⟨rfl, I88, (by show (h87 36 7) = (h 36 7) ∧ (h87 1 1) = (h 1 1) ∧ (h87 90 2) = (h 90 2) ∧ (h87 0 10) = (h 0 10) ∧ (h87 0 11) = (h 0 11) ∧ (h87 0 12) = (h 0 12) ∧ (h87 0 13) = (h 0 13) ∧ (h87 3 1) = (h 3 1) ∧ (h87 36 8) = (h 36 8) ∧ (h87 46 3) = (h 46 3) ∧ (h87 46 4) = (h 46 4) ∧ (h87 49 4) = (h 49 4) ∧ (h87 49 5) = (h 49 5) ∧ (h87 64 0) = (h 64 0) ∧ (h87 76 0) = (h 76 0); omega)⟩
            · skip
              refine ov_blk (ls2 := [(0, ov_r 54), (1, ov_r 70), (2, ov_i c), (3, ov_i n), (4, ov_i b), (5, ov_i ((((c * 5) + n) * 2) + 1)), (6, ov_i x6_)]) (st2 := [ov_r 54, ov_i 0, ov_r 54, ov_l v82, ov_i 1, ov_r 54]) (pc2 := 171) b_178_168_3 rfl rfl ?_
              refine ov_getf (v := ov_r 56) d_178_171 fl_Wave_15 (zb_54 I80) (zs_54 I80) (congrArg ov_r (rg_54_2 I80)) ?_
              refine ov_blk (ls2 := [(0, ov_r 54), (1, ov_r 70), (2, ov_i c), (3, ov_i n), (4, ov_i b), (5, ov_i ((((c * 5) + n) * 2) + 1)), (6, ov_i x6_)]) (st2 := [ov_i 0, ov_r 56, ov_i 0, ov_r 54, ov_l v82, ov_i 1, ov_r 54]) (pc2 := 175) b_178_174_1 rfl rfl ?_
              refine ov_iald d_178_175 (zb_56 I80) (zs_56 I80) (by omega) ?_
              show ov_R u d ov_m178 176 [(0, ov_r 54), (1, ov_r 70), (2, ov_i c), (3, ov_i n), (4, ov_i b), (5, ov_i ((((c * 5) + n) * 2) + 1)), (6, ov_i x6_)] [ov_i v78, ov_i 0, ov_r 54, ov_l v82, ov_i 1, ov_r 54] z67 (ov_up (ov_up h68 54 0 (-1)) 56 0 v78) (P_Wave_solve_54_70 F z h c n b)
              refine ov_cV (as := [ov_i 0, ov_i v78]) (st := [ov_l v82, ov_i 1, ov_r 54]) (d2 := d - 1) d_178_176 lk_Wave_68 rfl (Nat.le_of_ble_eq_true rfl) (c := 11) (zb_54 I80) (zs_54 I80) ⟨by decide, rfl⟩ (by omega) (c_Wave_back_54 (d - 1) (by omega) U I80 0 v78 (by omega) (by omega) (by omega)) ?_
              rintro _ _ _ ⟨v91, rfl, rfl, rfl, f90⟩
              show ov_R u d ov_m178 179 [(0, ov_r 54), (1, ov_r 70), (2, ov_i c), (3, ov_i n), (4, ov_i b), (5, ov_i ((((c * 5) + n) * 2) + 1)), (6, ov_i x6_)] [ov_l v91, ov_l v82, ov_i 1, ov_r 54] z67 (ov_up (ov_up h68 54 0 (-1)) 56 0 v78) (P_Wave_solve_54_70 F z h c n b)
              clear f90
              refine ov_goto (tgt := 183) d_178_179 (by decide) ?_
              refine ov_cV (as := [ov_i 1, ov_l v82, ov_l v91]) (st := []) (d2 := d - 1) d_178_183 lk_Wave_71 rfl (Nat.le_of_ble_eq_true rfl) (c := 11) (zb_54 I80) (zs_54 I80) ⟨by decide, rfl⟩ (by omega) (c_Wave_search_54_all 3 (d - 1) (by omega) U I80 1 v82 v91 (by omega) (by omega)) ?_
              rintro _ z93 h94 ⟨rfl, I95, f92⟩
              show ov_R u d ov_m178 186 [(0, ov_r 54), (1, ov_r 70), (2, ov_i c), (3, ov_i n), (4, ov_i b), (5, ov_i ((((c * 5) + n) * 2) + 1)), (6, ov_i x6_)] [] z93 h94 (P_Wave_solve_54_70 F z h c n b)
              have f96 : (h94 36 7) = (h68 36 7) ∧ (h94 1 1) = (h68 1 1) ∧ (h94 90 2) = (h68 90 2) ∧ (h94 0 10) = (h68 0 10) ∧ (h94 0 11) = (h68 0 11) ∧ (h94 0 12) = (h68 0 12) ∧ (h94 0 13) = (h68 0 13) ∧ (h94 3 1) = (h68 3 1) ∧ (h94 36 8) = (h68 36 8) ∧ (h94 46 3) = (h68 46 3) ∧ (h94 46 4) = (h68 46 4) ∧ (h94 49 4) = (h68 49 4) ∧ (h94 49 5) = (h68 49 5) ∧ (h94 64 0) = (h68 64 0) ∧ (h94 76 0) = (h68 76 0) := f92
              clear f92
              exact ov_retv (st := []) d_178_186 rfl ⟨rfl, I95, (by show (h94 36 7) = (h 36 7) ∧ (h94 1 1) = (h 1 1) ∧ (h94 90 2) = (h 90 2) ∧ (h94 0 10) = (h 0 10) ∧ (h94 0 11) = (h 0 11) ∧ (h94 0 12) = (h 0 12) ∧ (h94 0 13) = (h 0 13) ∧ (h94 3 1) = (h 3 1) ∧ (h94 36 8) = (h 36 8) ∧ (h94 46 3) = (h 46 3) ∧ (h94 46 4) = (h 46 4) ∧ (h94 49 4) = (h 49 4) ∧ (h94 49 5) = (h 49 5) ∧ (h94 64 0) = (h 64 0) ∧ (h94 76 0) = (h 76 0); omega)⟩
          · skip
            refine ov_blk (ls2 := [(0, ov_r 54), (1, ov_r 70), (2, ov_i c), (3, ov_i n), (4, ov_i b), (5, ov_i ((((c * 5) + n) * 2) + 1)), (6, ov_i x6_)]) (st2 := [ov_r 54]) (pc2 := 84) b_178_83_1 rfl rfl ?_
            refine ov_getf (v := ov_r 57) d_178_84 fl_Wave_18 (zb_54 I69) (zs_54 I69) (congrArg ov_r (rg_54_3 I69)) ?_
            refine ov_blk (ls2 := [(0, ov_r 54), (1, ov_r 70), (2, ov_i c), (3, ov_i n), (4, ov_i b), (5, ov_i ((((c * 5) + n) * 2) + 1)), (6, ov_i x6_)]) (st2 := [ov_r 54, ov_l 1, ov_i x6_, ov_r 57]) (pc2 := 91) b_178_87_3 rfl rfl ?_
            refine ov_getf (v := ov_i (h68 54 5)) d_178_91 fl_Wave_40 (zb_54 I69) (zs_54 I69) rfl ?_
            have g97 := rg_54_5 I69
            refine ov_blk (ls2 := [(0, ov_r 54), (1, ov_r 70), (2, ov_i c), (3, ov_i n), (4, ov_i b), (5, ov_i ((((c * 5) + n) * 2) + 1)), (6, ov_i x6_)]) (st2 := [ov_r 70, ov_i (h68 54 5), ov_l 1, ov_i x6_, ov_r 57]) (pc2 := 95) b_178_94_1 rfl rfl ?_
            refine ov_getf (v := ov_r 74) d_178_95 fl_Wave_52 (zb_70 I69) (zs_70 I69) (congrArg ov_r (rg_70_5 I69)) ?_
            refine ov_blk (ls2 := [(0, ov_r 54), (1, ov_r 70), (2, ov_i c), (3, ov_i n), (4, ov_i b), (5, ov_i ((((c * 5) + n) * 2) + 1)), (6, ov_i x6_)]) (st2 := [ov_i (c + (x6_ * 6)), ov_r 74, ov_i (h68 54 5), ov_l 1, ov_i x6_, ov_r 57]) (pc2 := 105) b_178_98_5 rfl rfl ?_
            refine ov_iald d_178_105 (zb_74 I69) (zs_74 I69) (by omega) ?_
            have g98 := ra_74 I69 (c + (x6_ * 6))
            refine ov_blk (ls2 := [(0, ov_r 54), (1, ov_r 70), (2, ov_i c), (3, ov_i n), (4, ov_i b), (5, ov_i ((((c * 5) + n) * 2) + 1)), (6, ov_i x6_)]) (st2 := [ov_l ((ov_lshl 1 ((h68 54 5) - (h68 74 (c + (x6_ * 6))))) - 1), ov_i x6_, ov_r 57]) (pc2 := 110) b_178_106_4 rfl rfl ?_
            refine ov_last d_178_110 (zb_57 I69) (zs_57 I69) (by omega) ?_
            have I99 := ua_57 (k := x6_) (x := ((ov_lshl 1 ((h68 54 5) - (h68 74 (c + (x6_ * 6))))) - 1)) I69
            refine ov_blk (ls2 := [(0, ov_r 54), (1, ov_r 70), (2, ov_i c), (3, ov_i n), (4, ov_i b), (5, ov_i ((((c * 5) + n) * 2) + 1)), (6, ov_i (x6_ + 1))]) (st2 := []) (pc2 := 114) b_178_111_1 rfl rfl ?_
            refine ov_goto (tgt := 74) d_178_114 (by decide) ?_
            exact ih64 (x6_ + 1) _ _ I99 (by show 0 ≤ (x6_ + 1) ∧ (x6_ + 1) ≤ 4 ∧ (h68 54 4) ≤ n ∧ (h68 36 7) = (h 36 7) ∧ (h68 1 1) = (h 1 1) ∧ (h68 90 2) = (h 90 2) ∧ (h68 0 10) = (h 0 10) ∧ (h68 0 11) = (h 0 11) ∧ (h68 0 12) = (h 0 12) ∧ (h68 0 13) = (h 0 13) ∧ (h68 3 1) = (h 3 1) ∧ (h68 36 8) = (h 36 8) ∧ (h68 46 3) = (h 46 3) ∧ (h68 46 4) = (h 46 4) ∧ (h68 49 4) = (h 49 4) ∧ (h68 49 5) = (h 49 5) ∧ (h68 64 0) = (h 64 0) ∧ (h68 76 0) = (h 76 0); omega) (by omega)
      exact L66 5 0 _ _ I62 (by show 0 ≤ 0 ∧ 0 ≤ 4 ∧ v55 ≤ n ∧ (h 36 7) = (h 36 7) ∧ (h 1 1) = (h 1 1) ∧ (h 90 2) = (h 90 2) ∧ (h 0 10) = (h 0 10) ∧ (h 0 11) = (h 0 11) ∧ (h 0 12) = (h 0 12) ∧ (h 0 13) = (h 0 13) ∧ (h 3 1) = (h 3 1) ∧ (h 36 8) = (h 36 8) ∧ (h 46 3) = (h 46 3) ∧ (h 46 4) = (h 46 4) ∧ (h 49 4) = (h 49 4) ∧ (h 49 5) = (h 49 5) ∧ (h 64 0) = (h 64 0) ∧ (h 76 0) = (h 76 0); omega) (by omega)
    · skip
      exact ov_retv (st := []) d_178_29 rfl ⟨rfl, I, (by show (h 36 7) = (h 36 7) ∧ (h 1 1) = (h 1 1) ∧ (h 90 2) = (h 90 2) ∧ (h 0 10) = (h 0 10) ∧ (h 0 11) = (h 0 11) ∧ (h 0 12) = (h 0 12) ∧ (h 0 13) = (h 0 13) ∧ (h 3 1) = (h 3 1) ∧ (h 36 8) = (h 36 8) ∧ (h 46 3) = (h 46 3) ∧ (h 46 4) = (h 46 4) ∧ (h 49 4) = (h 49 4) ∧ (h 49 5) = (h 49 5) ∧ (h 64 0) = (h 64 0) ∧ (h 76 0) = (h 76 0); omega)⟩

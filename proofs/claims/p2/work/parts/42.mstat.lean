theorem b_241_0_2 : ov_ds ov_m241.2.1 0 [.iload_n 0, .iload_n 1] = true := by decide +kernel
theorem d_241_2 : decode ov_m241.2.1 2 = .ok (.if_icmp .lt 12, 3) := by decide +kernel
theorem b_241_14_1 : ov_ds ov_m241.2.1 14 [.iconst 0] = true := by decide +kernel
theorem d_241_15 : decode ov_m241.2.1 15 = .ok (.ireturn, 1) := by decide +kernel
theorem b_241_5_2 : ov_ds ov_m241.2.1 5 [.iload_n 0, .iload_n 2] = true := by decide +kernel
theorem d_241_7 : decode ov_m241.2.1 7 = .ok (.if_icmp .gt 7, 3) := by decide +kernel
theorem b_241_10_1 : ov_ds ov_m241.2.1 10 [.iconst 1] = true := by decide +kernel
theorem d_241_11 : decode ov_m241.2.1 11 = .ok (.goto 4, 3) := by decide +kernel
theorem b_207_0_2 : ov_ds ov_m207.2.1 0 [.iload_n 0, .bipush 97] = true := by decide +kernel
theorem d_207_3 : decode ov_m207.2.1 3 = .ok (.if_icmp .lt 13, 3) := by decide +kernel
theorem b_207_16_1 : ov_ds ov_m207.2.1 16 [.iconst 0] = true := by decide +kernel
theorem d_207_17 : decode ov_m207.2.1 17 = .ok (.ireturn, 1) := by decide +kernel
theorem b_207_6_2 : ov_ds ov_m207.2.1 6 [.iload_n 0, .bipush 122] = true := by decide +kernel
theorem d_207_9 : decode ov_m207.2.1 9 = .ok (.if_icmp .gt 7, 3) := by decide +kernel
theorem b_207_12_1 : ov_ds ov_m207.2.1 12 [.iconst 1] = true := by decide +kernel
theorem d_207_13 : decode ov_m207.2.1 13 = .ok (.goto 4, 3) := by decide +kernel
theorem b_209_0_2 : ov_ds ov_m209.2.1 0 [.iload_n 0, .bipush 48] = true := by decide +kernel
theorem d_209_3 : decode ov_m209.2.1 3 = .ok (.if_icmp .lt 13, 3) := by decide +kernel
theorem b_209_16_1 : ov_ds ov_m209.2.1 16 [.iconst 0] = true := by decide +kernel
theorem d_209_17 : decode ov_m209.2.1 17 = .ok (.ireturn, 1) := by decide +kernel
theorem b_209_6_2 : ov_ds ov_m209.2.1 6 [.iload_n 0, .bipush 57] = true := by decide +kernel
theorem d_209_9 : decode ov_m209.2.1 9 = .ok (.if_icmp .gt 7, 3) := by decide +kernel
theorem b_209_12_1 : ov_ds ov_m209.2.1 12 [.iconst 1] = true := by decide +kernel
theorem d_209_13 : decode ov_m209.2.1 13 = .ok (.goto 4, 3) := by decide +kernel
theorem b_208_0_1 : ov_ds ov_m208.2.1 0 [.iload_n 0] = true := by decide +kernel
theorem d_208_1 : decode ov_m208.2.1 1 = .ok (.invokestatic 154, 3) := by decide +kernel
theorem d_208_4 : decode ov_m208.2.1 4 = .ok (.ifCond .eq 10, 3) := by decide +kernel
theorem b_208_14_3 : ov_ds ov_m208.2.1 14 [.iload_n 0, .bipush 21, .isub] = true := by decide +kernel
theorem d_208_18 : decode ov_m208.2.1 18 = .ok (.ireturn, 1) := by decide +kernel
theorem b_208_7_3 : ov_ds ov_m208.2.1 7 [.iload_n 0, .bipush 96, .isub] = true := by decide +kernel
theorem d_208_11 : decode ov_m208.2.1 11 = .ok (.goto 7, 3) := by decide +kernel
theorem b_210_0_2 : ov_ds ov_m210.2.1 0 [.iload_n 0, .bipush 40] = true := by decide +kernel
theorem d_210_3 : decode ov_m210.2.1 3 = .ok (.if_icmp .eq 45, 3) := by decide +kernel
theorem b_210_48_1 : ov_ds ov_m210.2.1 48 [.iconst 1] = true := by decide +kernel
theorem d_210_49 : decode ov_m210.2.1 49 = .ok (.goto 4, 3) := by decide +kernel
theorem d_210_53 : decode ov_m210.2.1 53 = .ok (.ireturn, 1) := by decide +kernel
theorem b_210_6_2 : ov_ds ov_m210.2.1 6 [.iload_n 0, .bipush 41] = true := by decide +kernel
theorem d_210_9 : decode ov_m210.2.1 9 = .ok (.if_icmp .eq 39, 3) := by decide +kernel
theorem b_210_12_2 : ov_ds ov_m210.2.1 12 [.iload_n 0, .bipush 59] = true := by decide +kernel
theorem d_210_15 : decode ov_m210.2.1 15 = .ok (.if_icmp .eq 33, 3) := by decide +kernel
theorem b_210_18_2 : ov_ds ov_m210.2.1 18 [.iload_n 0, .bipush 61] = true := by decide +kernel
theorem d_210_21 : decode ov_m210.2.1 21 = .ok (.if_icmp .eq 27, 3) := by decide +kernel
theorem b_210_24_2 : ov_ds ov_m210.2.1 24 [.iload_n 0, .bipush 60] = true := by decide +kernel
theorem d_210_27 : decode ov_m210.2.1 27 = .ok (.if_icmp .eq 21, 3) := by decide +kernel
theorem b_210_30_2 : ov_ds ov_m210.2.1 30 [.iload_n 0, .bipush 43] = true := by decide +kernel
theorem d_210_33 : decode ov_m210.2.1 33 = .ok (.if_icmp .eq 15, 3) := by decide +kernel
theorem b_210_36_2 : ov_ds ov_m210.2.1 36 [.iload_n 0, .bipush 45] = true := by decide +kernel
theorem d_210_39 : decode ov_m210.2.1 39 = .ok (.if_icmp .eq 9, 3) := by decide +kernel
theorem b_210_42_2 : ov_ds ov_m210.2.1 42 [.iload_n 0, .bipush 42] = true := by decide +kernel
theorem d_210_45 : decode ov_m210.2.1 45 = .ok (.if_icmp .ne 7, 3) := by decide +kernel
theorem b_210_52_1 : ov_ds ov_m210.2.1 52 [.iconst 0] = true := by decide +kernel
theorem b_279_0_1 : ov_ds ov_m279.2.1 0 [.iload_n 0] = true := by decide +kernel
theorem d_279_1 : decode ov_m279.2.1 1 = .ok (.tableswitch 87 4 9 #[39, 43, 47, 51, 62, 73], 39) := by decide +kernel
theorem b_279_40_3 : ov_ds ov_m279.2.1 40 [.iload_n 1, .iload_n 2, .iadd] = true := by decide +kernel
theorem d_279_43 : decode ov_m279.2.1 43 = .ok (.ireturn, 1) := by decide +kernel
theorem b_279_44_3 : ov_ds ov_m279.2.1 44 [.iload_n 1, .iload_n 2, .isub] = true := by decide +kernel
theorem d_279_47 : decode ov_m279.2.1 47 = .ok (.ireturn, 1) := by decide +kernel
theorem b_279_48_3 : ov_ds ov_m279.2.1 48 [.iload_n 1, .iload_n 2, .imul] = true := by decide +kernel
theorem d_279_51 : decode ov_m279.2.1 51 = .ok (.ireturn, 1) := by decide +kernel
theorem b_279_52_2 : ov_ds ov_m279.2.1 52 [.iload_n 1, .iload_n 2] = true := by decide +kernel
theorem d_279_54 : decode ov_m279.2.1 54 = .ok (.if_icmp .ge 7, 3) := by decide +kernel
theorem b_279_61_1 : ov_ds ov_m279.2.1 61 [.iconst 0] = true := by decide +kernel
theorem d_279_62 : decode ov_m279.2.1 62 = .ok (.ireturn, 1) := by decide +kernel
theorem b_279_57_1 : ov_ds ov_m279.2.1 57 [.iconst 1] = true := by decide +kernel
theorem d_279_58 : decode ov_m279.2.1 58 = .ok (.goto 4, 3) := by decide +kernel
theorem b_279_63_2 : ov_ds ov_m279.2.1 63 [.iload_n 1, .iload_n 2] = true := by decide +kernel
theorem d_279_65 : decode ov_m279.2.1 65 = .ok (.if_icmp .ne 7, 3) := by decide +kernel
theorem b_279_72_1 : ov_ds ov_m279.2.1 72 [.iconst 0] = true := by decide +kernel
theorem d_279_73 : decode ov_m279.2.1 73 = .ok (.ireturn, 1) := by decide +kernel
theorem b_279_68_1 : ov_ds ov_m279.2.1 68 [.iconst 1] = true := by decide +kernel
theorem d_279_69 : decode ov_m279.2.1 69 = .ok (.goto 4, 3) := by decide +kernel
theorem b_279_74_1 : ov_ds ov_m279.2.1 74 [.iload_n 1] = true := by decide +kernel
theorem d_279_75 : decode ov_m279.2.1 75 = .ok (.ifCond .eq 11, 3) := by decide +kernel
theorem b_279_86_1 : ov_ds ov_m279.2.1 86 [.iconst 0] = true := by decide +kernel
theorem d_279_87 : decode ov_m279.2.1 87 = .ok (.ireturn, 1) := by decide +kernel
theorem b_279_78_1 : ov_ds ov_m279.2.1 78 [.iload_n 2] = true := by decide +kernel
theorem d_279_79 : decode ov_m279.2.1 79 = .ok (.ifCond .eq 7, 3) := by decide +kernel
theorem b_279_82_1 : ov_ds ov_m279.2.1 82 [.iconst 1] = true := by decide +kernel
theorem d_279_83 : decode ov_m279.2.1 83 = .ok (.goto 4, 3) := by decide +kernel
theorem b_279_88_1 : ov_ds ov_m279.2.1 88 [.iload_n 1] = true := by decide +kernel
theorem d_279_89 : decode ov_m279.2.1 89 = .ok (.ifCond .ne 7, 3) := by decide +kernel
theorem b_279_96_1 : ov_ds ov_m279.2.1 96 [.iconst 1] = true := by decide +kernel
theorem d_279_97 : decode ov_m279.2.1 97 = .ok (.goto 4, 3) := by decide +kernel
theorem d_279_101 : decode ov_m279.2.1 101 = .ok (.ireturn, 1) := by decide +kernel
theorem b_279_92_1 : ov_ds ov_m279.2.1 92 [.iload_n 2] = true := by decide +kernel
theorem d_279_93 : decode ov_m279.2.1 93 = .ok (.ifCond .eq 7, 3) := by decide +kernel
theorem b_279_100_1 : ov_ds ov_m279.2.1 100 [.iconst 0] = true := by decide +kernel
theorem b_300_0_4 : ov_ds ov_m300.2.1 0 [.iconst 0, .istore_n 2, .iconst 0, .istore_n 3] = true := by decide +kernel
theorem b_300_4_2 : ov_ds ov_m300.2.1 4 [.iload_n 3, .bipush 60] = true := by decide +kernel
theorem d_300_7 : decode ov_m300.2.1 7 = .ok (.if_icmp .ge 18, 3) := by decide +kernel
theorem b_300_25_1 : ov_ds ov_m300.2.1 25 [.iload_n 2] = true := by decide +kernel
theorem d_300_26 : decode ov_m300.2.1 26 = .ok (.ireturn, 1) := by decide +kernel
theorem b_300_10_7 : ov_ds ov_m300.2.1 10 [.iload_n 2, .lload_n 0, .iload_n 3, .lshr, .lconst 1, .land, .l2i] = true := by decide +kernel
theorem b_300_17_1 : ov_ds ov_m300.2.1 17 [.iadd] = true := by decide +kernel
theorem b_300_18_2 : ov_ds ov_m300.2.1 18 [.istore_n 2, .iinc 3 1] = true := by decide +kernel
theorem d_300_22 : decode ov_m300.2.1 22 = .ok (.goto (-18), 3) := by decide +kernel
theorem b_298_0_4 : ov_ds ov_m298.2.1 0 [.lconst 0, .lstore_n 3, .iconst 0, .istore 5] = true := by decide +kernel
theorem b_298_5_2 : ov_ds ov_m298.2.1 5 [.iload 5, .iload_n 1] = true := by decide +kernel
theorem d_298_8 : decode ov_m298.2.1 8 = .ok (.if_icmp .ge 24, 3) := by decide +kernel
theorem b_298_32_1 : ov_ds ov_m298.2.1 32 [.lload_n 3] = true := by decide +kernel
theorem d_298_33 : decode ov_m298.2.1 33 = .ok (.lreturn, 1) := by decide +kernel
theorem b_298_11_5 : ov_ds ov_m298.2.1 11 [.lload_n 3, .lconst 1, .iload_n 0, .iload 5, .iadd] = true := by decide +kernel
theorem b_298_17_1 : ov_ds ov_m298.2.1 17 [.iload_n 2] = true := by decide +kernel
theorem d_298_18 : decode ov_m298.2.1 18 = .ok (.irem, 1) := by decide +kernel
theorem b_298_19_2 : ov_ds ov_m298.2.1 19 [.iload_n 2, .iadd] = true := by decide +kernel
theorem b_298_21_1 : ov_ds ov_m298.2.1 21 [.iload_n 2] = true := by decide +kernel
theorem d_298_22 : decode ov_m298.2.1 22 = .ok (.irem, 1) := by decide +kernel
theorem b_298_23_4 : ov_ds ov_m298.2.1 23 [.lshl, .lor, .lstore_n 3, .iinc 5 1] = true := by decide +kernel
theorem d_298_29 : decode ov_m298.2.1 29 = .ok (.goto (-24), 3) := by decide +kernel
theorem b_247_0_2 : ov_ds ov_m247.2.1 0 [.iload_n 1, .iconst 0] = true := by decide +kernel
theorem d_247_2 : decode ov_m247.2.1 2 = .ok (.ldc_w 305, 3) := by decide +kernel
theorem d_247_5 : decode ov_m247.2.1 5 = .ok (.invokestatic 299, 3) := by decide +kernel
theorem d_247_8 : decode ov_m247.2.1 8 = .ok (.ireturn, 1) := by decide +kernel
abbrev P_Mo_within (z : ov_Z) (h : ov_H) (v : Int) (lo : Int) (hi : Int) : Option ov_V → ov_Z → ov_H → Prop := fun r0 z' h' => ∃ r : Int, r0 = some (ov_i r) ∧ z = z' ∧ h = h' ∧ ((r = 0 ∨ r = 1) ∧ (r = 1 → lo ≤ v ∧ v ≤ hi) ∧ (r = 0 → v < lo ∨ hi < v))
set_option maxHeartbeats 4000000 in
theorem c_Mo_within {u : ov_U} {z : ov_Z} {h : ov_H} (d : Nat) (hd : 0 ≤ d) (U : ov_cap u) (I : ov_I z h) (v : Int) (lo : Int) (hi : Int) (g_v : ov_g v) (g_lo : ov_g lo) (g_hi : ov_g hi) : ov_T u d ov_m241 [ov_i v, ov_i lo, ov_i hi] z h (P_Mo_within z h v lo hi) := by
  refine ov_en rfl (Nat.le_of_ble_eq_true rfl) ?_
  show ov_R u d ov_m241 0 [(0, ov_i v), (1, ov_i lo), (2, ov_i hi)] [] z h (P_Mo_within z h v lo hi)
  refine ov_blk (ls2 := [(0, ov_i v), (1, ov_i lo), (2, ov_i hi)]) (st2 := [ov_i lo, ov_i v]) (pc2 := 2) b_241_0_2 rfl rfl ?_
  refine ov_iclt (tgt := 14) d_241_2 (by decide) (by omega) (by omega) (fun c1 => ?_) (fun c1 => ?_)
  · skip
    refine ov_blk (ls2 := [(0, ov_i v), (1, ov_i lo), (2, ov_i hi)]) (st2 := [ov_i 0]) (pc2 := 15) b_241_14_1 rfl rfl ?_
    exact ov_retz (st := []) d_241_15 rfl (by omega) ⟨_, rfl, rfl, rfl, (by show (0 = 0 ∨ 0 = 1) ∧ (0 = 1 → lo ≤ v ∧ v ≤ hi) ∧ (0 = 0 → v < lo ∨ hi < v); omega)⟩
  · skip
    refine ov_blk (ls2 := [(0, ov_i v), (1, ov_i lo), (2, ov_i hi)]) (st2 := [ov_i hi, ov_i v]) (pc2 := 7) b_241_5_2 rfl rfl ?_
    refine ov_icgt (tgt := 14) d_241_7 (by decide) (by omega) (by omega) (fun c2 => ?_) (fun c2 => ?_)
    · skip
      refine ov_blk (ls2 := [(0, ov_i v), (1, ov_i lo), (2, ov_i hi)]) (st2 := [ov_i 0]) (pc2 := 15) b_241_14_1 rfl rfl ?_
      exact ov_retz (st := []) d_241_15 rfl (by omega) ⟨_, rfl, rfl, rfl, (by show (0 = 0 ∨ 0 = 1) ∧ (0 = 1 → lo ≤ v ∧ v ≤ hi) ∧ (0 = 0 → v < lo ∨ hi < v); omega)⟩
    · skip
      refine ov_blk (ls2 := [(0, ov_i v), (1, ov_i lo), (2, ov_i hi)]) (st2 := [ov_i 1]) (pc2 := 11) b_241_10_1 rfl rfl ?_
      refine ov_goto (tgt := 15) d_241_11 (by decide) ?_
      exact ov_retz (st := []) d_241_15 rfl (by omega) ⟨_, rfl, rfl, rfl, (by show (1 = 0 ∨ 1 = 1) ∧ (1 = 1 → lo ≤ v ∧ v ≤ hi) ∧ (1 = 0 → v < lo ∨ hi < v); omega)⟩
abbrev P_Mo_isLetter (z : ov_Z) (h : ov_H) (c : Int) : Option ov_V → ov_Z → ov_H → Prop := fun r0 z' h' => ∃ r : Int, r0 = some (ov_i r) ∧ z = z' ∧ h = h' ∧ ((r = 0 ∨ r = 1) ∧ (r = 1 → 97 ≤ c ∧ c ≤ 122) ∧ (r = 0 → c < 97 ∨ 122 < c))
set_option maxHeartbeats 4000000 in
theorem c_Mo_isLetter {u : ov_U} {z : ov_Z} {h : ov_H} (d : Nat) (hd : 0 ≤ d) (U : ov_cap u) (I : ov_I z h) (c : Int) (g_c : ov_g c) : ov_T u d ov_m207 [ov_i c] z h (P_Mo_isLetter z h c) := by
  refine ov_en rfl (Nat.le_of_ble_eq_true rfl) ?_
  show ov_R u d ov_m207 0 [(0, ov_i c)] [] z h (P_Mo_isLetter z h c)
  refine ov_blk (ls2 := [(0, ov_i c)]) (st2 := [ov_i 97, ov_i c]) (pc2 := 3) b_207_0_2 rfl rfl ?_
  refine ov_iclt (tgt := 16) d_207_3 (by decide) (by omega) (by omega) (fun c1 => ?_) (fun c1 => ?_)
  · skip
    refine ov_blk (ls2 := [(0, ov_i c)]) (st2 := [ov_i 0]) (pc2 := 17) b_207_16_1 rfl rfl ?_
    exact ov_retz (st := []) d_207_17 rfl (by omega) ⟨_, rfl, rfl, rfl, (by show (0 = 0 ∨ 0 = 1) ∧ (0 = 1 → 97 ≤ c ∧ c ≤ 122) ∧ (0 = 0 → c < 97 ∨ 122 < c); omega)⟩
  · skip
    refine ov_blk (ls2 := [(0, ov_i c)]) (st2 := [ov_i 122, ov_i c]) (pc2 := 9) b_207_6_2 rfl rfl ?_
    refine ov_icgt (tgt := 16) d_207_9 (by decide) (by omega) (by omega) (fun c2 => ?_) (fun c2 => ?_)
    · skip
      refine ov_blk (ls2 := [(0, ov_i c)]) (st2 := [ov_i 0]) (pc2 := 17) b_207_16_1 rfl rfl ?_
      exact ov_retz (st := []) d_207_17 rfl (by omega) ⟨_, rfl, rfl, rfl, (by show (0 = 0 ∨ 0 = 1) ∧ (0 = 1 → 97 ≤ c ∧ c ≤ 122) ∧ (0 = 0 → c < 97 ∨ 122 < c); omega)⟩
    · skip
      refine ov_blk (ls2 := [(0, ov_i c)]) (st2 := [ov_i 1]) (pc2 := 13) b_207_12_1 rfl rfl ?_
      refine ov_goto (tgt := 17) d_207_13 (by decide) ?_
      exact ov_retz (st := []) d_207_17 rfl (by omega) ⟨_, rfl, rfl, rfl, (by show (1 = 0 ∨ 1 = 1) ∧ (1 = 1 → 97 ≤ c ∧ c ≤ 122) ∧ (1 = 0 → c < 97 ∨ 122 < c); omega)⟩
abbrev P_Mo_isDigit (z : ov_Z) (h : ov_H) (c : Int) : Option ov_V → ov_Z → ov_H → Prop := fun r0 z' h' => ∃ r : Int, r0 = some (ov_i r) ∧ z = z' ∧ h = h' ∧ ((r = 0 ∨ r = 1) ∧ (r = 1 → 48 ≤ c ∧ c ≤ 57) ∧ (r = 0 → c < 48 ∨ 57 < c))
set_option maxHeartbeats 4000000 in
theorem c_Mo_isDigit {u : ov_U} {z : ov_Z} {h : ov_H} (d : Nat) (hd : 0 ≤ d) (U : ov_cap u) (I : ov_I z h) (c : Int) (g_c : ov_g c) : ov_T u d ov_m209 [ov_i c] z h (P_Mo_isDigit z h c) := by
  refine ov_en rfl (Nat.le_of_ble_eq_true rfl) ?_
  show ov_R u d ov_m209 0 [(0, ov_i c)] [] z h (P_Mo_isDigit z h c)
  refine ov_blk (ls2 := [(0, ov_i c)]) (st2 := [ov_i 48, ov_i c]) (pc2 := 3) b_209_0_2 rfl rfl ?_
  refine ov_iclt (tgt := 16) d_209_3 (by decide) (by omega) (by omega) (fun c1 => ?_) (fun c1 => ?_)
  · skip
    refine ov_blk (ls2 := [(0, ov_i c)]) (st2 := [ov_i 0]) (pc2 := 17) b_209_16_1 rfl rfl ?_
    exact ov_retz (st := []) d_209_17 rfl (by omega) ⟨_, rfl, rfl, rfl, (by show (0 = 0 ∨ 0 = 1) ∧ (0 = 1 → 48 ≤ c ∧ c ≤ 57) ∧ (0 = 0 → c < 48 ∨ 57 < c); omega)⟩
  · skip
    refine ov_blk (ls2 := [(0, ov_i c)]) (st2 := [ov_i 57, ov_i c]) (pc2 := 9) b_209_6_2 rfl rfl ?_
    refine ov_icgt (tgt := 16) d_209_9 (by decide) (by omega) (by omega) (fun c2 => ?_) (fun c2 => ?_)
    · skip
      refine ov_blk (ls2 := [(0, ov_i c)]) (st2 := [ov_i 0]) (pc2 := 17) b_209_16_1 rfl rfl ?_
      exact ov_retz (st := []) d_209_17 rfl (by omega) ⟨_, rfl, rfl, rfl, (by show (0 = 0 ∨ 0 = 1) ∧ (0 = 1 → 48 ≤ c ∧ c ≤ 57) ∧ (0 = 0 → c < 48 ∨ 57 < c); omega)⟩
    · skip
      refine ov_blk (ls2 := [(0, ov_i c)]) (st2 := [ov_i 1]) (pc2 := 13) b_209_12_1 rfl rfl ?_
      refine ov_goto (tgt := 17) d_209_13 (by decide) ?_
      exact ov_retz (st := []) d_209_17 rfl (by omega) ⟨_, rfl, rfl, rfl, (by show (1 = 0 ∨ 1 = 1) ∧ (1 = 1 → 48 ≤ c ∧ c ≤ 57) ∧ (1 = 0 → c < 48 ∨ 57 < c); omega)⟩
abbrev P_Mo_rank (z : ov_Z) (h : ov_H) (c : Int) : Option ov_V → ov_Z → ov_H → Prop := fun r0 z' h' => ∃ r : Int, r0 = some (ov_i r) ∧ z = z' ∧ h = h' ∧ (-2147483648 ≤ r ∧ r ≤ 2147483647)
set_option maxHeartbeats 4000000 in
theorem c_Mo_rank {u : ov_U} {z : ov_Z} {h : ov_H} (d : Nat) (hd : 1 ≤ d) (U : ov_cap u) (I : ov_I z h) (c : Int) (g_c : ov_g c) : ov_T u d ov_m208 [ov_i c] z h (P_Mo_rank z h c) := by
  refine ov_en rfl (Nat.le_of_ble_eq_true rfl) ?_
  show ov_R u d ov_m208 0 [(0, ov_i c)] [] z h (P_Mo_rank z h c)
  refine ov_blk (ls2 := [(0, ov_i c)]) (st2 := [ov_i c]) (pc2 := 1) b_208_0_1 rfl rfl ?_
  refine ov_cS (as := [ov_i c]) (st := []) (d2 := d - 1) d_208_1 lk_Mo_154 rfl (Nat.le_of_ble_eq_true rfl) (by omega) (c_Mo_isLetter (d - 1) (by omega) U I c (by omega)) ?_
  rintro _ _ _ ⟨v2, rfl, rfl, rfl, f1⟩
  show ov_R u d ov_m208 4 [(0, ov_i c)] [ov_i v2] z h (P_Mo_rank z h c)
  have f3 : (v2 = 0 ∨ v2 = 1) ∧ (v2 = 1 → 97 ≤ c ∧ c ≤ 122) ∧ (v2 = 0 → c < 97 ∨ 122 < c) := f1
  clear f1
  refine ov_ifeq (tgt := 14) d_208_4 (by decide) (by omega) (fun c4 => ?_) (fun c4 => ?_)
  · skip
    refine ov_blk (ls2 := [(0, ov_i c)]) (st2 := [ov_i (c - 21)]) (pc2 := 18) b_208_14_3 rfl rfl ?_
    refine ov_havw (fun w5 gw5 qw5 => ?_)
    exact ov_reti (st := []) d_208_18 rfl ⟨_, rfl, rfl, rfl, (by show -2147483648 ≤ w5 ∧ w5 ≤ 2147483647; omega)⟩
  · skip
    refine ov_blk (ls2 := [(0, ov_i c)]) (st2 := [ov_i (c - 96)]) (pc2 := 11) b_208_7_3 rfl rfl ?_
    refine ov_havw (fun w6 gw6 qw6 => ?_)
    refine ov_goto (tgt := 18) d_208_11 (by decide) ?_
    exact ov_reti (st := []) d_208_18 rfl ⟨_, rfl, rfl, rfl, (by show -2147483648 ≤ w6 ∧ w6 ≤ 2147483647; omega)⟩
abbrev P_Mo_isSignOf (z : ov_Z) (h : ov_H) (c : Int) : Option ov_V → ov_Z → ov_H → Prop := fun r0 z' h' => ∃ r : Int, r0 = some (ov_i r) ∧ z = z' ∧ h = h' ∧ ((r = 0 ∨ r = 1))
set_option maxHeartbeats 4000000 in
theorem c_Mo_isSignOf {u : ov_U} {z : ov_Z} {h : ov_H} (d : Nat) (hd : 0 ≤ d) (U : ov_cap u) (I : ov_I z h) (c : Int) (g_c : ov_g c) : ov_T u d ov_m210 [ov_i c] z h (P_Mo_isSignOf z h c) := by
  refine ov_en rfl (Nat.le_of_ble_eq_true rfl) ?_
  show ov_R u d ov_m210 0 [(0, ov_i c)] [] z h (P_Mo_isSignOf z h c)
  refine ov_blk (ls2 := [(0, ov_i c)]) (st2 := [ov_i 40, ov_i c]) (pc2 := 3) b_210_0_2 rfl rfl ?_
  refine ov_iceq (tgt := 48) d_210_3 (by decide) (by omega) (by omega) (fun c1 => ?_) (fun c1 => ?_)
  · skip
    refine ov_blk (ls2 := [(0, ov_i c)]) (st2 := [ov_i 1]) (pc2 := 49) b_210_48_1 rfl rfl ?_
    refine ov_goto (tgt := 53) d_210_49 (by decide) ?_
    exact ov_retz (st := []) d_210_53 rfl (by omega) ⟨_, rfl, rfl, rfl, (by show (1 = 0 ∨ 1 = 1); omega)⟩
  · skip
    refine ov_blk (ls2 := [(0, ov_i c)]) (st2 := [ov_i 41, ov_i c]) (pc2 := 9) b_210_6_2 rfl rfl ?_
    refine ov_iceq (tgt := 48) d_210_9 (by decide) (by omega) (by omega) (fun c2 => ?_) (fun c2 => ?_)
    · skip
      refine ov_blk (ls2 := [(0, ov_i c)]) (st2 := [ov_i 1]) (pc2 := 49) b_210_48_1 rfl rfl ?_
      refine ov_goto (tgt := 53) d_210_49 (by decide) ?_
      exact ov_retz (st := []) d_210_53 rfl (by omega) ⟨_, rfl, rfl, rfl, (by show (1 = 0 ∨ 1 = 1); omega)⟩
    · skip
      refine ov_blk (ls2 := [(0, ov_i c)]) (st2 := [ov_i 59, ov_i c]) (pc2 := 15) b_210_12_2 rfl rfl ?_
      refine ov_iceq (tgt := 48) d_210_15 (by decide) (by omega) (by omega) (fun c3 => ?_) (fun c3 => ?_)
      · skip
        refine ov_blk (ls2 := [(0, ov_i c)]) (st2 := [ov_i 1]) (pc2 := 49) b_210_48_1 rfl rfl ?_
        refine ov_goto (tgt := 53) d_210_49 (by decide) ?_
        exact ov_retz (st := []) d_210_53 rfl (by omega) ⟨_, rfl, rfl, rfl, (by show (1 = 0 ∨ 1 = 1); omega)⟩
      · skip
        refine ov_blk (ls2 := [(0, ov_i c)]) (st2 := [ov_i 61, ov_i c]) (pc2 := 21) b_210_18_2 rfl rfl ?_
        refine ov_iceq (tgt := 48) d_210_21 (by decide) (by omega) (by omega) (fun c4 => ?_) (fun c4 => ?_)
        · skip
          refine ov_blk (ls2 := [(0, ov_i c)]) (st2 := [ov_i 1]) (pc2 := 49) b_210_48_1 rfl rfl ?_
          refine ov_goto (tgt := 53) d_210_49 (by decide) ?_
          exact ov_retz (st := []) d_210_53 rfl (by omega) ⟨_, rfl, rfl, rfl, (by show (1 = 0 ∨ 1 = 1); omega)⟩
        · skip
          refine ov_blk (ls2 := [(0, ov_i c)]) (st2 := [ov_i 60, ov_i c]) (pc2 := 27) b_210_24_2 rfl rfl ?_
          refine ov_iceq (tgt := 48) d_210_27 (by decide) (by omega) (by omega) (fun c5 => ?_) (fun c5 => ?_)
          · skip
            refine ov_blk (ls2 := [(0, ov_i c)]) (st2 := [ov_i 1]) (pc2 := 49) b_210_48_1 rfl rfl ?_
            refine ov_goto (tgt := 53) d_210_49 (by decide) ?_
            exact ov_retz (st := []) d_210_53 rfl (by omega) ⟨_, rfl, rfl, rfl, (by show (1 = 0 ∨ 1 = 1); omega)⟩
          · skip
            refine ov_blk (ls2 := [(0, ov_i c)]) (st2 := [ov_i 43, ov_i c]) (pc2 := 33) b_210_30_2 rfl rfl ?_
            refine ov_iceq (tgt := 48) d_210_33 (by decide) (by omega) (by omega) (fun c6 => ?_) (fun c6 => ?_)
            · skip
              refine ov_blk (ls2 := [(0, ov_i c)]) (st2 := [ov_i 1]) (pc2 := 49) b_210_48_1 rfl rfl ?_
              refine ov_goto (tgt := 53) d_210_49 (by decide) ?_
              exact ov_retz (st := []) d_210_53 rfl (by omega) ⟨_, rfl, rfl, rfl, (by show (1 = 0 ∨ 1 = 1); omega)⟩
            · skip
              refine ov_blk (ls2 := [(0, ov_i c)]) (st2 := [ov_i 45, ov_i c]) (pc2 := 39) b_210_36_2 rfl rfl ?_
              refine ov_iceq (tgt := 48) d_210_39 (by decide) (by omega) (by omega) (fun c7 => ?_) (fun c7 => ?_)
              · skip
                refine ov_blk (ls2 := [(0, ov_i c)]) (st2 := [ov_i 1]) (pc2 := 49) b_210_48_1 rfl rfl ?_
                refine ov_goto (tgt := 53) d_210_49 (by decide) ?_
                exact ov_retz (st := []) d_210_53 rfl (by omega) ⟨_, rfl, rfl, rfl, (by show (1 = 0 ∨ 1 = 1); omega)⟩
              · skip
                refine ov_blk (ls2 := [(0, ov_i c)]) (st2 := [ov_i 42, ov_i c]) (pc2 := 45) b_210_42_2 rfl rfl ?_
                refine ov_icne (tgt := 52) d_210_45 (by decide) (by omega) (by omega) (fun c8 => ?_) (fun c8 => ?_)
                · skip
                  refine ov_blk (ls2 := [(0, ov_i c)]) (st2 := [ov_i 0]) (pc2 := 53) b_210_52_1 rfl rfl ?_
                  exact ov_retz (st := []) d_210_53 rfl (by omega) ⟨_, rfl, rfl, rfl, (by show (0 = 0 ∨ 0 = 1); omega)⟩
                · skip
                  refine ov_blk (ls2 := [(0, ov_i c)]) (st2 := [ov_i 1]) (pc2 := 49) b_210_48_1 rfl rfl ?_
                  refine ov_goto (tgt := 53) d_210_49 (by decide) ?_
                  exact ov_retz (st := []) d_210_53 rfl (by omega) ⟨_, rfl, rfl, rfl, (by show (1 = 0 ∨ 1 = 1); omega)⟩
abbrev P_Mo_both (z : ov_Z) (h : ov_H) (c : Int) (a : Int) (b : Int) : Option ov_V → ov_Z → ov_H → Prop := fun r0 z' h' => ∃ r : Int, r0 = some (ov_i r) ∧ z = z' ∧ h = h' ∧ (-2147483648 ≤ r ∧ r ≤ 2147483647)
set_option maxHeartbeats 4000000 in
theorem c_Mo_both {u : ov_U} {z : ov_Z} {h : ov_H} (d : Nat) (hd : 0 ≤ d) (U : ov_cap u) (I : ov_I z h) (c : Int) (a : Int) (b : Int) (g_c : ov_g c) (g_a : ov_g a) (g_b : ov_g b) : ov_T u d ov_m279 [ov_i c, ov_i a, ov_i b] z h (P_Mo_both z h c a b) := by
  refine ov_en rfl (Nat.le_of_ble_eq_true rfl) ?_
  show ov_R u d ov_m279 0 [(0, ov_i c), (1, ov_i a), (2, ov_i b)] [] z h (P_Mo_both z h c a b)
  refine ov_blk (ls2 := [(0, ov_i c), (1, ov_i a), (2, ov_i b)]) (st2 := [ov_i c]) (pc2 := 1) b_279_0_1 rfl rfl ?_
  by_cases q1 : c = 4
  · refine ov_tin (off := 39) (tgt := 40) d_279_1 (by omega) (by omega) (by rw [q1]; rfl) (by decide) ?_
    refine ov_blk (ls2 := [(0, ov_i c), (1, ov_i a), (2, ov_i b)]) (st2 := [ov_i (a + b)]) (pc2 := 43) b_279_40_3 rfl rfl ?_
    refine ov_havw (fun w2 gw2 qw2 => ?_)
    exact ov_reti (st := []) d_279_43 rfl ⟨_, rfl, rfl, rfl, (by show -2147483648 ≤ w2 ∧ w2 ≤ 2147483647; omega)⟩
  by_cases q3 : c = 5
  · refine ov_tin (off := 43) (tgt := 44) d_279_1 (by omega) (by omega) (by rw [q3]; rfl) (by decide) ?_
    refine ov_blk (ls2 := [(0, ov_i c), (1, ov_i a), (2, ov_i b)]) (st2 := [ov_i (a - b)]) (pc2 := 47) b_279_44_3 rfl rfl ?_
    refine ov_havw (fun w4 gw4 qw4 => ?_)
    exact ov_reti (st := []) d_279_47 rfl ⟨_, rfl, rfl, rfl, (by show -2147483648 ≤ w4 ∧ w4 ≤ 2147483647; omega)⟩
  by_cases q5 : c = 6
  · refine ov_tin (off := 47) (tgt := 48) d_279_1 (by omega) (by omega) (by rw [q5]; rfl) (by decide) ?_
    refine ov_blk (ls2 := [(0, ov_i c), (1, ov_i a), (2, ov_i b)]) (st2 := [ov_i (a * b)]) (pc2 := 51) b_279_48_3 rfl rfl ?_
    refine ov_havw (fun w6 gw6 qw6 => ?_)
    exact ov_reti (st := []) d_279_51 rfl ⟨_, rfl, rfl, rfl, (by show -2147483648 ≤ w6 ∧ w6 ≤ 2147483647; omega)⟩
  by_cases q7 : c = 7
  · refine ov_tin (off := 51) (tgt := 52) d_279_1 (by omega) (by omega) (by rw [q7]; rfl) (by decide) ?_
    refine ov_blk (ls2 := [(0, ov_i c), (1, ov_i a), (2, ov_i b)]) (st2 := [ov_i b, ov_i a]) (pc2 := 54) b_279_52_2 rfl rfl ?_
    refine ov_icge (tgt := 61) d_279_54 (by decide) (by omega) (by omega) (fun c8 => ?_) (fun c8 => ?_)
    · skip
      refine ov_blk (ls2 := [(0, ov_i c), (1, ov_i a), (2, ov_i b)]) (st2 := [ov_i 0]) (pc2 := 62) b_279_61_1 rfl rfl ?_
      exact ov_reti (st := []) d_279_62 rfl ⟨_, rfl, rfl, rfl, (by show -2147483648 ≤ 0 ∧ 0 ≤ 2147483647; omega)⟩
    · skip
      refine ov_blk (ls2 := [(0, ov_i c), (1, ov_i a), (2, ov_i b)]) (st2 := [ov_i 1]) (pc2 := 58) b_279_57_1 rfl rfl ?_
      refine ov_goto (tgt := 62) d_279_58 (by decide) ?_
      exact ov_reti (st := []) d_279_62 rfl ⟨_, rfl, rfl, rfl, (by show -2147483648 ≤ 1 ∧ 1 ≤ 2147483647; omega)⟩
  by_cases q9 : c = 8
  · refine ov_tin (off := 62) (tgt := 63) d_279_1 (by omega) (by omega) (by rw [q9]; rfl) (by decide) ?_
    refine ov_blk (ls2 := [(0, ov_i c), (1, ov_i a), (2, ov_i b)]) (st2 := [ov_i b, ov_i a]) (pc2 := 65) b_279_63_2 rfl rfl ?_
    refine ov_icne (tgt := 72) d_279_65 (by decide) (by omega) (by omega) (fun c10 => ?_) (fun c10 => ?_)
    · skip
      refine ov_blk (ls2 := [(0, ov_i c), (1, ov_i a), (2, ov_i b)]) (st2 := [ov_i 0]) (pc2 := 73) b_279_72_1 rfl rfl ?_
      exact ov_reti (st := []) d_279_73 rfl ⟨_, rfl, rfl, rfl, (by show -2147483648 ≤ 0 ∧ 0 ≤ 2147483647; omega)⟩
    · skip
      refine ov_blk (ls2 := [(0, ov_i c), (1, ov_i a), (2, ov_i b)]) (st2 := [ov_i 1]) (pc2 := 69) b_279_68_1 rfl rfl ?_
      refine ov_goto (tgt := 73) d_279_69 (by decide) ?_
      exact ov_reti (st := []) d_279_73 rfl ⟨_, rfl, rfl, rfl, (by show -2147483648 ≤ 1 ∧ 1 ≤ 2147483647; omega)⟩
  by_cases q11 : c = 9
  · refine ov_tin (off := 73) (tgt := 74) d_279_1 (by omega) (by omega) (by rw [q11]; rfl) (by decide) ?_
    refine ov_blk (ls2 := [(0, ov_i c), (1, ov_i a), (2, ov_i b)]) (st2 := [ov_i a]) (pc2 := 75) b_279_74_1 rfl rfl ?_
    refine ov_ifeq (tgt := 86) d_279_75 (by decide) (by omega) (fun c12 => ?_) (fun c12 => ?_)
    · skip
      refine ov_blk (ls2 := [(0, ov_i c), (1, ov_i a), (2, ov_i b)]) (st2 := [ov_i 0]) (pc2 := 87) b_279_86_1 rfl rfl ?_
      exact ov_reti (st := []) d_279_87 rfl ⟨_, rfl, rfl, rfl, (by show -2147483648 ≤ 0 ∧ 0 ≤ 2147483647; omega)⟩
    · skip
      refine ov_blk (ls2 := [(0, ov_i c), (1, ov_i a), (2, ov_i b)]) (st2 := [ov_i b]) (pc2 := 79) b_279_78_1 rfl rfl ?_
      refine ov_ifeq (tgt := 86) d_279_79 (by decide) (by omega) (fun c13 => ?_) (fun c13 => ?_)
      · skip
        refine ov_blk (ls2 := [(0, ov_i c), (1, ov_i a), (2, ov_i b)]) (st2 := [ov_i 0]) (pc2 := 87) b_279_86_1 rfl rfl ?_
        exact ov_reti (st := []) d_279_87 rfl ⟨_, rfl, rfl, rfl, (by show -2147483648 ≤ 0 ∧ 0 ≤ 2147483647; omega)⟩
      · skip
        refine ov_blk (ls2 := [(0, ov_i c), (1, ov_i a), (2, ov_i b)]) (st2 := [ov_i 1]) (pc2 := 83) b_279_82_1 rfl rfl ?_
        refine ov_goto (tgt := 87) d_279_83 (by decide) ?_
        exact ov_reti (st := []) d_279_87 rfl ⟨_, rfl, rfl, rfl, (by show -2147483648 ≤ 1 ∧ 1 ≤ 2147483647; omega)⟩
  refine ov_tout (tgt := 88) d_279_1 (by omega) (by omega) (by decide) ?_
  refine ov_blk (ls2 := [(0, ov_i c), (1, ov_i a), (2, ov_i b)]) (st2 := [ov_i a]) (pc2 := 89) b_279_88_1 rfl rfl ?_
  refine ov_ifne (tgt := 96) d_279_89 (by decide) (by omega) (fun c14 => ?_) (fun c14 => ?_)
  · skip
    refine ov_blk (ls2 := [(0, ov_i c), (1, ov_i a), (2, ov_i b)]) (st2 := [ov_i 1]) (pc2 := 97) b_279_96_1 rfl rfl ?_
    refine ov_goto (tgt := 101) d_279_97 (by decide) ?_
    exact ov_reti (st := []) d_279_101 rfl ⟨_, rfl, rfl, rfl, (by show -2147483648 ≤ 1 ∧ 1 ≤ 2147483647; omega)⟩
  · skip
    refine ov_blk (ls2 := [(0, ov_i c), (1, ov_i a), (2, ov_i b)]) (st2 := [ov_i b]) (pc2 := 93) b_279_92_1 rfl rfl ?_
    refine ov_ifeq (tgt := 100) d_279_93 (by decide) (by omega) (fun c15 => ?_) (fun c15 => ?_)
    · skip
      refine ov_blk (ls2 := [(0, ov_i c), (1, ov_i a), (2, ov_i b)]) (st2 := [ov_i 0]) (pc2 := 101) b_279_100_1 rfl rfl ?_
      exact ov_reti (st := []) d_279_101 rfl ⟨_, rfl, rfl, rfl, (by show -2147483648 ≤ 0 ∧ 0 ≤ 2147483647; omega)⟩
    · skip
      refine ov_blk (ls2 := [(0, ov_i c), (1, ov_i a), (2, ov_i b)]) (st2 := [ov_i 1]) (pc2 := 97) b_279_96_1 rfl rfl ?_
      refine ov_goto (tgt := 101) d_279_97 (by decide) ?_
      exact ov_reti (st := []) d_279_101 rfl ⟨_, rfl, rfl, rfl, (by show -2147483648 ≤ 1 ∧ 1 ≤ 2147483647; omega)⟩
abbrev P_Mo_ones (z : ov_Z) (h : ov_H) (w : Int) : Option ov_V → ov_Z → ov_H → Prop := fun r0 z' h' => ∃ r : Int, r0 = some (ov_i r) ∧ z = z' ∧ h = h' ∧ (-2147483648 ≤ r ∧ r ≤ 2147483647)
set_option maxHeartbeats 4000000 in
theorem c_Mo_ones {u : ov_U} {z : ov_Z} {h : ov_H} (d : Nat) (hd : 0 ≤ d) (U : ov_cap u) (I : ov_I z h) (w : Int) : ov_T u d ov_m300 [ov_l w] z h (P_Mo_ones z h w) := by
  refine ov_en rfl (Nat.le_of_ble_eq_true rfl) ?_
  show ov_R u d ov_m300 0 [(0, ov_l w)] [] z h (P_Mo_ones z h w)
  refine ov_blk (ls2 := [(0, ov_l w), (2, ov_i 0), (3, ov_i 0)]) (st2 := []) (pc2 := 4) b_300_0_4 rfl rfl ?_
  have L4 : ∀ (n1 : Nat) (x2 : Int) (x3 : Int) (q3 : ov_g x2 ∧ 0 ≤ x3 ∧ x3 ≤ 60), 60 - x3 < (n1 : Int) → ov_R u d ov_m300 4 [(0, ov_l w), (2, ov_i x2), (3, ov_i x3)] [] z h (P_Mo_ones z h w) := by
    intro n1
    induction n1 with
    | zero =>
      intro x2 x3 q3 hn5
      exact absurd hn5 (by omega)
    | succ n1 ih2 =>
      intro x2 x3 q3 hn5
      refine ov_blk (ls2 := [(0, ov_l w), (2, ov_i x2), (3, ov_i x3)]) (st2 := [ov_i 60, ov_i x3]) (pc2 := 7) b_300_4_2 rfl rfl ?_
      refine ov_icge (tgt := 25) d_300_7 (by decide) (by omega) (by omega) (fun c6 => ?_) (fun c6 => ?_)
      · skip
        refine ov_blk (ls2 := [(0, ov_l w), (2, ov_i x2), (3, ov_i x3)]) (st2 := [ov_i x2]) (pc2 := 26) b_300_25_1 rfl rfl ?_
        exact ov_reti (st := []) d_300_26 rfl ⟨_, rfl, rfl, rfl, (by show -2147483648 ≤ x2 ∧ x2 ≤ 2147483647; omega)⟩
      · skip
        refine ov_blk (ls2 := [(0, ov_l w), (2, ov_i x2), (3, ov_i x3)]) (st2 := [ov_i (ov_land (ov_lshr w x3) 1), ov_i x2]) (pc2 := 17) b_300_10_7 rfl rfl ?_
        refine ov_havw (fun w7 gw7 qw7 => ?_)
        refine ov_blk (ls2 := [(0, ov_l w), (2, ov_i x2), (3, ov_i x3)]) (st2 := [ov_i (x2 + w7)]) (pc2 := 18) b_300_17_1 rfl rfl ?_
        refine ov_havw (fun w8 gw8 qw8 => ?_)
        refine ov_blk (ls2 := [(0, ov_l w), (2, ov_i w8), (3, ov_i (x3 + 1))]) (st2 := []) (pc2 := 22) b_300_18_2 rfl rfl ?_
        refine ov_goto (tgt := 4) d_300_22 (by decide) ?_
        exact ih2 w8 (x3 + 1) (by show ov_g w8 ∧ 0 ≤ (x3 + 1) ∧ (x3 + 1) ≤ 60; omega) (by omega)
  exact L4 61 0 0 (by show ov_g 0 ∧ 0 ≤ 0 ∧ 0 ≤ 60; omega) (by omega)
abbrev P_Mo_turned (z : ov_Z) (h : ov_H) (f : Int) (n : Int) (rd : Int) : Option ov_V → ov_Z → ov_H → Prop := fun r0 z' h' => ∃ r : Int, r0 = some (ov_l r) ∧ z = z' ∧ h = h' ∧ (True)
set_option maxHeartbeats 4000000 in
theorem c_Mo_turned {u : ov_U} {z : ov_Z} {h : ov_H} (d : Nat) (hd : 0 ≤ d) (U : ov_cap u) (I : ov_I z h) (f : Int) (n : Int) (rd : Int) (g_f : ov_g f) (g_n : ov_g n) (g_rd : ov_g rd) (p0 : 1 ≤ rd ∧ rd ≤ 60) (p1 : n ≤ 60) : ov_T u d ov_m298 [ov_i f, ov_i n, ov_i rd] z h (P_Mo_turned z h f n rd) := by
  refine ov_en rfl (Nat.le_of_ble_eq_true rfl) ?_
  show ov_R u d ov_m298 0 [(0, ov_i f), (1, ov_i n), (2, ov_i rd)] [] z h (P_Mo_turned z h f n rd)
  refine ov_blk (ls2 := [(0, ov_i f), (1, ov_i n), (2, ov_i rd), (3, ov_l 0), (5, ov_i 0)]) (st2 := []) (pc2 := 5) b_298_0_4 rfl rfl ?_
  have L4 : ∀ (n1 : Nat) (x3 : Int) (x5 : Int) (q3 : 0 ≤ x5 ∧ x5 ≤ 60), 60 - x5 < (n1 : Int) → ov_R u d ov_m298 5 [(0, ov_i f), (1, ov_i n), (2, ov_i rd), (3, ov_l x3), (5, ov_i x5)] [] z h (P_Mo_turned z h f n rd) := by
    intro n1
    induction n1 with
    | zero =>
      intro x3 x5 q3 hn5
      exact absurd hn5 (by omega)
    | succ n1 ih2 =>
      intro x3 x5 q3 hn5
      refine ov_blk (ls2 := [(0, ov_i f), (1, ov_i n), (2, ov_i rd), (3, ov_l x3), (5, ov_i x5)]) (st2 := [ov_i n, ov_i x5]) (pc2 := 8) b_298_5_2 rfl rfl ?_
      refine ov_icge (tgt := 32) d_298_8 (by decide) (by omega) (by omega) (fun c6 => ?_) (fun c6 => ?_)
      · skip
        refine ov_blk (ls2 := [(0, ov_i f), (1, ov_i n), (2, ov_i rd), (3, ov_l x3), (5, ov_i x5)]) (st2 := [ov_l x3]) (pc2 := 33) b_298_32_1 rfl rfl ?_
        exact ov_retl (st := []) d_298_33 rfl ⟨_, rfl, rfl, rfl, trivial⟩
      · skip
        refine ov_blk (ls2 := [(0, ov_i f), (1, ov_i n), (2, ov_i rd), (3, ov_l x3), (5, ov_i x5)]) (st2 := [ov_i (f + x5), ov_l 1, ov_l x3]) (pc2 := 17) b_298_11_5 rfl rfl ?_
        refine ov_havw (fun w7 gw7 qw7 => ?_)
        refine ov_blk (ls2 := [(0, ov_i f), (1, ov_i n), (2, ov_i rd), (3, ov_l x3), (5, ov_i x5)]) (st2 := [ov_i rd, ov_i w7, ov_l 1, ov_l x3]) (pc2 := 18) b_298_17_1 rfl rfl ?_
        refine ov_irem d_298_18 (by omega) (by omega) (by omega) ?_
        have g8 := ov_tmg (a := w7) (b := rd) (by omega) (by omega)
        refine ov_blk (ls2 := [(0, ov_i f), (1, ov_i n), (2, ov_i rd), (3, ov_l x3), (5, ov_i x5)]) (st2 := [ov_i ((Int.tmod w7 rd) + rd), ov_l 1, ov_l x3]) (pc2 := 21) b_298_19_2 rfl rfl ?_
        refine ov_havw (fun w9 gw9 qw9 => ?_)
        refine ov_blk (ls2 := [(0, ov_i f), (1, ov_i n), (2, ov_i rd), (3, ov_l x3), (5, ov_i x5)]) (st2 := [ov_i rd, ov_i w9, ov_l 1, ov_l x3]) (pc2 := 22) b_298_21_1 rfl rfl ?_
        refine ov_irem d_298_22 (by omega) (by omega) (by omega) ?_
        have g10 := ov_tmg (a := w9) (b := rd) (by omega) (by omega)
        refine ov_blk (ls2 := [(0, ov_i f), (1, ov_i n), (2, ov_i rd), (3, ov_l (ov_lor x3 (ov_lshl 1 (Int.tmod w9 rd)))), (5, ov_i (x5 + 1))]) (st2 := []) (pc2 := 29) b_298_23_4 rfl rfl ?_
        refine ov_goto (tgt := 5) d_298_29 (by decide) ?_
        exact ih2 (ov_lor x3 (ov_lshl 1 (Int.tmod w9 rd))) (x5 + 1) (by show 0 ≤ (x5 + 1) ∧ (x5 + 1) ≤ 60; omega) (by omega)
  exact L4 61 0 0 (by show 0 ≤ 0 ∧ 0 ≤ 60; omega) (by omega)
abbrev P_Mo_isSecond_90 (z : ov_Z) (h : ov_H) (s : Int) : Option ov_V → ov_Z → ov_H → Prop := fun r0 z' h' => ∃ r : Int, r0 = some (ov_i r) ∧ z = z' ∧ h = h' ∧ ((r = 0 ∨ r = 1) ∧ (r = 1 → 0 ≤ s ∧ s ≤ 1000000))
set_option maxHeartbeats 4000000 in
theorem c_Mo_isSecond_90 {u : ov_U} {z : ov_Z} {h : ov_H} (d : Nat) (hd : 1 ≤ d) (U : ov_cap u) (I : ov_I z h) (s : Int) (g_s : ov_g s) : ov_T u d ov_m247 [ov_r 90, ov_i s] z h (P_Mo_isSecond_90 z h s) := by
  refine ov_en rfl (Nat.le_of_ble_eq_true rfl) ?_
  show ov_R u d ov_m247 0 [(0, ov_r 90), (1, ov_i s)] [] z h (P_Mo_isSecond_90 z h s)
  refine ov_blk (ls2 := [(0, ov_r 90), (1, ov_i s)]) (st2 := [ov_i 0, ov_i s]) (pc2 := 2) b_247_0_2 rfl rfl ?_
  refine ov_ldcw (n := 1000000) d_247_2 kc_Mo_305 ?_
  refine ov_cS (as := [ov_i s, ov_i 0, ov_i 1000000]) (st := []) (d2 := d - 1) d_247_5 lk_Mo_299 rfl (Nat.le_of_ble_eq_true rfl) (by omega) (c_Mo_within (d - 1) (by omega) U I s 0 1000000 (by omega) (by omega) (by omega)) ?_
  rintro _ _ _ ⟨v2, rfl, rfl, rfl, f1⟩
  show ov_R u d ov_m247 8 [(0, ov_r 90), (1, ov_i s)] [ov_i v2] z h (P_Mo_isSecond_90 z h s)
  have f3 : (v2 = 0 ∨ v2 = 1) ∧ (v2 = 1 → (0 : Int) ≤ s ∧ s ≤ (1000000 : Int)) ∧ (v2 = 0 → s < (0 : Int) ∨ (1000000 : Int) < s) := f1
  clear f1
  exact ov_retz (st := []) d_247_8 rfl (by omega) ⟨_, rfl, rfl, rfl, (by show (v2 = 0 ∨ v2 = 1) ∧ (v2 = 1 → 0 ≤ s ∧ s ≤ 1000000); omega)⟩

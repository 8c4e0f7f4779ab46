theorem b_97_0_1 : ov_ds ov_m97.2.1 0 [.iload_n 0] = true := by decide +kernel
theorem d_97_1 : decode ov_m97.2.1 1 = .ok (.ifCond .lt 14, 3) := by decide +kernel
theorem b_97_15_1 : ov_ds ov_m97.2.1 15 [.iconst 0] = true := by decide +kernel
theorem d_97_16 : decode ov_m97.2.1 16 = .ok (.ireturn, 1) := by decide +kernel
theorem b_97_4_1 : ov_ds ov_m97.2.1 4 [.iload_n 0] = true := by decide +kernel
theorem d_97_5 : decode ov_m97.2.1 5 = .ok (.ldc_w 349, 3) := by decide +kernel
theorem d_97_8 : decode ov_m97.2.1 8 = .ok (.if_icmp .gt 7, 3) := by decide +kernel
theorem b_97_11_1 : ov_ds ov_m97.2.1 11 [.iconst 1] = true := by decide +kernel
theorem d_97_12 : decode ov_m97.2.1 12 = .ok (.goto 4, 3) := by decide +kernel
theorem b_118_0_2 : ov_ds ov_m118.2.1 0 [.iload_n 0, .iconst (-1)] = true := by decide +kernel
theorem d_118_2 : decode ov_m118.2.1 2 = .ok (.if_icmp .eq 13, 3) := by decide +kernel
theorem b_118_15_1 : ov_ds ov_m118.2.1 15 [.iload_n 1] = true := by decide +kernel
theorem d_118_16 : decode ov_m118.2.1 16 = .ok (.goto 4, 3) := by decide +kernel
theorem d_118_20 : decode ov_m118.2.1 20 = .ok (.ireturn, 1) := by decide +kernel
theorem b_118_5_2 : ov_ds ov_m118.2.1 5 [.iload_n 1, .iconst (-1)] = true := by decide +kernel
theorem d_118_7 : decode ov_m118.2.1 7 = .ok (.if_icmp .eq 12, 3) := by decide +kernel
theorem b_118_19_1 : ov_ds ov_m118.2.1 19 [.iload_n 0] = true := by decide +kernel
theorem b_118_10_2 : ov_ds ov_m118.2.1 10 [.iload_n 1, .iload_n 0] = true := by decide +kernel
theorem d_118_12 : decode ov_m118.2.1 12 = .ok (.if_icmp .ge 7, 3) := by decide +kernel
theorem b_166_0_1 : ov_ds ov_m166.2.1 0 [.iload_n 1] = true := by decide +kernel
theorem d_166_1 : decode ov_m166.2.1 1 = .ok (.ifCond .le 11, 3) := by decide +kernel
theorem b_166_12_1 : ov_ds ov_m166.2.1 12 [.iconst 0] = true := by decide +kernel
theorem d_166_13 : decode ov_m166.2.1 13 = .ok (.ireturn, 1) := by decide +kernel
theorem b_166_4_2 : ov_ds ov_m166.2.1 4 [.iload_n 0, .iload_n 1] = true := by decide +kernel
theorem d_166_6 : decode ov_m166.2.1 6 = .ok (.invokestatic 350, 3) := by decide +kernel
theorem d_166_9 : decode ov_m166.2.1 9 = .ok (.goto 4, 3) := by decide +kernel
theorem b_62_0_6 : ov_ds ov_m62.2.1 0 [.lload_n 0, .lstore 4, .lload_n 2, .lstore 6, .iconst 0, .istore 8] = true := by decide +kernel
theorem b_62_9_2 : ov_ds ov_m62.2.1 9 [.iload 8, .bipush 100] = true := by decide +kernel
theorem d_62_13 : decode ov_m62.2.1 13 = .ok (.if_icmp .ge 31, 3) := by decide +kernel
theorem b_62_44_1 : ov_ds ov_m62.2.1 44 [.lload 4] = true := by decide +kernel
theorem d_62_46 : decode ov_m62.2.1 46 = .ok (.lreturn, 1) := by decide +kernel
theorem b_62_16_3 : ov_ds ov_m62.2.1 16 [.lload 6, .lconst 0, .lcmp] = true := by decide +kernel
theorem d_62_20 : decode ov_m62.2.1 20 = .ok (.ifCond .eq 24, 3) := by decide +kernel
theorem b_62_23_2 : ov_ds ov_m62.2.1 23 [.lload 4, .lload 6] = true := by decide +kernel
theorem d_62_27 : decode ov_m62.2.1 27 = .ok (.lrem, 1) := by decide +kernel
theorem b_62_28_6 : ov_ds ov_m62.2.1 28 [.lstore 9, .lload 6, .lstore 4, .lload 9, .lstore 6, .iinc 8 1] = true := by decide +kernel
theorem d_62_41 : decode ov_m62.2.1 41 = .ok (.goto (-32), 3) := by decide +kernel
theorem b_61_0_4 : ov_ds ov_m61.2.1 0 [.iload_n 0, .i2l, .iload_n 1, .i2l] = true := by decide +kernel
theorem d_61_4 : decode ov_m61.2.1 4 = .ok (.invokestatic 355, 3) := by decide +kernel
theorem b_61_7_4 : ov_ds ov_m61.2.1 7 [.lstore_n 2, .lload_n 2, .lconst 0, .lcmp] = true := by decide +kernel
theorem d_61_11 : decode ov_m61.2.1 11 = .ok (.ifCond .le 14, 3) := by decide +kernel
theorem b_61_25_1 : ov_ds ov_m61.2.1 25 [.iconst 0] = true := by decide +kernel
theorem d_61_26 : decode ov_m61.2.1 26 = .ok (.ireturn, 1) := by decide +kernel
theorem b_61_14_3 : ov_ds ov_m61.2.1 14 [.iload_n 0, .i2l, .lload_n 2] = true := by decide +kernel
theorem d_61_17 : decode ov_m61.2.1 17 = .ok (.ldiv, 1) := by decide +kernel
theorem b_61_18_3 : ov_ds ov_m61.2.1 18 [.iload_n 1, .i2l, .lmul] = true := by decide +kernel
theorem b_61_21_1 : ov_ds ov_m61.2.1 21 [.l2i] = true := by decide +kernel
theorem d_61_22 : decode ov_m61.2.1 22 = .ok (.goto 4, 3) := by decide +kernel
abbrev P_OF_isSecond (F : ov_H) (z : ov_Z) (h : ov_H) (a : Int) : Option ov_V → ov_Z → ov_H → Prop := fun r0 z' h' => ∃ r : Int, r0 = some (ov_i r) ∧ z = z' ∧ h = h' ∧ ((r = 0 ∨ r = 1) ∧ (r = 1 → 0 ≤ a ∧ a ≤ 1000000))
set_option maxHeartbeats 4000000 in
theorem c_OF_isSecond {u : ov_U} {F : ov_H} {z : ov_Z} {h : ov_H} (d : Nat) (hd : 0 ≤ d) (U : ov_cap u) (I : ov_I F z h) (a : Int) (g_a : ov_g a) : ov_T u d ov_m97 [ov_i a] z h (P_OF_isSecond F z h a) := by
  refine ov_en rfl (Nat.le_of_ble_eq_true rfl) ?_
  show ov_R u d ov_m97 0 [(0, ov_i a)] [] z h (P_OF_isSecond F z h a)
  refine ov_blk (ls2 := [(0, ov_i a)]) (st2 := [ov_i a]) (pc2 := 1) b_97_0_1 rfl rfl ?_
  refine ov_iflt (tgt := 15) d_97_1 (by decide) (by omega) (fun c1 => ?_) (fun c1 => ?_)
  · skip
    refine ov_blk (ls2 := [(0, ov_i a)]) (st2 := [ov_i 0]) (pc2 := 16) b_97_15_1 rfl rfl ?_
    exact ov_retz (st := []) d_97_16 rfl (by omega) ⟨_, rfl, rfl, rfl, (by show (0 = 0 ∨ 0 = 1) ∧ (0 = 1 → 0 ≤ a ∧ a ≤ 1000000); omega)⟩
  · skip
    refine ov_blk (ls2 := [(0, ov_i a)]) (st2 := [ov_i a]) (pc2 := 5) b_97_4_1 rfl rfl ?_
    refine ov_ldcw (n := 1000000) d_97_5 kc_OF_349 ?_
    refine ov_icgt (tgt := 15) d_97_8 (by decide) (by omega) (by omega) (fun c2 => ?_) (fun c2 => ?_)
    · skip
      refine ov_blk (ls2 := [(0, ov_i a)]) (st2 := [ov_i 0]) (pc2 := 16) b_97_15_1 rfl rfl ?_
      exact ov_retz (st := []) d_97_16 rfl (by omega) ⟨_, rfl, rfl, rfl, (by show (0 = 0 ∨ 0 = 1) ∧ (0 = 1 → 0 ≤ a ∧ a ≤ 1000000); omega)⟩
    · skip
      refine ov_blk (ls2 := [(0, ov_i a)]) (st2 := [ov_i 1]) (pc2 := 12) b_97_11_1 rfl rfl ?_
      refine ov_goto (tgt := 16) d_97_12 (by decide) ?_
      exact ov_retz (st := []) d_97_16 rfl (by omega) ⟨_, rfl, rfl, rfl, (by show (1 = 0 ∨ 1 = 1) ∧ (1 = 1 → 0 ≤ a ∧ a ≤ 1000000); omega)⟩
abbrev P_OF_lesser (F : ov_H) (z : ov_Z) (h : ov_H) (a : Int) (b : Int) : Option ov_V → ov_Z → ov_H → Prop := fun r0 z' h' => ∃ r : Int, r0 = some (ov_i r) ∧ z = z' ∧ h = h' ∧ ((r = a ∨ r = b))
set_option maxHeartbeats 4000000 in
theorem c_OF_lesser {u : ov_U} {F : ov_H} {z : ov_Z} {h : ov_H} (d : Nat) (hd : 0 ≤ d) (U : ov_cap u) (I : ov_I F z h) (a : Int) (b : Int) (g_a : ov_g a) (g_b : ov_g b) : ov_T u d ov_m118 [ov_i a, ov_i b] z h (P_OF_lesser F z h a b) := by
  refine ov_en rfl (Nat.le_of_ble_eq_true rfl) ?_
  show ov_R u d ov_m118 0 [(0, ov_i a), (1, ov_i b)] [] z h (P_OF_lesser F z h a b)
  refine ov_blk (ls2 := [(0, ov_i a), (1, ov_i b)]) (st2 := [ov_i (-1), ov_i a]) (pc2 := 2) b_118_0_2 rfl rfl ?_
  refine ov_iceq (tgt := 15) d_118_2 (by decide) (by omega) (by omega) (fun c1 => ?_) (fun c1 => ?_)
  · skip
    refine ov_blk (ls2 := [(0, ov_i a), (1, ov_i b)]) (st2 := [ov_i b]) (pc2 := 16) b_118_15_1 rfl rfl ?_
    refine ov_goto (tgt := 20) d_118_16 (by decide) ?_
    exact ov_reti (st := []) d_118_20 rfl ⟨_, rfl, rfl, rfl, (by show (b = a ∨ b = b); omega)⟩
  · skip
    refine ov_blk (ls2 := [(0, ov_i a), (1, ov_i b)]) (st2 := [ov_i (-1), ov_i b]) (pc2 := 7) b_118_5_2 rfl rfl ?_
    refine ov_iceq (tgt := 19) d_118_7 (by decide) (by omega) (by omega) (fun c2 => ?_) (fun c2 => ?_)
    · skip
      refine ov_blk (ls2 := [(0, ov_i a), (1, ov_i b)]) (st2 := [ov_i a]) (pc2 := 20) b_118_19_1 rfl rfl ?_
      exact ov_reti (st := []) d_118_20 rfl ⟨_, rfl, rfl, rfl, (by show (a = a ∨ a = b); omega)⟩
    · skip
      refine ov_blk (ls2 := [(0, ov_i a), (1, ov_i b)]) (st2 := [ov_i a, ov_i b]) (pc2 := 12) b_118_10_2 rfl rfl ?_
      refine ov_icge (tgt := 19) d_118_12 (by decide) (by omega) (by omega) (fun c3 => ?_) (fun c3 => ?_)
      · skip
        refine ov_blk (ls2 := [(0, ov_i a), (1, ov_i b)]) (st2 := [ov_i a]) (pc2 := 20) b_118_19_1 rfl rfl ?_
        exact ov_reti (st := []) d_118_20 rfl ⟨_, rfl, rfl, rfl, (by show (a = a ∨ a = b); omega)⟩
      · skip
        refine ov_blk (ls2 := [(0, ov_i a), (1, ov_i b)]) (st2 := [ov_i b]) (pc2 := 16) b_118_15_1 rfl rfl ?_
        refine ov_goto (tgt := 20) d_118_16 (by decide) ?_
        exact ov_reti (st := []) d_118_20 rfl ⟨_, rfl, rfl, rfl, (by show (b = a ∨ b = b); omega)⟩
abbrev P_OF_modulo (F : ov_H) (z : ov_Z) (h : ov_H) (a : Int) (b : Int) : Option ov_V → ov_Z → ov_H → Prop := fun r0 z' h' => ∃ r : Int, r0 = some (ov_i r) ∧ z = z' ∧ h = h' ∧ ((0 < b → 0 ≤ r ∧ r < b) ∧ (b ≤ 0 → r = 0))
set_option maxHeartbeats 4000000 in
theorem c_OF_modulo {u : ov_U} {F : ov_H} {z : ov_Z} {h : ov_H} (d : Nat) (hd : 1 ≤ d) (U : ov_cap u) (I : ov_I F z h) (a : Int) (b : Int) (g_a : ov_g a) (g_b : ov_g b) : ov_T u d ov_m166 [ov_i a, ov_i b] z h (P_OF_modulo F z h a b) := by
  refine ov_en rfl (Nat.le_of_ble_eq_true rfl) ?_
  show ov_R u d ov_m166 0 [(0, ov_i a), (1, ov_i b)] [] z h (P_OF_modulo F z h a b)
  refine ov_blk (ls2 := [(0, ov_i a), (1, ov_i b)]) (st2 := [ov_i b]) (pc2 := 1) b_166_0_1 rfl rfl ?_
  refine ov_ifle (tgt := 12) d_166_1 (by decide) (by omega) (fun c1 => ?_) (fun c1 => ?_)
  · skip
    refine ov_blk (ls2 := [(0, ov_i a), (1, ov_i b)]) (st2 := [ov_i 0]) (pc2 := 13) b_166_12_1 rfl rfl ?_
    exact ov_reti (st := []) d_166_13 rfl ⟨_, rfl, rfl, rfl, (by show (0 < b → 0 ≤ 0 ∧ 0 < b) ∧ (b ≤ 0 → 0 = 0); omega)⟩
  · skip
    refine ov_blk (ls2 := [(0, ov_i a), (1, ov_i b)]) (st2 := [ov_i b, ov_i a]) (pc2 := 6) b_166_4_2 rfl rfl ?_
    refine ov_cS (as := [ov_i a, ov_i b]) (st := []) (d2 := d - 1) d_166_6 lk_OF_350 rfl (Nat.le_of_ble_eq_true rfl) (by omega) (c_Math_floorMod_III (d - 1) (by omega) U I a b (by omega) (by omega) (by omega)) ?_
    rintro _ _ _ ⟨v3, rfl, rfl, rfl, f2⟩
    show ov_R u d ov_m166 9 [(0, ov_i a), (1, ov_i b)] [ov_i v3] z h (P_OF_modulo F z h a b)
    have f4 : 0 ≤ v3 ∧ v3 < b := f2
    clear f2
    refine ov_goto (tgt := 13) d_166_9 (by decide) ?_
    exact ov_reti (st := []) d_166_13 rfl ⟨_, rfl, rfl, rfl, (by show (0 < b → 0 ≤ v3 ∧ v3 < b) ∧ (b ≤ 0 → v3 = 0); omega)⟩
abbrev P_OF_commonDivisor (F : ov_H) (z : ov_Z) (h : ov_H) (a : Int) (b : Int) : Option ov_V → ov_Z → ov_H → Prop := fun r0 z' h' => ∃ r : Int, r0 = some (ov_l r) ∧ z = z' ∧ h = h' ∧ ((ov_gl r) ∧ (0 ≤ a → 0 ≤ b → 0 ≤ r))
set_option maxHeartbeats 4000000 in
theorem c_OF_commonDivisor {u : ov_U} {F : ov_H} {z : ov_Z} {h : ov_H} (d : Nat) (hd : 0 ≤ d) (U : ov_cap u) (I : ov_I F z h) (a : Int) (b : Int) (p0 : ov_gl a) (p1 : ov_gl b) : ov_T u d ov_m62 [ov_l a, ov_l b] z h (P_OF_commonDivisor F z h a b) := by
  refine ov_en rfl (Nat.le_of_ble_eq_true rfl) ?_
  show ov_R u d ov_m62 0 [(0, ov_l a), (2, ov_l b)] [] z h (P_OF_commonDivisor F z h a b)
  refine ov_blk (ls2 := [(0, ov_l a), (2, ov_l b), (4, ov_l a), (6, ov_l b), (8, ov_i 0)]) (st2 := []) (pc2 := 9) b_62_0_6 rfl rfl ?_
  have L4 : ∀ (n1 : Nat) (x4 : Int) (x6 : Int) (x8 : Int) (q3 : (ov_gl x4) ∧ (ov_gl x6) ∧ 0 ≤ x8 ∧ x8 ≤ 100 ∧ (0 ≤ a → 0 ≤ b → 0 ≤ x4 ∧ 0 ≤ x6)), 100 - x8 < (n1 : Int) → ov_R u d ov_m62 9 [(0, ov_l a), (2, ov_l b), (4, ov_l x4), (6, ov_l x6), (8, ov_i x8)] [] z h (P_OF_commonDivisor F z h a b) := by
    intro n1
    induction n1 with
    | zero =>
      intro x4 x6 x8 q3 hn5
      exact absurd hn5 (by omega)
    | succ n1 ih2 =>
      intro x4 x6 x8 q3 hn5
      refine ov_blk (ls2 := [(0, ov_l a), (2, ov_l b), (4, ov_l x4), (6, ov_l x6), (8, ov_i x8)]) (st2 := [ov_i 100, ov_i x8]) (pc2 := 13) b_62_9_2 rfl rfl ?_
      refine ov_icge (tgt := 44) d_62_13 (by decide) (by omega) (by omega) (fun c6 => ?_) (fun c6 => ?_)
      · skip
        refine ov_blk (ls2 := [(0, ov_l a), (2, ov_l b), (4, ov_l x4), (6, ov_l x6), (8, ov_i x8)]) (st2 := [ov_l x4]) (pc2 := 46) b_62_44_1 rfl rfl ?_
        exact ov_retl (st := []) d_62_46 rfl ⟨_, rfl, rfl, rfl, (by show (ov_gl x4) ∧ (0 ≤ a → 0 ≤ b → 0 ≤ x4); omega)⟩
      · skip
        refine ov_blk (ls2 := [(0, ov_l a), (2, ov_l b), (4, ov_l x4), (6, ov_l x6), (8, ov_i x8)]) (st2 := [ov_i (ov_lcmp x6 0)]) (pc2 := 20) b_62_16_3 rfl rfl ?_
        have g7 := ov_lcg x6 0
        have g8 := ov_lcs (a := x6) (b := 0) (by omega) (by omega)
        refine ov_ifeq (tgt := 44) d_62_20 (by decide) (by omega) (fun c9 => ?_) (fun c9 => ?_)
        · skip
          refine ov_blk (ls2 := [(0, ov_l a), (2, ov_l b), (4, ov_l x4), (6, ov_l x6), (8, ov_i x8)]) (st2 := [ov_l x4]) (pc2 := 46) b_62_44_1 rfl rfl ?_
          exact ov_retl (st := []) d_62_46 rfl ⟨_, rfl, rfl, rfl, (by show (ov_gl x4) ∧ (0 ≤ a → 0 ≤ b → 0 ≤ x4); omega)⟩
        · skip
          refine ov_blk (ls2 := [(0, ov_l a), (2, ov_l b), (4, ov_l x4), (6, ov_l x6), (8, ov_i x8)]) (st2 := [ov_l x6, ov_l x4]) (pc2 := 27) b_62_23_2 rfl rfl ?_
          refine ov_lrem d_62_27 (by omega) (by omega) (by omega) ?_
          have fl := ov_tmgl (a := x4) (b := x6) (by omega) (by omega) (by omega)
          refine ov_blk (ls2 := [(0, ov_l a), (2, ov_l b), (4, ov_l x6), (6, ov_l (Int.tmod x4 x6)), (8, ov_i (x8 + 1)), (9, ov_l (Int.tmod x4 x6))]) (st2 := []) (pc2 := 41) b_62_28_6 rfl rfl ?_
          refine ov_goto (tgt := 9) d_62_41 (by decide) ?_
          refine ov_sub (ls2 := [(0, ov_l a), (2, ov_l b), (4, ov_l x6), (6, ov_l (Int.tmod x4 x6)), (8, ov_i (x8 + 1))]) (List.Sublist.subset (by repeat (first | exact List.Sublist.refl _ | apply List.Sublist.cons_cons | apply List.Sublist.cons))) ?_
          exact ih2 x6 (Int.tmod x4 x6) (x8 + 1) (by show (ov_gl x6) ∧ (ov_gl (Int.tmod x4 x6)) ∧ 0 ≤ (x8 + 1) ∧ (x8 + 1) ≤ 100 ∧ (0 ≤ a → 0 ≤ b → 0 ≤ x6 ∧ 0 ≤ (Int.tmod x4 x6)); omega) (by omega)
  exact L4 101 a b 0 (by show (ov_gl a) ∧ (ov_gl b) ∧ 0 ≤ 0 ∧ 0 ≤ 100 ∧ (0 ≤ a → 0 ≤ b → 0 ≤ a ∧ 0 ≤ b); omega) (by omega)
abbrev P_OF_commonMultiple (F : ov_H) (z : ov_Z) (h : ov_H) (a : Int) (b : Int) : Option ov_V → ov_Z → ov_H → Prop := fun r0 z' h' => ∃ r : Int, r0 = some (ov_i r) ∧ z = z' ∧ h = h' ∧ (-2147483648 ≤ r ∧ r ≤ 2147483647 ∧ (0 ≤ a → a ≤ 1200 → 0 ≤ b → b ≤ 60 → 0 ≤ r ∧ r ≤ 72000))
set_option maxHeartbeats 4000000 in
theorem c_OF_commonMultiple {u : ov_U} {F : ov_H} {z : ov_Z} {h : ov_H} (d : Nat) (hd : 1 ≤ d) (U : ov_cap u) (I : ov_I F z h) (a : Int) (b : Int) (g_a : ov_g a) (g_b : ov_g b) : ov_T u d ov_m61 [ov_i a, ov_i b] z h (P_OF_commonMultiple F z h a b) := by
  refine ov_en rfl (Nat.le_of_ble_eq_true rfl) ?_
  show ov_R u d ov_m61 0 [(0, ov_i a), (1, ov_i b)] [] z h (P_OF_commonMultiple F z h a b)
  refine ov_blk (ls2 := [(0, ov_i a), (1, ov_i b)]) (st2 := [ov_l (ov_w b), ov_l (ov_w a)]) (pc2 := 4) b_61_0_4 rfl rfl ?_
  have g1 := ov_wg a
  have g2 := ov_wq a
  have g3 := ov_wg b
  have g4 := ov_wq b
  refine ov_cS (as := [ov_l (ov_w a), ov_l (ov_w b)]) (st := []) (d2 := d - 1) d_61_4 lk_OF_355 rfl (Nat.le_of_ble_eq_true rfl) (by omega) (c_OF_commonDivisor (d - 1) (by omega) U I (ov_w a) (ov_w b) (by omega) (by omega)) ?_
  rintro _ _ _ ⟨v6, rfl, rfl, rfl, f5⟩
  show ov_R u d ov_m61 7 [(0, ov_i a), (1, ov_i b)] [ov_l v6] z h (P_OF_commonMultiple F z h a b)
  have f7 : (ov_gl v6) ∧ (0 ≤ (ov_w a) → 0 ≤ (ov_w b) → 0 ≤ v6) := f5
  clear f5
  refine ov_blk (ls2 := [(0, ov_i a), (1, ov_i b), (2, ov_l v6)]) (st2 := [ov_i (ov_lcmp v6 0)]) (pc2 := 11) b_61_7_4 rfl rfl ?_
  have g8 := ov_lcg v6 0
  have g9 := ov_lcs (a := v6) (b := 0) (by omega) (by omega)
  refine ov_ifle (tgt := 25) d_61_11 (by decide) (by omega) (fun c10 => ?_) (fun c10 => ?_)
  · skip
    refine ov_blk (ls2 := [(0, ov_i a), (1, ov_i b), (2, ov_l v6)]) (st2 := [ov_i 0]) (pc2 := 26) b_61_25_1 rfl rfl ?_
    exact ov_reti (st := []) d_61_26 rfl ⟨_, rfl, rfl, rfl, (by show -2147483648 ≤ 0 ∧ 0 ≤ 2147483647 ∧ (0 ≤ a → a ≤ 1200 → 0 ≤ b → b ≤ 60 → 0 ≤ 0 ∧ 0 ≤ 72000); omega)⟩
  · skip
    refine ov_blk (ls2 := [(0, ov_i a), (1, ov_i b), (2, ov_l v6)]) (st2 := [ov_l v6, ov_l (ov_w a)]) (pc2 := 17) b_61_14_3 rfl rfl ?_
    have g11 := ov_wg a
    have g12 := ov_wq a
    refine ov_ldiv d_61_17 (by omega) (by omega) (by omega) ?_
    refine ov_blk (ls2 := [(0, ov_i a), (1, ov_i b), (2, ov_l v6)]) (st2 := [ov_l ((Int.tdiv (ov_w a) v6) * (ov_w b))]) (pc2 := 21) b_61_18_3 rfl rfl ?_
    have g13 := ov_wg b
    have g14 := ov_wq b
    have fm : 0 ≤ a → a ≤ 1200 → 0 ≤ b → b ≤ 60 → 0 ≤ ((Int.tdiv (ov_w a) v6) * (ov_w b)) ∧ ((Int.tdiv (ov_w a) v6) * (ov_w b)) ≤ 72000 := by
      intro j1 j2 j3 j4
      have t := ov_tdl (a := ov_w a) (b := v6) (by omega) (by omega)
      have m := ov_mulb (q := Int.tdiv (ov_w a) v6) (b := ov_w b) (A := 1200) (B := 60) (by omega) (by omega) (by omega) (by omega)
      omega
    refine ov_blk (ls2 := [(0, ov_i a), (1, ov_i b), (2, ov_l v6)]) (st2 := [ov_i ((Int.tdiv (ov_w a) v6) * (ov_w b))]) (pc2 := 22) b_61_21_1 rfl rfl ?_
    refine ov_havw (fun w15 gw15 qw15 => ?_)
    refine ov_goto (tgt := 26) d_61_22 (by decide) ?_
    exact ov_reti (st := []) d_61_26 rfl ⟨_, rfl, rfl, rfl, (by show -2147483648 ≤ w15 ∧ w15 ≤ 2147483647 ∧ (0 ≤ a → a ≤ 1200 → 0 ≤ b → b ≤ 60 → 0 ≤ w15 ∧ w15 ≤ 72000); omega)⟩

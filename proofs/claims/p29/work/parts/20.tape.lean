theorem b_51_0_1 : ov_ds ov_m51.2.1 0 [.aload_n 0] = true := by decide +kernel
theorem d_51_1 : decode ov_m51.2.1 1 = .ok (.getfield 34, 3) := by decide +kernel
theorem b_51_4_1 : ov_ds ov_m51.2.1 4 [.iconst 2] = true := by decide +kernel
theorem d_51_5 : decode ov_m51.2.1 5 = .ok (.if_icmp .ne 16, 3) := by decide +kernel
theorem b_51_21_1 : ov_ds ov_m51.2.1 21 [.iconst 0] = true := by decide +kernel
theorem d_51_22 : decode ov_m51.2.1 22 = .ok (.ireturn, 1) := by decide +kernel
theorem b_51_8_1 : ov_ds ov_m51.2.1 8 [.aload_n 0] = true := by decide +kernel
theorem d_51_9 : decode ov_m51.2.1 9 = .ok (.getfield 30, 3) := by decide +kernel
theorem b_51_12_2 : ov_ds ov_m51.2.1 12 [.lload_n 1, .lcmp] = true := by decide +kernel
theorem d_51_14 : decode ov_m51.2.1 14 = .ok (.ifCond .ne 7, 3) := by decide +kernel
theorem b_51_17_1 : ov_ds ov_m51.2.1 17 [.iconst 1] = true := by decide +kernel
theorem d_51_18 : decode ov_m51.2.1 18 = .ok (.goto 4, 3) := by decide +kernel
theorem b_56_0_1 : ov_ds ov_m56.2.1 0 [.aload_n 0] = true := by decide +kernel
theorem d_56_1 : decode ov_m56.2.1 1 = .ok (.getfield 34, 3) := by decide +kernel
theorem b_56_4_1 : ov_ds ov_m56.2.1 4 [.iconst 4] = true := by decide +kernel
theorem d_56_5 : decode ov_m56.2.1 5 = .ok (.if_icmp .ne 15, 3) := by decide +kernel
theorem b_56_20_1 : ov_ds ov_m56.2.1 20 [.iconst 0] = true := by decide +kernel
theorem d_56_21 : decode ov_m56.2.1 21 = .ok (.ireturn, 1) := by decide +kernel
theorem b_56_8_1 : ov_ds ov_m56.2.1 8 [.aload_n 0] = true := by decide +kernel
theorem d_56_9 : decode ov_m56.2.1 9 = .ok (.getfield 40, 3) := by decide +kernel
theorem b_56_12_1 : ov_ds ov_m56.2.1 12 [.iload_n 1] = true := by decide +kernel
theorem d_56_13 : decode ov_m56.2.1 13 = .ok (.if_icmp .ne 7, 3) := by decide +kernel
theorem b_56_16_1 : ov_ds ov_m56.2.1 16 [.iconst 1] = true := by decide +kernel
theorem d_56_17 : decode ov_m56.2.1 17 = .ok (.goto 4, 3) := by decide +kernel
theorem b_79_0_2 : ov_ds ov_m79.2.1 0 [.aload_n 0, .iconst 0] = true := by decide +kernel
theorem d_79_2 : decode ov_m79.2.1 2 = .ok (.putfield 17, 3) := by decide +kernel
theorem d_79_5 : decode ov_m79.2.1 5 = .ok (.return_, 1) := by decide +kernel
theorem b_22_0_2 : ov_ds ov_m22.2.1 0 [.bipush 56, .istore_n 3] = true := by decide +kernel
theorem b_22_3_1 : ov_ds ov_m22.2.1 3 [.iload_n 3] = true := by decide +kernel
theorem d_22_4 : decode ov_m22.2.1 4 = .ok (.ifCond .lt 72, 3) := by decide +kernel
theorem d_22_76 : decode ov_m22.2.1 76 = .ok (.return_, 1) := by decide +kernel
theorem b_22_7_3 : ov_ds ov_m22.2.1 7 [.lload_n 1, .iload_n 3, .lushr] = true := by decide +kernel
theorem d_22_10 : decode ov_m22.2.1 10 = .ok (.ldc2_w 15, 3) := by decide +kernel
theorem b_22_13_2 : ov_ds ov_m22.2.1 13 [.land, .l2i] = true := by decide +kernel
theorem b_22_15_3 : ov_ds ov_m22.2.1 15 [.i2c, .istore 4, .aload_n 0] = true := by decide +kernel
theorem d_22_19 : decode ov_m22.2.1 19 = .ok (.getfield 17, 3) := by decide +kernel
theorem b_22_22_1 : ov_ds ov_m22.2.1 22 [.sipush 1000] = true := by decide +kernel
theorem d_22_25 : decode ov_m22.2.1 25 = .ok (.if_icmp .ge 45, 3) := by decide +kernel
theorem b_22_70_1 : ov_ds ov_m22.2.1 70 [.iinc 3 (-8)] = true := by decide +kernel
theorem d_22_73 : decode ov_m22.2.1 73 = .ok (.goto (-70), 3) := by decide +kernel
theorem b_22_28_2 : ov_ds ov_m22.2.1 28 [.iload 4, .bipush 10] = true := by decide +kernel
theorem d_22_32 : decode ov_m22.2.1 32 = .ok (.if_icmp .eq 17, 3) := by decide +kernel
theorem b_22_49_1 : ov_ds ov_m22.2.1 49 [.aload_n 0] = true := by decide +kernel
theorem d_22_50 : decode ov_m22.2.1 50 = .ok (.getfield 9, 3) := by decide +kernel
theorem b_22_53_1 : ov_ds ov_m22.2.1 53 [.aload_n 0] = true := by decide +kernel
theorem d_22_54 : decode ov_m22.2.1 54 = .ok (.getfield 17, 3) := by decide +kernel
theorem b_22_57_1 : ov_ds ov_m22.2.1 57 [.iload 4] = true := by decide +kernel
theorem d_22_59 : decode ov_m22.2.1 59 = .ok (.castore, 1) := by decide +kernel
theorem b_22_60_2 : ov_ds ov_m22.2.1 60 [.aload_n 0, .dup] = true := by decide +kernel
theorem d_22_62 : decode ov_m22.2.1 62 = .ok (.getfield 17, 3) := by decide +kernel
theorem b_22_65_2 : ov_ds ov_m22.2.1 65 [.iconst 1, .iadd] = true := by decide +kernel
theorem d_22_67 : decode ov_m22.2.1 67 = .ok (.putfield 17, 3) := by decide +kernel
theorem b_22_35_2 : ov_ds ov_m22.2.1 35 [.iload 4, .bipush 32] = true := by decide +kernel
theorem d_22_39 : decode ov_m22.2.1 39 = .ok (.if_icmp .lt 31, 3) := by decide +kernel
theorem b_22_42_2 : ov_ds ov_m22.2.1 42 [.iload 4, .bipush 126] = true := by decide +kernel
theorem d_22_46 : decode ov_m22.2.1 46 = .ok (.if_icmp .gt 24, 3) := by decide +kernel
abbrev P_Tape_isWord_1 (F : ov_H) (z : ov_Z) (h : ov_H) (w : Int) : Option ov_V → ov_Z → ov_H → Prop := fun r0 z' h' => ∃ r : Int, r0 = some (ov_i r) ∧ z = z' ∧ h = h' ∧ ((r = 0 ∨ r = 1) ∧ (r = 1 → (h 1 2) = 2))
set_option maxHeartbeats 4000000 in
theorem c_Tape_isWord_1 {u : ov_U} {F : ov_H} {z : ov_Z} {h : ov_H} (d : Nat) (hd : 0 ≤ d) (U : ov_cap u) (I : ov_I F z h) (w : Int) : ov_T u d ov_m51 [ov_r 1, ov_l w] z h (P_Tape_isWord_1 F z h w) := by
  refine ov_en rfl (Nat.le_of_ble_eq_true rfl) ?_
  show ov_R u d ov_m51 0 [(0, ov_r 1), (1, ov_l w)] [] z h (P_Tape_isWord_1 F z h w)
  refine ov_blk (ls2 := [(0, ov_r 1), (1, ov_l w)]) (st2 := [ov_r 1]) (pc2 := 1) b_51_0_1 rfl rfl ?_
  refine ov_getf (v := ov_i (h 1 2)) d_51_1 fl_Tape_34 (zb_1 I) (zs_1 I) rfl ?_
  have g1 := rg_1_2 I
  refine ov_blk (ls2 := [(0, ov_r 1), (1, ov_l w)]) (st2 := [ov_i 2, ov_i (h 1 2)]) (pc2 := 5) b_51_4_1 rfl rfl ?_
  refine ov_icne (tgt := 21) d_51_5 (by decide) (by omega) (by omega) (fun c2 => ?_) (fun c2 => ?_)
  · skip
    refine ov_blk (ls2 := [(0, ov_r 1), (1, ov_l w)]) (st2 := [ov_i 0]) (pc2 := 22) b_51_21_1 rfl rfl ?_
    exact ov_retz (st := []) d_51_22 rfl (by omega) ⟨_, rfl, rfl, rfl, (by show (0 = 0 ∨ 0 = 1) ∧ (0 = 1 → (h 1 2) = 2); omega)⟩
  · skip
    refine ov_blk (ls2 := [(0, ov_r 1), (1, ov_l w)]) (st2 := [ov_r 1]) (pc2 := 9) b_51_8_1 rfl rfl ?_
    refine ov_getf (v := ov_l (h 1 6)) d_51_9 fl_Tape_30 (zb_1 I) (zs_1 I) rfl ?_
    refine ov_blk (ls2 := [(0, ov_r 1), (1, ov_l w)]) (st2 := [ov_i (ov_lcmp (h 1 6) w)]) (pc2 := 14) b_51_12_2 rfl rfl ?_
    have g3 := ov_lcg (h 1 6) w
    refine ov_ifne (tgt := 21) d_51_14 (by decide) (by omega) (fun c4 => ?_) (fun c4 => ?_)
    · skip
      refine ov_blk (ls2 := [(0, ov_r 1), (1, ov_l w)]) (st2 := [ov_i 0]) (pc2 := 22) b_51_21_1 rfl rfl ?_
      exact ov_retz (st := []) d_51_22 rfl (by omega) ⟨_, rfl, rfl, rfl, (by show (0 = 0 ∨ 0 = 1) ∧ (0 = 1 → (h 1 2) = 2); omega)⟩
    · skip
      refine ov_blk (ls2 := [(0, ov_r 1), (1, ov_l w)]) (st2 := [ov_i 1]) (pc2 := 18) b_51_17_1 rfl rfl ?_
      refine ov_goto (tgt := 22) d_51_18 (by decide) ?_
      exact ov_retz (st := []) d_51_22 rfl (by omega) ⟨_, rfl, rfl, rfl, (by show (1 = 0 ∨ 1 = 1) ∧ (1 = 1 → (h 1 2) = 2); omega)⟩
abbrev P_Tape_isSign_1 (F : ov_H) (z : ov_Z) (h : ov_H) (c : Int) : Option ov_V → ov_Z → ov_H → Prop := fun r0 z' h' => ∃ r : Int, r0 = some (ov_i r) ∧ z = z' ∧ h = h' ∧ ((r = 0 ∨ r = 1))
set_option maxHeartbeats 4000000 in
theorem c_Tape_isSign_1 {u : ov_U} {F : ov_H} {z : ov_Z} {h : ov_H} (d : Nat) (hd : 0 ≤ d) (U : ov_cap u) (I : ov_I F z h) (c : Int) (g_c : 0 ≤ c ∧ c ≤ 65535) : ov_T u d ov_m56 [ov_r 1, ov_i c] z h (P_Tape_isSign_1 F z h c) := by
  refine ov_en rfl (Nat.le_of_ble_eq_true rfl) ?_
  show ov_R u d ov_m56 0 [(0, ov_r 1), (1, ov_i c)] [] z h (P_Tape_isSign_1 F z h c)
  refine ov_blk (ls2 := [(0, ov_r 1), (1, ov_i c)]) (st2 := [ov_r 1]) (pc2 := 1) b_56_0_1 rfl rfl ?_
  refine ov_getf (v := ov_i (h 1 2)) d_56_1 fl_Tape_34 (zb_1 I) (zs_1 I) rfl ?_
  have g1 := rg_1_2 I
  refine ov_blk (ls2 := [(0, ov_r 1), (1, ov_i c)]) (st2 := [ov_i 4, ov_i (h 1 2)]) (pc2 := 5) b_56_4_1 rfl rfl ?_
  refine ov_icne (tgt := 20) d_56_5 (by decide) (by omega) (by omega) (fun c2 => ?_) (fun c2 => ?_)
  · skip
    refine ov_blk (ls2 := [(0, ov_r 1), (1, ov_i c)]) (st2 := [ov_i 0]) (pc2 := 21) b_56_20_1 rfl rfl ?_
    exact ov_retz (st := []) d_56_21 rfl (by omega) ⟨_, rfl, rfl, rfl, (by show (0 = 0 ∨ 0 = 1); omega)⟩
  · skip
    refine ov_blk (ls2 := [(0, ov_r 1), (1, ov_i c)]) (st2 := [ov_r 1]) (pc2 := 9) b_56_8_1 rfl rfl ?_
    refine ov_getf (v := ov_i (h 1 5)) d_56_9 fl_Tape_40 (zb_1 I) (zs_1 I) rfl ?_
    have g3 := rg_1_5 I
    refine ov_blk (ls2 := [(0, ov_r 1), (1, ov_i c)]) (st2 := [ov_i c, ov_i (h 1 5)]) (pc2 := 13) b_56_12_1 rfl rfl ?_
    refine ov_icne (tgt := 20) d_56_13 (by decide) (by omega) (by omega) (fun c4 => ?_) (fun c4 => ?_)
    · skip
      refine ov_blk (ls2 := [(0, ov_r 1), (1, ov_i c)]) (st2 := [ov_i 0]) (pc2 := 21) b_56_20_1 rfl rfl ?_
      exact ov_retz (st := []) d_56_21 rfl (by omega) ⟨_, rfl, rfl, rfl, (by show (0 = 0 ∨ 0 = 1); omega)⟩
    · skip
      refine ov_blk (ls2 := [(0, ov_r 1), (1, ov_i c)]) (st2 := [ov_i 1]) (pc2 := 17) b_56_16_1 rfl rfl ?_
      refine ov_goto (tgt := 21) d_56_17 (by decide) ?_
      exact ov_retz (st := []) d_56_21 rfl (by omega) ⟨_, rfl, rfl, rfl, (by show (1 = 0 ∨ 1 = 1); omega)⟩
abbrev P_Tape_clear_1 (F : ov_H) (z : ov_Z) (h : ov_H)  : Option ov_V → ov_Z → ov_H → Prop := fun r0 z' h' => r0 = none ∧ ov_I F z' h' ∧ ((h' 1 1) = 0 ∧ (h' 3 2) = (h 3 2) ∧ (h' 36 7) = (h 36 7) ∧ (h' 90 2) = (h 90 2) ∧ (h' 0 10) = (h 0 10) ∧ (h' 0 11) = (h 0 11) ∧ (h' 0 12) = (h 0 12) ∧ (h' 0 13) = (h 0 13) ∧ (h' 3 1) = (h 3 1) ∧ (h' 36 8) = (h 36 8) ∧ (h' 46 3) = (h 46 3) ∧ (h' 46 4) = (h 46 4) ∧ (h' 49 4) = (h 49 4) ∧ (h' 49 5) = (h 49 5) ∧ (h' 64 0) = (h 64 0) ∧ (h' 76 0) = (h 76 0))
set_option maxHeartbeats 4000000 in
theorem c_Tape_clear_1 {u : ov_U} {F : ov_H} {z : ov_Z} {h : ov_H} (d : Nat) (hd : 0 ≤ d) (U : ov_cap u) (I : ov_I F z h) (hw : ov_kw 2 F) : ov_T u d ov_m79 [ov_r 1] z h (P_Tape_clear_1 F z h) := by
  refine ov_en rfl (Nat.le_of_ble_eq_true rfl) ?_
  show ov_R u d ov_m79 0 [(0, ov_r 1)] [] z h (P_Tape_clear_1 F z h)
  refine ov_blk (ls2 := [(0, ov_r 1)]) (st2 := [ov_i 0, ov_r 1]) (pc2 := 2) b_79_0_2 rfl rfl ?_
  refine ov_putf (x := 0) d_79_2 fl_Tape_17 (zb_1 I) (zs_1 I) rfl nk_0 rfl ?_
  have I1 := up_1_1 (x := 0) I (by omega) (hw 1 (by decide +kernel))
  exact ov_retv (st := []) d_79_5 rfl ⟨rfl, I1, (by show 0 = 0 ∧ (h 3 2) = (h 3 2) ∧ (h 36 7) = (h 36 7) ∧ (h 90 2) = (h 90 2) ∧ (h 0 10) = (h 0 10) ∧ (h 0 11) = (h 0 11) ∧ (h 0 12) = (h 0 12) ∧ (h 0 13) = (h 0 13) ∧ (h 3 1) = (h 3 1) ∧ (h 36 8) = (h 36 8) ∧ (h 46 3) = (h 46 3) ∧ (h 46 4) = (h 46 4) ∧ (h 49 4) = (h 49 4) ∧ (h 49 5) = (h 49 5) ∧ (h 64 0) = (h 64 0) ∧ (h 76 0) = (h 76 0); omega)⟩
abbrev P_Tape_append_1 (F : ov_H) (z : ov_Z) (h : ov_H) (w : Int) : Option ov_V → ov_Z → ov_H → Prop := fun r0 z' h' => r0 = none ∧ ov_I F z' h' ∧ ((h 1 1) ≤ (h' 1 1) ∧ (h' 36 7) = (h 36 7) ∧ (h' 90 2) = (h 90 2) ∧ (h' 0 10) = (h 0 10) ∧ (h' 0 11) = (h 0 11) ∧ (h' 0 12) = (h 0 12) ∧ (h' 0 13) = (h 0 13) ∧ (h' 3 1) = (h 3 1) ∧ (h' 36 8) = (h 36 8) ∧ (h' 46 3) = (h 46 3) ∧ (h' 46 4) = (h 46 4) ∧ (h' 49 4) = (h 49 4) ∧ (h' 49 5) = (h 49 5) ∧ (h' 64 0) = (h 64 0) ∧ (h' 76 0) = (h 76 0))
set_option maxHeartbeats 4000000 in
theorem c_Tape_append_1 {u : ov_U} {F : ov_H} {z : ov_Z} {h : ov_H} (d : Nat) (hd : 0 ≤ d) (U : ov_cap u) (I : ov_I F z h) (hw : ov_kw 6 F) (w : Int) : ov_T u d ov_m22 [ov_r 1, ov_l w] z h (P_Tape_append_1 F z h w) := by
  refine ov_en rfl (Nat.le_of_ble_eq_true rfl) ?_
  show ov_R u d ov_m22 0 [(0, ov_r 1), (1, ov_l w)] [] z h (P_Tape_append_1 F z h w)
  refine ov_blk (ls2 := [(0, ov_r 1), (1, ov_l w), (3, ov_i 56)]) (st2 := []) (pc2 := 3) b_22_0_2 rfl rfl ?_
  have L4 : ∀ (n1 : Nat) (x3 : Int) (z5 : ov_Z) (h6 : ov_H) (I7 : ov_I F z5 h6) (q3 : -8 ≤ x3 ∧ x3 ≤ 56 ∧ (h 1 1) ≤ (h6 1 1) ∧ (h6 36 7) = (h 36 7) ∧ (h6 90 2) = (h 90 2) ∧ (h6 0 10) = (h 0 10) ∧ (h6 0 11) = (h 0 11) ∧ (h6 0 12) = (h 0 12) ∧ (h6 0 13) = (h 0 13) ∧ (h6 3 1) = (h 3 1) ∧ (h6 36 8) = (h 36 8) ∧ (h6 46 3) = (h 46 3) ∧ (h6 46 4) = (h 46 4) ∧ (h6 49 4) = (h 49 4) ∧ (h6 49 5) = (h 49 5) ∧ (h6 64 0) = (h 64 0) ∧ (h6 76 0) = (h 76 0)), x3 + 8 < (n1 : Int) → ov_R u d ov_m22 3 [(0, ov_r 1), (1, ov_l w), (3, ov_i x3)] [] z5 h6 (P_Tape_append_1 F z h w) := by
    intro n1
    induction n1 with
    | zero =>
      intro x3 z5 h6 I7 q3 hn8
      exact absurd hn8 (by omega)
    | succ n1 ih2 =>
      intro x3 z5 h6 I7 q3 hn8
      refine ov_blk (ls2 := [(0, ov_r 1), (1, ov_l w), (3, ov_i x3)]) (st2 := [ov_i x3]) (pc2 := 4) b_22_3_1 rfl rfl ?_
      refine ov_iflt (tgt := 76) d_22_4 (by decide) (by omega) (fun c9 => ?_) (fun c9 => ?_)
      · skip
        exact ov_retv (st := []) d_22_76 rfl ⟨rfl, I7, (by show (h 1 1) ≤ (h6 1 1) ∧ (h6 36 7) = (h 36 7) ∧ (h6 90 2) = (h 90 2) ∧ (h6 0 10) = (h 0 10) ∧ (h6 0 11) = (h 0 11) ∧ (h6 0 12) = (h 0 12) ∧ (h6 0 13) = (h 0 13) ∧ (h6 3 1) = (h 3 1) ∧ (h6 36 8) = (h 36 8) ∧ (h6 46 3) = (h 46 3) ∧ (h6 46 4) = (h 46 4) ∧ (h6 49 4) = (h 49 4) ∧ (h6 49 5) = (h 49 5) ∧ (h6 64 0) = (h 64 0) ∧ (h6 76 0) = (h 76 0); omega)⟩
      · skip
        refine ov_blk (ls2 := [(0, ov_r 1), (1, ov_l w), (3, ov_i x3)]) (st2 := [ov_l (ov_lushr w x3)]) (pc2 := 10) b_22_7_3 rfl rfl ?_
        refine ov_ldc2 (n := 255) d_22_10 kc_Tape_15 ?_
        refine ov_blk (ls2 := [(0, ov_r 1), (1, ov_l w), (3, ov_i x3)]) (st2 := [ov_i (ov_land (ov_lushr w x3) 255)]) (pc2 := 15) b_22_13_2 rfl rfl ?_
        refine ov_havw (fun w10 gw10 qw10 => ?_)
        refine ov_blk (ls2 := [(0, ov_r 1), (1, ov_l w), (3, ov_i x3), (4, ov_i (ov_i2c w10))]) (st2 := [ov_r 1]) (pc2 := 19) b_22_15_3 rfl rfl ?_
        have g11 := ov_i2cg w10
        refine ov_getf (v := ov_i (h6 1 1)) d_22_19 fl_Tape_17 (zb_1 I7) (zs_1 I7) rfl ?_
        have g12 := rg_1_1 I7
        refine ov_blk (ls2 := [(0, ov_r 1), (1, ov_l w), (3, ov_i x3), (4, ov_i (ov_i2c w10))]) (st2 := [ov_i 1000, ov_i (h6 1 1)]) (pc2 := 25) b_22_22_1 rfl rfl ?_
        refine ov_icge (tgt := 70) d_22_25 (by decide) (by omega) (by omega) (fun c13 => ?_) (fun c13 => ?_)
        · skip
          refine ov_blk (ls2 := [(0, ov_r 1), (1, ov_l w), (3, ov_i (x3 + (-8))), (4, ov_i (ov_i2c w10))]) (st2 := []) (pc2 := 73) b_22_70_1 rfl rfl ?_
          refine ov_goto (tgt := 3) d_22_73 (by decide) ?_
          refine ov_sub (ls2 := [(0, ov_r 1), (1, ov_l w), (3, ov_i (x3 + (-8)))]) (List.Sublist.subset (by repeat (first | exact List.Sublist.refl _ | apply List.Sublist.cons_cons | apply List.Sublist.cons))) ?_
          exact ih2 (x3 + (-8)) _ _ I7 (by show -8 ≤ (x3 + (-8)) ∧ (x3 + (-8)) ≤ 56 ∧ (h 1 1) ≤ (h6 1 1) ∧ (h6 36 7) = (h 36 7) ∧ (h6 90 2) = (h 90 2) ∧ (h6 0 10) = (h 0 10) ∧ (h6 0 11) = (h 0 11) ∧ (h6 0 12) = (h 0 12) ∧ (h6 0 13) = (h 0 13) ∧ (h6 3 1) = (h 3 1) ∧ (h6 36 8) = (h 36 8) ∧ (h6 46 3) = (h 46 3) ∧ (h6 46 4) = (h 46 4) ∧ (h6 49 4) = (h 49 4) ∧ (h6 49 5) = (h 49 5) ∧ (h6 64 0) = (h 64 0) ∧ (h6 76 0) = (h 76 0); omega) (by omega)
        · skip
          refine ov_blk (ls2 := [(0, ov_r 1), (1, ov_l w), (3, ov_i x3), (4, ov_i (ov_i2c w10))]) (st2 := [ov_i 10, ov_i (ov_i2c w10)]) (pc2 := 32) b_22_28_2 rfl rfl ?_
          refine ov_iceq (tgt := 49) d_22_32 (by decide) (by omega) (by omega) (fun c14 => ?_) (fun c14 => ?_)
          · skip
            refine ov_blk (ls2 := [(0, ov_r 1), (1, ov_l w), (3, ov_i x3), (4, ov_i (ov_i2c w10))]) (st2 := [ov_r 1]) (pc2 := 50) b_22_49_1 rfl rfl ?_
            refine ov_getf (v := ov_r 2) d_22_50 fl_Tape_9 (zb_1 I7) (zs_1 I7) (congrArg ov_r (rg_1_0 I7)) ?_
            refine ov_blk (ls2 := [(0, ov_r 1), (1, ov_l w), (3, ov_i x3), (4, ov_i (ov_i2c w10))]) (st2 := [ov_r 1, ov_r 2]) (pc2 := 54) b_22_53_1 rfl rfl ?_
            refine ov_getf (v := ov_i (h6 1 1)) d_22_54 fl_Tape_17 (zb_1 I7) (zs_1 I7) rfl ?_
            refine ov_blk (ls2 := [(0, ov_r 1), (1, ov_l w), (3, ov_i x3), (4, ov_i (ov_i2c w10))]) (st2 := [ov_i (ov_i2c w10), ov_i (h6 1 1), ov_r 2]) (pc2 := 59) b_22_57_1 rfl rfl ?_
            refine ov_cast d_22_59 (zb_2 I7) (zs_2 I7) (by omega) (by omega) ?_
            have I16 := ua_2 (k := (h6 1 1)) (x := (ov_i2c w10)) I7 (by omega) (hw 2 (by decide +kernel))
            refine ov_blk (ls2 := [(0, ov_r 1), (1, ov_l w), (3, ov_i x3), (4, ov_i (ov_i2c w10))]) (st2 := [ov_r 1, ov_r 1]) (pc2 := 62) b_22_60_2 rfl rfl ?_
            refine ov_getf (v := ov_i (h6 1 1)) d_22_62 fl_Tape_17 (zb_1 I16) (zs_1 I16) rfl ?_
            refine ov_blk (ls2 := [(0, ov_r 1), (1, ov_l w), (3, ov_i x3), (4, ov_i (ov_i2c w10))]) (st2 := [ov_i ((h6 1 1) + 1), ov_r 1]) (pc2 := 67) b_22_65_2 rfl rfl ?_
            refine ov_putf (x := ((h6 1 1) + 1)) d_22_67 fl_Tape_17 (zb_1 I16) (zs_1 I16) rfl nk_0 rfl ?_
            have I18 := up_1_1 (x := ((h6 1 1) + 1)) I16 (by omega) (hw 1 (by decide +kernel))
            refine ov_blk (ls2 := [(0, ov_r 1), (1, ov_l w), (3, ov_i (x3 + (-8))), (4, ov_i (ov_i2c w10))]) (st2 := []) (pc2 := 73) b_22_70_1 rfl rfl ?_
            refine ov_goto (tgt := 3) d_22_73 (by decide) ?_
            refine ov_sub (ls2 := [(0, ov_r 1), (1, ov_l w), (3, ov_i (x3 + (-8)))]) (List.Sublist.subset (by repeat (first | exact List.Sublist.refl _ | apply List.Sublist.cons_cons | apply List.Sublist.cons))) ?_
            exact ih2 (x3 + (-8)) _ _ I18 (by show -8 ≤ (x3 + (-8)) ∧ (x3 + (-8)) ≤ 56 ∧ (h 1 1) ≤ ((h6 1 1) + 1) ∧ (h6 36 7) = (h 36 7) ∧ (h6 90 2) = (h 90 2) ∧ (h6 0 10) = (h 0 10) ∧ (h6 0 11) = (h 0 11) ∧ (h6 0 12) = (h 0 12) ∧ (h6 0 13) = (h 0 13) ∧ (h6 3 1) = (h 3 1) ∧ (h6 36 8) = (h 36 8) ∧ (h6 46 3) = (h 46 3) ∧ (h6 46 4) = (h 46 4) ∧ (h6 49 4) = (h 49 4) ∧ (h6 49 5) = (h 49 5) ∧ (h6 64 0) = (h 64 0) ∧ (h6 76 0) = (h 76 0); omega) (by omega)
          · skip
            refine ov_blk (ls2 := [(0, ov_r 1), (1, ov_l w), (3, ov_i x3), (4, ov_i (ov_i2c w10))]) (st2 := [ov_i 32, ov_i (ov_i2c w10)]) (pc2 := 39) b_22_35_2 rfl rfl ?_
            refine ov_iclt (tgt := 70) d_22_39 (by decide) (by omega) (by omega) (fun c19 => ?_) (fun c19 => ?_)
            · skip
              refine ov_blk (ls2 := [(0, ov_r 1), (1, ov_l w), (3, ov_i (x3 + (-8))), (4, ov_i (ov_i2c w10))]) (st2 := []) (pc2 := 73) b_22_70_1 rfl rfl ?_
              refine ov_goto (tgt := 3) d_22_73 (by decide) ?_
              refine ov_sub (ls2 := [(0, ov_r 1), (1, ov_l w), (3, ov_i (x3 + (-8)))]) (List.Sublist.subset (by repeat (first | exact List.Sublist.refl _ | apply List.Sublist.cons_cons | apply List.Sublist.cons))) ?_
              exact ih2 (x3 + (-8)) _ _ I7 (by show -8 ≤ (x3 + (-8)) ∧ (x3 + (-8)) ≤ 56 ∧ (h 1 1) ≤ (h6 1 1) ∧ (h6 36 7) = (h 36 7) ∧ (h6 90 2) = (h 90 2) ∧ (h6 0 10) = (h 0 10) ∧ (h6 0 11) = (h 0 11) ∧ (h6 0 12) = (h 0 12) ∧ (h6 0 13) = (h 0 13) ∧ (h6 3 1) = (h 3 1) ∧ (h6 36 8) = (h 36 8) ∧ (h6 46 3) = (h 46 3) ∧ (h6 46 4) = (h 46 4) ∧ (h6 49 4) = (h 49 4) ∧ (h6 49 5) = (h 49 5) ∧ (h6 64 0) = (h 64 0) ∧ (h6 76 0) = (h 76 0); omega) (by omega)
            · skip
              refine ov_blk (ls2 := [(0, ov_r 1), (1, ov_l w), (3, ov_i x3), (4, ov_i (ov_i2c w10))]) (st2 := [ov_i 126, ov_i (ov_i2c w10)]) (pc2 := 46) b_22_42_2 rfl rfl ?_
              refine ov_icgt (tgt := 70) d_22_46 (by decide) (by omega) (by omega) (fun c20 => ?_) (fun c20 => ?_)
              · skip
                refine ov_blk (ls2 := [(0, ov_r 1), (1, ov_l w), (3, ov_i (x3 + (-8))), (4, ov_i (ov_i2c w10))]) (st2 := []) (pc2 := 73) b_22_70_1 rfl rfl ?_
                refine ov_goto (tgt := 3) d_22_73 (by decide) ?_
                refine ov_sub (ls2 := [(0, ov_r 1), (1, ov_l w), (3, ov_i (x3 + (-8)))]) (List.Sublist.subset (by repeat (first | exact List.Sublist.refl _ | apply List.Sublist.cons_cons | apply List.Sublist.cons))) ?_
                exact ih2 (x3 + (-8)) _ _ I7 (by show -8 ≤ (x3 + (-8)) ∧ (x3 + (-8)) ≤ 56 ∧ (h 1 1) ≤ (h6 1 1) ∧ (h6 36 7) = (h 36 7) ∧ (h6 90 2) = (h 90 2) ∧ (h6 0 10) = (h 0 10) ∧ (h6 0 11) = (h 0 11) ∧ (h6 0 12) = (h 0 12) ∧ (h6 0 13) = (h 0 13) ∧ (h6 3 1) = (h 3 1) ∧ (h6 36 8) = (h 36 8) ∧ (h6 46 3) = (h 46 3) ∧ (h6 46 4) = (h 46 4) ∧ (h6 49 4) = (h 49 4) ∧ (h6 49 5) = (h 49 5) ∧ (h6 64 0) = (h 64 0) ∧ (h6 76 0) = (h 76 0); omega) (by omega)
              · skip
                refine ov_blk (ls2 := [(0, ov_r 1), (1, ov_l w), (3, ov_i x3), (4, ov_i (ov_i2c w10))]) (st2 := [ov_r 1]) (pc2 := 50) b_22_49_1 rfl rfl ?_
                refine ov_getf (v := ov_r 2) d_22_50 fl_Tape_9 (zb_1 I7) (zs_1 I7) (congrArg ov_r (rg_1_0 I7)) ?_
                refine ov_blk (ls2 := [(0, ov_r 1), (1, ov_l w), (3, ov_i x3), (4, ov_i (ov_i2c w10))]) (st2 := [ov_r 1, ov_r 2]) (pc2 := 54) b_22_53_1 rfl rfl ?_
                refine ov_getf (v := ov_i (h6 1 1)) d_22_54 fl_Tape_17 (zb_1 I7) (zs_1 I7) rfl ?_
                refine ov_blk (ls2 := [(0, ov_r 1), (1, ov_l w), (3, ov_i x3), (4, ov_i (ov_i2c w10))]) (st2 := [ov_i (ov_i2c w10), ov_i (h6 1 1), ov_r 2]) (pc2 := 59) b_22_57_1 rfl rfl ?_
                refine ov_cast d_22_59 (zb_2 I7) (zs_2 I7) (by omega) (by omega) ?_
                have I22 := ua_2 (k := (h6 1 1)) (x := (ov_i2c w10)) I7 (by omega) (hw 2 (by decide +kernel))
                refine ov_blk (ls2 := [(0, ov_r 1), (1, ov_l w), (3, ov_i x3), (4, ov_i (ov_i2c w10))]) (st2 := [ov_r 1, ov_r 1]) (pc2 := 62) b_22_60_2 rfl rfl ?_
                refine ov_getf (v := ov_i (h6 1 1)) d_22_62 fl_Tape_17 (zb_1 I22) (zs_1 I22) rfl ?_
                refine ov_blk (ls2 := [(0, ov_r 1), (1, ov_l w), (3, ov_i x3), (4, ov_i (ov_i2c w10))]) (st2 := [ov_i ((h6 1 1) + 1), ov_r 1]) (pc2 := 67) b_22_65_2 rfl rfl ?_
                refine ov_putf (x := ((h6 1 1) + 1)) d_22_67 fl_Tape_17 (zb_1 I22) (zs_1 I22) rfl nk_0 rfl ?_
                have I24 := up_1_1 (x := ((h6 1 1) + 1)) I22 (by omega) (hw 1 (by decide +kernel))
                refine ov_blk (ls2 := [(0, ov_r 1), (1, ov_l w), (3, ov_i (x3 + (-8))), (4, ov_i (ov_i2c w10))]) (st2 := []) (pc2 := 73) b_22_70_1 rfl rfl ?_
                refine ov_goto (tgt := 3) d_22_73 (by decide) ?_
                refine ov_sub (ls2 := [(0, ov_r 1), (1, ov_l w), (3, ov_i (x3 + (-8)))]) (List.Sublist.subset (by repeat (first | exact List.Sublist.refl _ | apply List.Sublist.cons_cons | apply List.Sublist.cons))) ?_
                exact ih2 (x3 + (-8)) _ _ I24 (by show -8 ≤ (x3 + (-8)) ∧ (x3 + (-8)) ≤ 56 ∧ (h 1 1) ≤ ((h6 1 1) + 1) ∧ (h6 36 7) = (h 36 7) ∧ (h6 90 2) = (h 90 2) ∧ (h6 0 10) = (h 0 10) ∧ (h6 0 11) = (h 0 11) ∧ (h6 0 12) = (h 0 12) ∧ (h6 0 13) = (h 0 13) ∧ (h6 3 1) = (h 3 1) ∧ (h6 36 8) = (h 36 8) ∧ (h6 46 3) = (h 46 3) ∧ (h6 46 4) = (h 46 4) ∧ (h6 49 4) = (h 49 4) ∧ (h6 49 5) = (h 49 5) ∧ (h6 64 0) = (h 64 0) ∧ (h6 76 0) = (h 76 0); omega) (by omega)
  exact L4 100 56 _ _ I (by show -8 ≤ 56 ∧ 56 ≤ 56 ∧ (h 1 1) ≤ (h 1 1) ∧ (h 36 7) = (h 36 7) ∧ (h 90 2) = (h 90 2) ∧ (h 0 10) = (h 0 10) ∧ (h 0 11) = (h 0 11) ∧ (h 0 12) = (h 0 12) ∧ (h 0 13) = (h 0 13) ∧ (h 3 1) = (h 3 1) ∧ (h 36 8) = (h 36 8) ∧ (h 46 3) = (h 46 3) ∧ (h 46 4) = (h 46 4) ∧ (h 49 4) = (h 49 4) ∧ (h 49 5) = (h 49 5) ∧ (h 64 0) = (h 64 0) ∧ (h 76 0) = (h 76 0); omega) (by omega)

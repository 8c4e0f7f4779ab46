abbrev P_History_keep_9_4_b (F : ov_H) (z : ov_Z) (h : ov_H)  : Option ov_V → ov_Z → ov_H → Prop := fun r0 z' h' => r0 = none ∧ ov_I F z' h' ∧ ((h' 4 0) = (h 4 0) ∧ (h' 36 7) = (h 36 7) ∧ (h' 1 1) = (h 1 1) ∧ (h' 90 2) = (h 90 2) ∧ (h' 0 10) = (h 0 10) ∧ (h' 0 11) = (h 0 11) ∧ (h' 0 12) = (h 0 12) ∧ (h' 0 13) = (h 0 13) ∧ (h' 3 1) = (h 3 1) ∧ (h' 36 8) = (h 36 8) ∧ (h' 46 3) = (h 46 3) ∧ (h' 46 4) = (h 46 4) ∧ (h' 49 4) = (h 49 4) ∧ (h' 49 5) = (h 49 5))
set_option maxHeartbeats 4000000 in
theorem c_History_keep_9_4_b {u : ov_U} {F : ov_H} {z : ov_Z} {h : ov_H} (d : Nat) (hd : 1 ≤ d) (U : ov_cap u) (I : ov_I F z h) : ov_T u d ov_m104 [ov_r 9, ov_r 4] z h (P_History_keep_9_4_b F z h) := by
  refine ov_en rfl (Nat.le_of_ble_eq_true rfl) ?_
  show ov_R u d ov_m104 0 [(0, ov_r 9), (1, ov_r 4)] [] z h (P_History_keep_9_4_b F z h)
  refine ov_blk (ls2 := [(0, ov_r 9), (1, ov_r 4)]) (st2 := [ov_r 9]) (pc2 := 1) b_104_0_1 rfl rfl ?_
  refine ov_getf (v := ov_r 10) d_104_1 fl_History_9 (zb_9 I) (zs_9 I) (congrArg ov_r (rg_9_2 I)) ?_
  refine ov_blk (ls2 := [(0, ov_r 9), (1, ov_r 4)]) (st2 := [ov_r 9, ov_r 10]) (pc2 := 5) b_104_4_1 rfl rfl ?_
  refine ov_getf (v := ov_i (h 9 1)) d_104_5 fl_History_27 (zb_9 I) (zs_9 I) rfl ?_
  have g1 := rg_9_1 I
  refine ov_blk (ls2 := [(0, ov_r 9), (1, ov_r 4)]) (st2 := [ov_r 4, ov_i (h 9 1), ov_r 10]) (pc2 := 9) b_104_8_1 rfl rfl ?_
  refine ov_getf (v := ov_i (h 4 0)) d_104_9 fl_History_30 (zb_4 I) (zs_4 I) rfl ?_
  have g2 := rg_4_0 I
  refine ov_iast d_104_12 (zb_10 I) (zs_10 I) (by omega) ?_
  have I3 := ua_10 (k := (h 9 1)) (x := (h 4 0)) I (by omega)
  refine ov_blk (ls2 := [(0, ov_r 9), (1, ov_r 4)]) (st2 := [ov_r 9]) (pc2 := 14) b_104_13_1 rfl rfl ?_
  refine ov_getf (v := ov_r 11) d_104_14 fl_History_13 (zb_9 I3) (zs_9 I3) (congrArg ov_r (rg_9_3 I3)) ?_
  refine ov_blk (ls2 := [(0, ov_r 9), (1, ov_r 4)]) (st2 := [ov_r 9, ov_r 11]) (pc2 := 18) b_104_17_1 rfl rfl ?_
  refine ov_getf (v := ov_i (h 9 1)) d_104_18 fl_History_27 (zb_9 I3) (zs_9 I3) rfl ?_
  refine ov_blk (ls2 := [(0, ov_r 9), (1, ov_r 4)]) (st2 := [ov_r 4, ov_i (h 9 1), ov_r 11]) (pc2 := 22) b_104_21_1 rfl rfl ?_
  refine ov_getf (v := ov_i (h 4 1)) d_104_22 fl_History_35 (zb_4 I3) (zs_4 I3) rfl ?_
  have g5 := rg_4_1 I
  refine ov_iast d_104_25 (zb_11 I3) (zs_11 I3) (by omega) ?_
  have I6 := ua_11 (k := (h 9 1)) (x := (h 4 1)) I3 (by omega)
  refine ov_blk (ls2 := [(0, ov_r 9), (1, ov_r 4)]) (st2 := [ov_r 9]) (pc2 := 27) b_104_26_1 rfl rfl ?_
  refine ov_getf (v := ov_r 12) d_104_27 fl_History_16 (zb_9 I6) (zs_9 I6) (congrArg ov_r (rg_9_4 I6)) ?_
  refine ov_blk (ls2 := [(0, ov_r 9), (1, ov_r 4)]) (st2 := [ov_r 9, ov_r 12]) (pc2 := 31) b_104_30_1 rfl rfl ?_
  refine ov_getf (v := ov_i (h 9 1)) d_104_31 fl_History_27 (zb_9 I6) (zs_9 I6) rfl ?_
  refine ov_blk (ls2 := [(0, ov_r 9), (1, ov_r 4)]) (st2 := [ov_r 4, ov_i (h 9 1), ov_r 12]) (pc2 := 35) b_104_34_1 rfl rfl ?_
  refine ov_getf (v := ov_i (h 4 2)) d_104_35 fl_History_38 (zb_4 I6) (zs_4 I6) rfl ?_
  have g8 := rg_4_2 I
  refine ov_iast d_104_38 (zb_12 I6) (zs_12 I6) (by omega) ?_
  have I9 := ua_12 (k := (h 9 1)) (x := (h 4 2)) I6 (by omega)
  refine ov_blk (ls2 := [(0, ov_r 9), (1, ov_r 4)]) (st2 := [ov_r 9]) (pc2 := 40) b_104_39_1 rfl rfl ?_
  refine ov_getf (v := ov_r 13) d_104_40 fl_History_19 (zb_9 I9) (zs_9 I9) (congrArg ov_r (rg_9_5 I9)) ?_
  refine ov_blk (ls2 := [(0, ov_r 9), (1, ov_r 4)]) (st2 := [ov_r 9, ov_r 13]) (pc2 := 44) b_104_43_1 rfl rfl ?_
  refine ov_getf (v := ov_i (h 9 1)) d_104_44 fl_History_27 (zb_9 I9) (zs_9 I9) rfl ?_
  refine ov_blk (ls2 := [(0, ov_r 9), (1, ov_r 4)]) (st2 := [ov_r 4, ov_i (h 9 1), ov_r 13]) (pc2 := 48) b_104_47_1 rfl rfl ?_
  refine ov_getf (v := ov_l (h 4 3)) d_104_48 fl_History_40 (zb_4 I9) (zs_4 I9) rfl ?_
  refine ov_last d_104_51 (zb_13 I9) (zs_13 I9) (by omega) ?_
  have I11 := ua_13 (k := (h 9 1)) (x := (h 4 3)) I9
  refine ov_blk (ls2 := [(0, ov_r 9), (1, ov_r 4)]) (st2 := [ov_r 9, ov_r 9]) (pc2 := 54) b_104_52_2 rfl rfl ?_
  refine ov_getf (v := ov_i (h 9 1)) d_104_54 fl_History_27 (zb_9 I11) (zs_9 I11) rfl ?_
  refine ov_blk (ls2 := [(0, ov_r 9), (1, ov_r 4)]) (st2 := [ov_i 16, ov_i ((h 9 1) + 1), ov_r 9]) (pc2 := 61) b_104_57_3 rfl rfl ?_
  refine ov_irem d_104_61 (by omega) (by omega) (by omega) ?_
  have g13 := ov_tm (a := ((h 9 1) + 1)) (b := 16) (by omega)
  have g14 := ov_tmg (a := ((h 9 1) + 1)) (b := 16) (by omega) (by omega)
  refine ov_putf (x := (Int.tmod ((h 9 1) + 1) 16)) d_104_62 fl_History_27 (zb_9 I11) (zs_9 I11) rfl nk_0 rfl ?_
  have I15 := up_9_1 (x := (Int.tmod ((h 9 1) + 1) 16)) I11 (by omega)
  refine ov_blk (ls2 := [(0, ov_r 9), (1, ov_r 4)]) (st2 := [ov_r 9, ov_r 9]) (pc2 := 67) b_104_65_2 rfl rfl ?_
  refine ov_getf (v := ov_i (h 9 0)) d_104_67 fl_History_23 (zb_9 I15) (zs_9 I15) rfl ?_
  have g16 := rg_9_0 I
  refine ov_blk (ls2 := [(0, ov_r 9), (1, ov_r 4)]) (st2 := [ov_i 16, ov_i ((h 9 0) + 1), ov_r 9]) (pc2 := 74) b_104_70_3 rfl rfl ?_
  refine ov_cS (as := [ov_i ((h 9 0) + 1), ov_i 16]) (st := [ov_r 9]) (d2 := d - 1) d_104_74 lk_History_44 rfl (Nat.le_of_ble_eq_true rfl) (by omega) (c_Math_min (d - 1) (by omega) U I15 ((h 9 0) + 1) 16 (by omega) (by omega)) ?_
  rintro _ _ _ ⟨v18, rfl, rfl, rfl, f17⟩
  show ov_R u d ov_m104 77 [(0, ov_r 9), (1, ov_r 4)] [ov_i v18, ov_r 9] z (ov_up (ov_up (ov_up (ov_up (ov_up h 10 (h 9 1) (h 4 0)) 11 (h 9 1) (h 4 1)) 12 (h 9 1) (h 4 2)) 13 (h 9 1) (h 4 3)) 9 1 (Int.tmod ((h 9 1) + 1) 16)) (P_History_keep_9_4_b F z h)
  have f19 : v18 ≤ ((h 9 0) + 1) ∧ v18 ≤ (16 : Int) ∧ (v18 = ((h 9 0) + 1) ∨ v18 = (16 : Int)) := f17
  clear f17
  refine ov_putf (x := v18) d_104_77 fl_History_23 (zb_9 I15) (zs_9 I15) rfl nk_0 rfl ?_
  have I20 := up_9_0 (x := v18) I15 (by omega)
  exact ov_retv (st := []) d_104_80 rfl ⟨rfl, I20, (by show (h 4 0) = (h 4 0) ∧ (h 36 7) = (h 36 7) ∧ (h 1 1) = (h 1 1) ∧ (h 90 2) = (h 90 2) ∧ (h 0 10) = (h 0 10) ∧ (h 0 11) = (h 0 11) ∧ (h 0 12) = (h 0 12) ∧ (h 0 13) = (h 0 13) ∧ (h 3 1) = (h 3 1) ∧ (h 36 8) = (h 36 8) ∧ (h 46 3) = (h 46 3) ∧ (h 46 4) = (h 46 4) ∧ (h 49 4) = (h 49 4) ∧ (h 49 5) = (h 49 5); omega)⟩
abbrev P_OF_isGoer_0 (F : ov_H) (z : ov_Z) (h : ov_H) (g : Int) : Option ov_V → ov_Z → ov_H → Prop := fun r0 z' h' => ∃ r : Int, r0 = some (ov_i r) ∧ z = z' ∧ h = h' ∧ ((r = 0 ∨ r = 1) ∧ (r = 1 → 0 ≤ g ∧ g ≤ 7))
set_option maxHeartbeats 4000000 in
theorem c_OF_isGoer_0 {u : ov_U} {F : ov_H} {z : ov_Z} {h : ov_H} (d : Nat) (hd : 0 ≤ d) (U : ov_cap u) (I : ov_I F z h) (g : Int) (g_g : ov_g g) : ov_T u d ov_m122 [ov_r 0, ov_i g] z h (P_OF_isGoer_0 F z h g) := by
  refine ov_en rfl (Nat.le_of_ble_eq_true rfl) ?_
  show ov_R u d ov_m122 0 [(0, ov_r 0), (1, ov_i g)] [] z h (P_OF_isGoer_0 F z h g)
  refine ov_blk (ls2 := [(0, ov_r 0), (1, ov_i g)]) (st2 := [ov_i g]) (pc2 := 1) b_122_0_1 rfl rfl ?_
  refine ov_iflt (tgt := 21) d_122_1 (by decide) (by omega) (fun c1 => ?_) (fun c1 => ?_)
  · skip
    refine ov_blk (ls2 := [(0, ov_r 0), (1, ov_i g)]) (st2 := [ov_i 0]) (pc2 := 22) b_122_21_1 rfl rfl ?_
    exact ov_retz (st := []) d_122_22 rfl (by omega) ⟨_, rfl, rfl, rfl, (by show (0 = 0 ∨ 0 = 1) ∧ (0 = 1 → 0 ≤ g ∧ g ≤ 7); omega)⟩
  · skip
    refine ov_blk (ls2 := [(0, ov_r 0), (1, ov_i g)]) (st2 := [ov_r 0, ov_i 4, ov_i g]) (pc2 := 7) b_122_4_3 rfl rfl ?_
    rcases rg_0_10 I with e2 | e2
    · skip
      refine ov_getf (v := ov_r 58) d_122_7 fl_OF_78 (zb_0 I) (zs_0 I) (congrArg ov_r e2) ?_
      refine ov_getf (v := ov_i (h 58 11)) d_122_10 fl_OF_292 (zb_58 I) (zs_58 I) rfl ?_
      have g3 := rg_58_11 I
      refine ov_blk (ls2 := [(0, ov_r 0), (1, ov_i g)]) (st2 := [ov_i (4 + (h 58 11)), ov_i g]) (pc2 := 14) b_122_13_1 rfl rfl ?_
      refine ov_icge (tgt := 21) d_122_14 (by decide) (by omega) (by omega) (fun c4 => ?_) (fun c4 => ?_)
      · skip
        refine ov_blk (ls2 := [(0, ov_r 0), (1, ov_i g)]) (st2 := [ov_i 0]) (pc2 := 22) b_122_21_1 rfl rfl ?_
        exact ov_retz (st := []) d_122_22 rfl (by omega) ⟨_, rfl, rfl, rfl, (by show (0 = 0 ∨ 0 = 1) ∧ (0 = 1 → 0 ≤ g ∧ g ≤ 7); omega)⟩
      · skip
        refine ov_blk (ls2 := [(0, ov_r 0), (1, ov_i g)]) (st2 := [ov_i 1]) (pc2 := 18) b_122_17_1 rfl rfl ?_
        refine ov_goto (tgt := 22) d_122_18 (by decide) ?_
        exact ov_retz (st := []) d_122_22 rfl (by omega) ⟨_, rfl, rfl, rfl, (by show (1 = 0 ∨ 1 = 1) ∧ (1 = 1 → 0 ≤ g ∧ g ≤ 7); omega)⟩
    · skip
      refine ov_getf (v := ov_r 70) d_122_7 fl_OF_78 (zb_0 I) (zs_0 I) (congrArg ov_r e2) ?_
      refine ov_getf (v := ov_i (h 70 11)) d_122_10 fl_OF_292 (zb_70 I) (zs_70 I) rfl ?_
      have g5 := rg_70_11 I
      refine ov_blk (ls2 := [(0, ov_r 0), (1, ov_i g)]) (st2 := [ov_i (4 + (h 70 11)), ov_i g]) (pc2 := 14) b_122_13_1 rfl rfl ?_
      refine ov_icge (tgt := 21) d_122_14 (by decide) (by omega) (by omega) (fun c6 => ?_) (fun c6 => ?_)
      · skip
        refine ov_blk (ls2 := [(0, ov_r 0), (1, ov_i g)]) (st2 := [ov_i 0]) (pc2 := 22) b_122_21_1 rfl rfl ?_
        exact ov_retz (st := []) d_122_22 rfl (by omega) ⟨_, rfl, rfl, rfl, (by show (0 = 0 ∨ 0 = 1) ∧ (0 = 1 → 0 ≤ g ∧ g ≤ 7); omega)⟩
      · skip
        refine ov_blk (ls2 := [(0, ov_r 0), (1, ov_i g)]) (st2 := [ov_i 1]) (pc2 := 18) b_122_17_1 rfl rfl ?_
        refine ov_goto (tgt := 22) d_122_18 (by decide) ?_
        exact ov_retz (st := []) d_122_22 rfl (by omega) ⟨_, rfl, rfl, rfl, (by show (1 = 0 ∨ 1 = 1) ∧ (1 = 1 → 0 ≤ g ∧ g ≤ 7); omega)⟩
abbrev P_OF_runsLeft_0 (F : ov_H) (z : ov_Z) (h : ov_H)  : Option ov_V → ov_Z → ov_H → Prop := fun r0 z' h' => ∃ r : Int, r0 = some (ov_i r) ∧ z = z' ∧ h = h' ∧ (-2147483648 ≤ r ∧ r ≤ 2147483647)
set_option maxHeartbeats 4000000 in
theorem c_OF_runsLeft_0 {u : ov_U} {F : ov_H} {z : ov_Z} {h : ov_H} (d : Nat) (hd : 0 ≤ d) (U : ov_cap u) (I : ov_I F z h) : ov_T u d ov_m103 [ov_r 0] z h (P_OF_runsLeft_0 F z h) := by
  refine ov_en rfl (Nat.le_of_ble_eq_true rfl) ?_
  show ov_R u d ov_m103 0 [(0, ov_r 0)] [] z h (P_OF_runsLeft_0 F z h)
  refine ov_blk (ls2 := [(0, ov_r 0)]) (st2 := [ov_r 0]) (pc2 := 1) b_103_0_1 rfl rfl ?_
  rcases rg_0_10 I with e1 | e1
  · skip
    refine ov_getf (v := ov_r 58) d_103_1 fl_OF_78 (zb_0 I) (zs_0 I) (congrArg ov_r e1) ?_
    refine ov_getf (v := ov_i (h 58 8)) d_103_4 fl_OF_188 (zb_58 I) (zs_58 I) rfl ?_
    have g2 := rg_58_8 I
    refine ov_ifeq (tgt := 14) d_103_7 (by decide) (by omega) (fun c3 => ?_) (fun c3 => ?_)
    · skip
      refine ov_blk (ls2 := [(0, ov_r 0)]) (st2 := [ov_r 0]) (pc2 := 15) b_103_14_1 rfl rfl ?_
      refine ov_getf (v := ov_r 58) d_103_15 fl_OF_78 (zb_0 I) (zs_0 I) (congrArg ov_r e1) ?_
      refine ov_getf (v := ov_r 64) d_103_18 fl_OF_176 (zb_58 I) (zs_58 I) (congrArg ov_r (rg_58_7 I)) ?_
      refine ov_blk (ls2 := [(0, ov_r 0)]) (st2 := [ov_i 3, ov_r 64]) (pc2 := 22) b_103_21_1 rfl rfl ?_
      refine ov_iald d_103_22 (zb_64 I) (zs_64 I) (by omega) ?_
      have g4 := ra_64 I 3
      refine ov_blk (ls2 := [(0, ov_r 0)]) (st2 := [ov_r 0, ov_i (h 64 3)]) (pc2 := 24) b_103_23_1 rfl rfl ?_
      refine ov_getf (v := ov_r 4) d_103_24 fl_OF_28 (zb_0 I) (zs_0 I) (congrArg ov_r (rg_0_2 I)) ?_
      refine ov_getf (v := ov_i (h 4 2)) d_103_27 fl_OF_185 (zb_4 I) (zs_4 I) rfl ?_
      have g5 := rg_4_2 I
      refine ov_blk (ls2 := [(0, ov_r 0)]) (st2 := [ov_i ((h 64 3) - (h 4 2))]) (pc2 := 31) b_103_30_1 rfl rfl ?_
      refine ov_havw (fun w6 gw6 qw6 => ?_)
      exact ov_reti (st := []) d_103_31 rfl ⟨_, rfl, rfl, rfl, (by show -2147483648 ≤ w6 ∧ w6 ≤ 2147483647; omega)⟩
    · skip
      refine ov_blk (ls2 := [(0, ov_r 0)]) (st2 := [ov_i 0]) (pc2 := 11) b_103_10_1 rfl rfl ?_
      refine ov_goto (tgt := 31) d_103_11 (by decide) ?_
      exact ov_reti (st := []) d_103_31 rfl ⟨_, rfl, rfl, rfl, (by show -2147483648 ≤ 0 ∧ 0 ≤ 2147483647; omega)⟩
  · skip
    refine ov_getf (v := ov_r 70) d_103_1 fl_OF_78 (zb_0 I) (zs_0 I) (congrArg ov_r e1) ?_
    refine ov_getf (v := ov_i (h 70 8)) d_103_4 fl_OF_188 (zb_70 I) (zs_70 I) rfl ?_
    have g7 := rg_70_8 I
    refine ov_ifeq (tgt := 14) d_103_7 (by decide) (by omega) (fun c8 => ?_) (fun c8 => ?_)
    · skip
      refine ov_blk (ls2 := [(0, ov_r 0)]) (st2 := [ov_r 0]) (pc2 := 15) b_103_14_1 rfl rfl ?_
      refine ov_getf (v := ov_r 70) d_103_15 fl_OF_78 (zb_0 I) (zs_0 I) (congrArg ov_r e1) ?_
      refine ov_getf (v := ov_r 76) d_103_18 fl_OF_176 (zb_70 I) (zs_70 I) (congrArg ov_r (rg_70_7 I)) ?_
      refine ov_blk (ls2 := [(0, ov_r 0)]) (st2 := [ov_i 3, ov_r 76]) (pc2 := 22) b_103_21_1 rfl rfl ?_
      refine ov_iald d_103_22 (zb_76 I) (zs_76 I) (by omega) ?_
      have g9 := ra_76 I 3
      refine ov_blk (ls2 := [(0, ov_r 0)]) (st2 := [ov_r 0, ov_i (h 76 3)]) (pc2 := 24) b_103_23_1 rfl rfl ?_
      refine ov_getf (v := ov_r 4) d_103_24 fl_OF_28 (zb_0 I) (zs_0 I) (congrArg ov_r (rg_0_2 I)) ?_
      refine ov_getf (v := ov_i (h 4 2)) d_103_27 fl_OF_185 (zb_4 I) (zs_4 I) rfl ?_
      have g10 := rg_4_2 I
      refine ov_blk (ls2 := [(0, ov_r 0)]) (st2 := [ov_i ((h 76 3) - (h 4 2))]) (pc2 := 31) b_103_30_1 rfl rfl ?_
      refine ov_havw (fun w11 gw11 qw11 => ?_)
      exact ov_reti (st := []) d_103_31 rfl ⟨_, rfl, rfl, rfl, (by show -2147483648 ≤ w11 ∧ w11 ≤ 2147483647; omega)⟩
    · skip
      refine ov_blk (ls2 := [(0, ov_r 0)]) (st2 := [ov_i 0]) (pc2 := 11) b_103_10_1 rfl rfl ?_
      refine ov_goto (tgt := 31) d_103_11 (by decide) ?_
      exact ov_reti (st := []) d_103_31 rfl ⟨_, rfl, rfl, rfl, (by show -2147483648 ≤ 0 ∧ 0 ≤ 2147483647; omega)⟩
abbrev P_OF_hiddenLeft_0 (F : ov_H) (z : ov_Z) (h : ov_H)  : Option ov_V → ov_Z → ov_H → Prop := fun r0 z' h' => ∃ r : Int, r0 = some (ov_i r) ∧ z = z' ∧ h = h' ∧ (-2147483648 ≤ r ∧ r ≤ 2147483647)
set_option maxHeartbeats 4000000 in
theorem c_OF_hiddenLeft_0 {u : ov_U} {F : ov_H} {z : ov_Z} {h : ov_H} (d : Nat) (hd : 1 ≤ d) (U : ov_cap u) (I : ov_I F z h) : ov_T u d ov_m199 [ov_r 0] z h (P_OF_hiddenLeft_0 F z h) := by
  refine ov_en rfl (Nat.le_of_ble_eq_true rfl) ?_
  show ov_R u d ov_m199 0 [(0, ov_r 0)] [] z h (P_OF_hiddenLeft_0 F z h)
  refine ov_blk (ls2 := [(0, ov_r 0), (1, ov_i 0), (2, ov_i 0)]) (st2 := []) (pc2 := 4) b_199_0_4 rfl rfl ?_
  have L4 : ∀ (n1 : Nat) (x1 : Int) (x2 : Int) (q3 : 0 ≤ x1 ∧ x1 ≤ x2 ∧ 0 ≤ x2 ∧ x2 ≤ 54), 54 - x2 < (n1 : Int) → ov_R u d ov_m199 4 [(0, ov_r 0), (1, ov_i x1), (2, ov_i x2)] [] z h (P_OF_hiddenLeft_0 F z h) := by
    intro n1
    induction n1 with
    | zero =>
      intro x1 x2 q3 hn5
      exact absurd hn5 (by omega)
    | succ n1 ih2 =>
      intro x1 x2 q3 hn5
      refine ov_blk (ls2 := [(0, ov_r 0), (1, ov_i x1), (2, ov_i x2)]) (st2 := [ov_i 54, ov_i x2]) (pc2 := 7) b_199_4_2 rfl rfl ?_
      refine ov_icge (tgt := 43) d_199_7 (by decide) (by omega) (by omega) (fun c6 => ?_) (fun c6 => ?_)
      · skip
        refine ov_blk (ls2 := [(0, ov_r 0), (1, ov_i x1), (2, ov_i x2)]) (st2 := [ov_i x1]) (pc2 := 44) b_199_43_1 rfl rfl ?_
        exact ov_reti (st := []) d_199_44 rfl ⟨_, rfl, rfl, rfl, (by show -2147483648 ≤ x1 ∧ x1 ≤ 2147483647; omega)⟩
      · skip
        refine ov_blk (ls2 := [(0, ov_r 0), (1, ov_i x1), (2, ov_i x2)]) (st2 := [ov_r 0]) (pc2 := 11) b_199_10_1 rfl rfl ?_
        rcases rg_0_10 I with e7 | e7
        · skip
          refine ov_getf (v := ov_r 58) d_199_11 fl_OF_78 (zb_0 I) (zs_0 I) (congrArg ov_r e7) ?_
          refine ov_getf (v := ov_r 59) d_199_14 fl_OF_139 (zb_58 I) (zs_58 I) (congrArg ov_r (rg_58_2 I)) ?_
          refine ov_blk (ls2 := [(0, ov_r 0), (1, ov_i x1), (2, ov_i x2)]) (st2 := [ov_i x2, ov_r 59]) (pc2 := 18) b_199_17_1 rfl rfl ?_
          refine ov_iald d_199_18 (zb_59 I) (zs_59 I) (by omega) ?_
          have g8 := ra_59 I x2
          refine ov_blk (ls2 := [(0, ov_r 0), (1, ov_i x1), (2, ov_i x2)]) (st2 := [ov_i 1, ov_i (h 59 x2)]) (pc2 := 20) b_199_19_1 rfl rfl ?_
          refine ov_icne (tgt := 37) d_199_20 (by decide) (by omega) (by omega) (fun c9 => ?_) (fun c9 => ?_)
          · skip
            refine ov_blk (ls2 := [(0, ov_r 0), (1, ov_i x1), (2, ov_i (x2 + 1))]) (st2 := []) (pc2 := 40) b_199_37_1 rfl rfl ?_
            refine ov_goto (tgt := 4) d_199_40 (by decide) ?_
            exact ih2 x1 (x2 + 1) (by show 0 ≤ x1 ∧ x1 ≤ (x2 + 1) ∧ 0 ≤ (x2 + 1) ∧ (x2 + 1) ≤ 54; omega) (by omega)
          · skip
            refine ov_blk (ls2 := [(0, ov_r 0), (1, ov_i x1), (2, ov_i x2)]) (st2 := [ov_r 0]) (pc2 := 24) b_199_23_1 rfl rfl ?_
            refine ov_getf (v := ov_r 4) d_199_24 fl_OF_28 (zb_0 I) (zs_0 I) (congrArg ov_r (rg_0_2 I)) ?_
            refine ov_blk (ls2 := [(0, ov_r 0), (1, ov_i x1), (2, ov_i x2)]) (st2 := [ov_i x2, ov_r 4]) (pc2 := 28) b_199_27_1 rfl rfl ?_
            refine ov_cV (as := [ov_i x2]) (st := []) (d2 := d - 1) d_199_28 lk_OF_151 rfl (Nat.le_of_ble_eq_true rfl) (c := 7) (zb_4 I) (zs_4 I) ⟨by decide, rfl⟩ (by omega) (c_State_knows_4 (d - 1) (by omega) U I x2 (by omega)) ?_
            rintro _ _ _ ⟨v11, rfl, rfl, rfl, f10⟩
            show ov_R u d ov_m199 31 [(0, ov_r 0), (1, ov_i x1), (2, ov_i x2)] [ov_i v11] z h (P_OF_hiddenLeft_0 F z h)
            have f12 : (v11 = 0 ∨ v11 = 1) := f10
            clear f10
            refine ov_ifne (tgt := 37) d_199_31 (by decide) (by omega) (fun c13 => ?_) (fun c13 => ?_)
            · skip
              refine ov_blk (ls2 := [(0, ov_r 0), (1, ov_i x1), (2, ov_i (x2 + 1))]) (st2 := []) (pc2 := 40) b_199_37_1 rfl rfl ?_
              refine ov_goto (tgt := 4) d_199_40 (by decide) ?_
              exact ih2 x1 (x2 + 1) (by show 0 ≤ x1 ∧ x1 ≤ (x2 + 1) ∧ 0 ≤ (x2 + 1) ∧ (x2 + 1) ≤ 54; omega) (by omega)
            · skip
              refine ov_blk (ls2 := [(0, ov_r 0), (1, ov_i (x1 + 1)), (2, ov_i (x2 + 1))]) (st2 := []) (pc2 := 40) b_199_34_2 rfl rfl ?_
              refine ov_goto (tgt := 4) d_199_40 (by decide) ?_
              exact ih2 (x1 + 1) (x2 + 1) (by show 0 ≤ (x1 + 1) ∧ (x1 + 1) ≤ (x2 + 1) ∧ 0 ≤ (x2 + 1) ∧ (x2 + 1) ≤ 54; omega) (by omega)
        · skip
          refine ov_getf (v := ov_r 70) d_199_11 fl_OF_78 (zb_0 I) (zs_0 I) (congrArg ov_r e7) ?_
          refine ov_getf (v := ov_r 71) d_199_14 fl_OF_139 (zb_70 I) (zs_70 I) (congrArg ov_r (rg_70_2 I)) ?_
          refine ov_blk (ls2 := [(0, ov_r 0), (1, ov_i x1), (2, ov_i x2)]) (st2 := [ov_i x2, ov_r 71]) (pc2 := 18) b_199_17_1 rfl rfl ?_
          refine ov_iald d_199_18 (zb_71 I) (zs_71 I) (by omega) ?_
          have g14 := ra_71 I x2
          refine ov_blk (ls2 := [(0, ov_r 0), (1, ov_i x1), (2, ov_i x2)]) (st2 := [ov_i 1, ov_i (h 71 x2)]) (pc2 := 20) b_199_19_1 rfl rfl ?_
          refine ov_icne (tgt := 37) d_199_20 (by decide) (by omega) (by omega) (fun c15 => ?_) (fun c15 => ?_)
          · skip
            refine ov_blk (ls2 := [(0, ov_r 0), (1, ov_i x1), (2, ov_i (x2 + 1))]) (st2 := []) (pc2 := 40) b_199_37_1 rfl rfl ?_
            refine ov_goto (tgt := 4) d_199_40 (by decide) ?_
            exact ih2 x1 (x2 + 1) (by show 0 ≤ x1 ∧ x1 ≤ (x2 + 1) ∧ 0 ≤ (x2 + 1) ∧ (x2 + 1) ≤ 54; omega) (by omega)
          · skip
            refine ov_blk (ls2 := [(0, ov_r 0), (1, ov_i x1), (2, ov_i x2)]) (st2 := [ov_r 0]) (pc2 := 24) b_199_23_1 rfl rfl ?_
            refine ov_getf (v := ov_r 4) d_199_24 fl_OF_28 (zb_0 I) (zs_0 I) (congrArg ov_r (rg_0_2 I)) ?_
            refine ov_blk (ls2 := [(0, ov_r 0), (1, ov_i x1), (2, ov_i x2)]) (st2 := [ov_i x2, ov_r 4]) (pc2 := 28) b_199_27_1 rfl rfl ?_
            refine ov_cV (as := [ov_i x2]) (st := []) (d2 := d - 1) d_199_28 lk_OF_151 rfl (Nat.le_of_ble_eq_true rfl) (c := 7) (zb_4 I) (zs_4 I) ⟨by decide, rfl⟩ (by omega) (c_State_knows_4 (d - 1) (by omega) U I x2 (by omega)) ?_
            rintro _ _ _ ⟨v17, rfl, rfl, rfl, f16⟩
            show ov_R u d ov_m199 31 [(0, ov_r 0), (1, ov_i x1), (2, ov_i x2)] [ov_i v17] z h (P_OF_hiddenLeft_0 F z h)
            have f18 : (v17 = 0 ∨ v17 = 1) := f16
            clear f16
            refine ov_ifne (tgt := 37) d_199_31 (by decide) (by omega) (fun c19 => ?_) (fun c19 => ?_)
            · skip
              refine ov_blk (ls2 := [(0, ov_r 0), (1, ov_i x1), (2, ov_i (x2 + 1))]) (st2 := []) (pc2 := 40) b_199_37_1 rfl rfl ?_
              refine ov_goto (tgt := 4) d_199_40 (by decide) ?_
              exact ih2 x1 (x2 + 1) (by show 0 ≤ x1 ∧ x1 ≤ (x2 + 1) ∧ 0 ≤ (x2 + 1) ∧ (x2 + 1) ≤ 54; omega) (by omega)
            · skip
              refine ov_blk (ls2 := [(0, ov_r 0), (1, ov_i (x1 + 1)), (2, ov_i (x2 + 1))]) (st2 := []) (pc2 := 40) b_199_34_2 rfl rfl ?_
              refine ov_goto (tgt := 4) d_199_40 (by decide) ?_
              exact ih2 (x1 + 1) (x2 + 1) (by show 0 ≤ (x1 + 1) ∧ (x1 + 1) ≤ (x2 + 1) ∧ 0 ≤ (x2 + 1) ∧ (x2 + 1) ≤ 54; omega) (by omega)
  exact L4 55 0 0 (by show 0 ≤ 0 ∧ 0 ≤ 0 ∧ 0 ≤ 0 ∧ 0 ≤ 54; omega) (by omega)
abbrev P_OF_forgetMarks_0 (F : ov_H) (z : ov_Z) (h : ov_H)  : Option ov_V → ov_Z → ov_H → Prop := fun r0 z' h' => r0 = none ∧ ov_I F z' h' ∧ ((h' 36 7) = (h 36 7) ∧ (h' 1 1) = (h 1 1) ∧ (h' 90 2) = (h 90 2) ∧ (h' 0 10) = (h 0 10) ∧ (h' 0 11) = (h 0 11) ∧ (h' 0 12) = (h 0 12) ∧ (h' 0 13) = (h 0 13) ∧ (h' 3 1) = (h 3 1) ∧ (h' 36 8) = (h 36 8) ∧ (h' 46 3) = (h 46 3) ∧ (h' 46 4) = (h 46 4) ∧ (h' 49 4) = (h 49 4) ∧ (h' 49 5) = (h 49 5))
set_option maxHeartbeats 4000000 in
theorem c_OF_forgetMarks_0 {u : ov_U} {F : ov_H} {z : ov_Z} {h : ov_H} (d : Nat) (hd : 0 ≤ d) (U : ov_cap u) (I : ov_I F z h) : ov_T u d ov_m83 [ov_r 0] z h (P_OF_forgetMarks_0 F z h) := by
  refine ov_en rfl (Nat.le_of_ble_eq_true rfl) ?_
  show ov_R u d ov_m83 0 [(0, ov_r 0)] [] z h (P_OF_forgetMarks_0 F z h)
  refine ov_blk (ls2 := [(0, ov_r 0), (1, ov_i 0)]) (st2 := []) (pc2 := 2) b_83_0_2 rfl rfl ?_
  have L4 : ∀ (n1 : Nat) (x1 : Int) (z5 : ov_Z) (h6 : ov_H) (I7 : ov_I F z5 h6) (q3 : 0 ≤ x1 ∧ x1 ≤ 4 ∧ (h6 36 7) = (h 36 7) ∧ (h6 1 1) = (h 1 1) ∧ (h6 90 2) = (h 90 2) ∧ (h6 0 10) = (h 0 10) ∧ (h6 0 11) = (h 0 11) ∧ (h6 0 12) = (h 0 12) ∧ (h6 0 13) = (h 0 13) ∧ (h6 3 1) = (h 3 1) ∧ (h6 36 8) = (h 36 8) ∧ (h6 46 3) = (h 46 3) ∧ (h6 46 4) = (h 46 4) ∧ (h6 49 4) = (h 49 4) ∧ (h6 49 5) = (h 49 5)), 4 - x1 < (n1 : Int) → ov_R u d ov_m83 2 [(0, ov_r 0), (1, ov_i x1)] [] z5 h6 (P_OF_forgetMarks_0 F z h) := by
    intro n1
    induction n1 with
    | zero =>
      intro x1 z5 h6 I7 q3 hn8
      exact absurd hn8 (by omega)
    | succ n1 ih2 =>
      intro x1 z5 h6 I7 q3 hn8
      refine ov_blk (ls2 := [(0, ov_r 0), (1, ov_i x1)]) (st2 := [ov_r 0, ov_i x1]) (pc2 := 4) b_83_2_2 rfl rfl ?_
      refine ov_getf (v := ov_r 35) d_83_4 fl_OF_43 (zb_0 I7) (zs_0 I7) (congrArg ov_r (rg_0_5 I7)) ?_
      refine ov_alen d_83_7 (zb_35 I7) (zs_35 I7) (by decide) ?_
      show ov_R u d ov_m83 8 [(0, ov_r 0), (1, ov_i x1)] [ov_i 4, ov_i x1] z5 h6 (P_OF_forgetMarks_0 F z h)
      refine ov_icge (tgt := 24) d_83_8 (by decide) (by omega) (by omega) (fun c9 => ?_) (fun c9 => ?_)
      · skip
        exact ov_retv (st := []) d_83_24 rfl ⟨rfl, I7, (by show (h6 36 7) = (h 36 7) ∧ (h6 1 1) = (h 1 1) ∧ (h6 90 2) = (h 90 2) ∧ (h6 0 10) = (h 0 10) ∧ (h6 0 11) = (h 0 11) ∧ (h6 0 12) = (h 0 12) ∧ (h6 0 13) = (h 0 13) ∧ (h6 3 1) = (h 3 1) ∧ (h6 36 8) = (h 36 8) ∧ (h6 46 3) = (h 46 3) ∧ (h6 46 4) = (h 46 4) ∧ (h6 49 4) = (h 49 4) ∧ (h6 49 5) = (h 49 5); omega)⟩
      · skip
        refine ov_blk (ls2 := [(0, ov_r 0), (1, ov_i x1)]) (st2 := [ov_r 0]) (pc2 := 12) b_83_11_1 rfl rfl ?_
        refine ov_getf (v := ov_r 35) d_83_12 fl_OF_43 (zb_0 I7) (zs_0 I7) (congrArg ov_r (rg_0_5 I7)) ?_
        refine ov_blk (ls2 := [(0, ov_r 0), (1, ov_i x1)]) (st2 := [ov_i 0, ov_i x1, ov_r 35]) (pc2 := 17) b_83_15_2 rfl rfl ?_
        refine ov_zast d_83_17 (zb_35 I7) (zs_35 I7) (by omega) (by omega) ?_
        have I10 := ua_35 (k := x1) (x := 0) I7 (by omega)
        refine ov_blk (ls2 := [(0, ov_r 0), (1, ov_i (x1 + 1))]) (st2 := []) (pc2 := 21) b_83_18_1 rfl rfl ?_
        refine ov_goto (tgt := 2) d_83_21 (by decide) ?_
        exact ih2 (x1 + 1) _ _ I10 (by show 0 ≤ (x1 + 1) ∧ (x1 + 1) ≤ 4 ∧ (h6 36 7) = (h 36 7) ∧ (h6 1 1) = (h 1 1) ∧ (h6 90 2) = (h 90 2) ∧ (h6 0 10) = (h 0 10) ∧ (h6 0 11) = (h 0 11) ∧ (h6 0 12) = (h 0 12) ∧ (h6 0 13) = (h 0 13) ∧ (h6 3 1) = (h 3 1) ∧ (h6 36 8) = (h 36 8) ∧ (h6 46 3) = (h 46 3) ∧ (h6 46 4) = (h 46 4) ∧ (h6 49 4) = (h 49 4) ∧ (h6 49 5) = (h 49 5); omega) (by omega)
  exact L4 5 0 _ _ I (by show 0 ≤ 0 ∧ 0 ≤ 4 ∧ (h 36 7) = (h 36 7) ∧ (h 1 1) = (h 1 1) ∧ (h 90 2) = (h 90 2) ∧ (h 0 10) = (h 0 10) ∧ (h 0 11) = (h 0 11) ∧ (h 0 12) = (h 0 12) ∧ (h 0 13) = (h 0 13) ∧ (h 3 1) = (h 3 1) ∧ (h 36 8) = (h 36 8) ∧ (h 46 3) = (h 46 3) ∧ (h 46 4) = (h 46 4) ∧ (h 49 4) = (h 49 4) ∧ (h 49 5) = (h 49 5); omega) (by omega)
abbrev P_OF_forgetReckonings_0 (F : ov_H) (z : ov_Z) (h : ov_H)  : Option ov_V → ov_Z → ov_H → Prop := fun r0 z' h' => r0 = none ∧ ov_I F z' h' ∧ ((h' 36 7) = 0 ∧ (h' 1 1) = (h 1 1) ∧ (h' 90 2) = (h 90 2) ∧ (h' 0 10) = (h 0 10) ∧ (h' 0 11) = (h 0 11) ∧ (h' 0 12) = (h 0 12) ∧ (h' 0 13) = (h 0 13) ∧ (h' 3 1) = (h 3 1) ∧ (h' 36 8) = (h 36 8) ∧ (h' 46 3) = (h 46 3) ∧ (h' 46 4) = (h 46 4) ∧ (h' 49 4) = (h 49 4) ∧ (h' 49 5) = (h 49 5))
set_option maxHeartbeats 4000000 in
theorem c_OF_forgetReckonings_0 {u : ov_U} {F : ov_H} {z : ov_Z} {h : ov_H} (d : Nat) (hd : 1 ≤ d) (U : ov_cap u) (I : ov_I F z h) : ov_T u d ov_m84 [ov_r 0] z h (P_OF_forgetReckonings_0 F z h) := by
  refine ov_en rfl (Nat.le_of_ble_eq_true rfl) ?_
  show ov_R u d ov_m84 0 [(0, ov_r 0)] [] z h (P_OF_forgetReckonings_0 F z h)
  refine ov_blk (ls2 := [(0, ov_r 0)]) (st2 := [ov_r 0]) (pc2 := 1) b_84_0_1 rfl rfl ?_
  refine ov_getf (v := ov_r 36) d_84_1 fl_OF_50 (zb_0 I) (zs_0 I) (congrArg ov_r (rg_0_6 I)) ?_
  refine ov_cV (as := []) (st := []) (d2 := d - 1) d_84_4 lk_OF_129 rfl (Nat.le_of_ble_eq_true rfl) (c := 2) (zb_36 I) (zs_36 I) ⟨by decide, rfl⟩ (by omega) (c_Goers_forget_36 (d - 1) (by omega) U I) ?_
  rintro _ z2 h3 ⟨rfl, I4, f1⟩
  show ov_R u d ov_m84 7 [(0, ov_r 0)] [] z2 h3 (P_OF_forgetReckonings_0 F z h)
  have f5 : (h3 36 7) = 0 ∧ (h3 1 1) = (h 1 1) ∧ (h3 90 2) = (h 90 2) ∧ (h3 0 10) = (h 0 10) ∧ (h3 0 11) = (h 0 11) ∧ (h3 0 12) = (h 0 12) ∧ (h3 0 13) = (h 0 13) ∧ (h3 3 1) = (h 3 1) ∧ (h3 36 8) = (h 36 8) ∧ (h3 46 3) = (h 46 3) ∧ (h3 46 4) = (h 46 4) ∧ (h3 49 4) = (h 49 4) ∧ (h3 49 5) = (h 49 5) := f1
  clear f1
  refine ov_blk (ls2 := [(0, ov_r 0)]) (st2 := [ov_r 0]) (pc2 := 8) b_84_7_1 rfl rfl ?_
  refine ov_getf (v := ov_r 49) d_84_8 fl_OF_64 (zb_0 I4) (zs_0 I4) (congrArg ov_r (rg_0_8 I4)) ?_
  refine ov_cV (as := []) (st := []) (d2 := d - 1) d_84_11 lk_OF_126 rfl (Nat.le_of_ble_eq_true rfl) (c := 5) (zb_49 I4) (zs_49 I4) ⟨by decide, rfl⟩ (by omega) (c_Pace_forget_49 (d - 1) (by omega) U I4) ?_
  rintro _ z7 h8 ⟨rfl, I9, f6⟩
  show ov_R u d ov_m84 14 [(0, ov_r 0)] [] z7 h8 (P_OF_forgetReckonings_0 F z h)
  have f10 : (h8 36 7) = (h3 36 7) ∧ (h8 1 1) = (h3 1 1) ∧ (h8 90 2) = (h3 90 2) ∧ (h8 0 10) = (h3 0 10) ∧ (h8 0 11) = (h3 0 11) ∧ (h8 0 12) = (h3 0 12) ∧ (h8 0 13) = (h3 0 13) ∧ (h8 3 1) = (h3 3 1) ∧ (h8 36 8) = (h3 36 8) ∧ (h8 46 3) = (h3 46 3) ∧ (h8 46 4) = (h3 46 4) ∧ (h8 49 4) = (h3 49 4) ∧ (h8 49 5) = (h3 49 5) := f6
  clear f6
  refine ov_blk (ls2 := [(0, ov_r 0)]) (st2 := [ov_r 0]) (pc2 := 15) b_84_14_1 rfl rfl ?_
  refine ov_getf (v := ov_r 54) d_84_15 fl_OF_71 (zb_0 I9) (zs_0 I9) (congrArg ov_r (rg_0_9 I9)) ?_
  refine ov_cV (as := []) (st := []) (d2 := d - 1) d_84_18 lk_OF_130 rfl (Nat.le_of_ble_eq_true rfl) (c := 11) (zb_54 I9) (zs_54 I9) ⟨by decide, rfl⟩ (by omega) (c_Wave_forget_54 (d - 1) (by omega) U I9) ?_
  rintro _ z12 h13 ⟨rfl, I14, f11⟩
  show ov_R u d ov_m84 21 [(0, ov_r 0)] [] z12 h13 (P_OF_forgetReckonings_0 F z h)
  have f15 : (h13 36 7) = (h8 36 7) ∧ (h13 1 1) = (h8 1 1) ∧ (h13 90 2) = (h8 90 2) ∧ (h13 0 10) = (h8 0 10) ∧ (h13 0 11) = (h8 0 11) ∧ (h13 0 12) = (h8 0 12) ∧ (h13 0 13) = (h8 0 13) ∧ (h13 3 1) = (h8 3 1) ∧ (h13 36 8) = (h8 36 8) ∧ (h13 46 3) = (h8 46 3) ∧ (h13 46 4) = (h8 46 4) ∧ (h13 49 4) = (h8 49 4) ∧ (h13 49 5) = (h8 49 5) := f11
  clear f11
  exact ov_retv (st := []) d_84_21 rfl ⟨rfl, I14, (by show (h13 36 7) = 0 ∧ (h13 1 1) = (h 1 1) ∧ (h13 90 2) = (h 90 2) ∧ (h13 0 10) = (h 0 10) ∧ (h13 0 11) = (h 0 11) ∧ (h13 0 12) = (h 0 12) ∧ (h13 0 13) = (h 0 13) ∧ (h13 3 1) = (h 3 1) ∧ (h13 36 8) = (h 36 8) ∧ (h13 46 3) = (h 46 3) ∧ (h13 46 4) = (h 46 4) ∧ (h13 49 4) = (h 49 4) ∧ (h13 49 5) = (h 49 5); omega)⟩
abbrev P_OF_feed_0 (F : ov_H) (z : ov_Z) (h : ov_H) (a : Int) (b : Int) (c : Int) : Option ov_V → ov_Z → ov_H → Prop := fun r0 z' h' => ∃ r : Int, r0 = some (ov_i r) ∧ ov_I F z' h' ∧ (r = (h' 1 1) ∧ (h' 36 7) = (h 36 7) ∧ (h' 90 2) = (h 90 2) ∧ (h' 0 10) = (h 0 10) ∧ (h' 0 11) = (h 0 11) ∧ (h' 0 12) = (h 0 12) ∧ (h' 0 13) = (h 0 13) ∧ (h' 3 1) = (h 3 1) ∧ (h' 36 8) = (h 36 8) ∧ (h' 46 3) = (h 46 3) ∧ (h' 46 4) = (h 46 4) ∧ (h' 49 4) = (h 49 4) ∧ (h' 49 5) = (h 49 5))
set_option maxHeartbeats 4000000 in
theorem c_OF_feed_0 {u : ov_U} {F : ov_H} {z : ov_Z} {h : ov_H} (d : Nat) (hd : 1 ≤ d) (U : ov_cap u) (I : ov_I F z h) (a : Int) (b : Int) (c : Int) : ov_T u d ov_m21 [ov_r 0, ov_l a, ov_l b, ov_l c] z h (P_OF_feed_0 F z h a b c) := by
  refine ov_en rfl (Nat.le_of_ble_eq_true rfl) ?_
  show ov_R u d ov_m21 0 [(0, ov_r 0), (1, ov_l a), (3, ov_l b), (5, ov_l c)] [] z h (P_OF_feed_0 F z h a b c)
  refine ov_blk (ls2 := [(0, ov_r 0), (1, ov_l a), (3, ov_l b), (5, ov_l c)]) (st2 := [ov_r 0]) (pc2 := 1) b_21_0_1 rfl rfl ?_
  refine ov_getf (v := ov_r 1) d_21_1 fl_OF_12 (zb_0 I) (zs_0 I) (congrArg ov_r (rg_0_0 I)) ?_
  refine ov_blk (ls2 := [(0, ov_r 0), (1, ov_l a), (3, ov_l b), (5, ov_l c)]) (st2 := [ov_l a, ov_r 1]) (pc2 := 5) b_21_4_1 rfl rfl ?_
  refine ov_cV (as := [ov_l a]) (st := []) (d2 := d - 1) d_21_5 lk_OF_101 rfl (Nat.le_of_ble_eq_true rfl) (c := 8) (zb_1 I) (zs_1 I) ⟨by decide, rfl⟩ (by omega) (c_Tape_append_1 (d - 1) (by omega) U I a) ?_
  rintro _ z2 h3 ⟨rfl, I4, f1⟩
  show ov_R u d ov_m21 8 [(0, ov_r 0), (1, ov_l a), (3, ov_l b), (5, ov_l c)] [] z2 h3 (P_OF_feed_0 F z h a b c)
  have f5 : (h 1 1) ≤ (h3 1 1) ∧ (h3 36 7) = (h 36 7) ∧ (h3 90 2) = (h 90 2) ∧ (h3 0 10) = (h 0 10) ∧ (h3 0 11) = (h 0 11) ∧ (h3 0 12) = (h 0 12) ∧ (h3 0 13) = (h 0 13) ∧ (h3 3 1) = (h 3 1) ∧ (h3 36 8) = (h 36 8) ∧ (h3 46 3) = (h 46 3) ∧ (h3 46 4) = (h 46 4) ∧ (h3 49 4) = (h 49 4) ∧ (h3 49 5) = (h 49 5) := f1
  clear f1
  refine ov_blk (ls2 := [(0, ov_r 0), (1, ov_l a), (3, ov_l b), (5, ov_l c)]) (st2 := [ov_r 0]) (pc2 := 9) b_21_8_1 rfl rfl ?_
  refine ov_getf (v := ov_r 1) d_21_9 fl_OF_12 (zb_0 I4) (zs_0 I4) (congrArg ov_r (rg_0_0 I4)) ?_
  refine ov_blk (ls2 := [(0, ov_r 0), (1, ov_l a), (3, ov_l b), (5, ov_l c)]) (st2 := [ov_l b, ov_r 1]) (pc2 := 13) b_21_12_1 rfl rfl ?_
  refine ov_cV (as := [ov_l b]) (st := []) (d2 := d - 1) d_21_13 lk_OF_101 rfl (Nat.le_of_ble_eq_true rfl) (c := 8) (zb_1 I4) (zs_1 I4) ⟨by decide, rfl⟩ (by omega) (c_Tape_append_1 (d - 1) (by omega) U I4 b) ?_
  rintro _ z7 h8 ⟨rfl, I9, f6⟩
  show ov_R u d ov_m21 16 [(0, ov_r 0), (1, ov_l a), (3, ov_l b), (5, ov_l c)] [] z7 h8 (P_OF_feed_0 F z h a b c)
  have f10 : (h3 1 1) ≤ (h8 1 1) ∧ (h8 36 7) = (h3 36 7) ∧ (h8 90 2) = (h3 90 2) ∧ (h8 0 10) = (h3 0 10) ∧ (h8 0 11) = (h3 0 11) ∧ (h8 0 12) = (h3 0 12) ∧ (h8 0 13) = (h3 0 13) ∧ (h8 3 1) = (h3 3 1) ∧ (h8 36 8) = (h3 36 8) ∧ (h8 46 3) = (h3 46 3) ∧ (h8 46 4) = (h3 46 4) ∧ (h8 49 4) = (h3 49 4) ∧ (h8 49 5) = (h3 49 5) := f6
  clear f6
  refine ov_blk (ls2 := [(0, ov_r 0), (1, ov_l a), (3, ov_l b), (5, ov_l c)]) (st2 := [ov_r 0]) (pc2 := 17) b_21_16_1 rfl rfl ?_
  refine ov_getf (v := ov_r 1) d_21_17 fl_OF_12 (zb_0 I9) (zs_0 I9) (congrArg ov_r (rg_0_0 I9)) ?_
  refine ov_blk (ls2 := [(0, ov_r 0), (1, ov_l a), (3, ov_l b), (5, ov_l c)]) (st2 := [ov_l c, ov_r 1]) (pc2 := 22) b_21_20_1 rfl rfl ?_
  refine ov_cV (as := [ov_l c]) (st := []) (d2 := d - 1) d_21_22 lk_OF_101 rfl (Nat.le_of_ble_eq_true rfl) (c := 8) (zb_1 I9) (zs_1 I9) ⟨by decide, rfl⟩ (by omega) (c_Tape_append_1 (d - 1) (by omega) U I9 c) ?_
  rintro _ z12 h13 ⟨rfl, I14, f11⟩
  show ov_R u d ov_m21 25 [(0, ov_r 0), (1, ov_l a), (3, ov_l b), (5, ov_l c)] [] z12 h13 (P_OF_feed_0 F z h a b c)
  have f15 : (h8 1 1) ≤ (h13 1 1) ∧ (h13 36 7) = (h8 36 7) ∧ (h13 90 2) = (h8 90 2) ∧ (h13 0 10) = (h8 0 10) ∧ (h13 0 11) = (h8 0 11) ∧ (h13 0 12) = (h8 0 12) ∧ (h13 0 13) = (h8 0 13) ∧ (h13 3 1) = (h8 3 1) ∧ (h13 36 8) = (h8 36 8) ∧ (h13 46 3) = (h8 46 3) ∧ (h13 46 4) = (h8 46 4) ∧ (h13 49 4) = (h8 49 4) ∧ (h13 49 5) = (h8 49 5) := f11
  clear f11
  refine ov_blk (ls2 := [(0, ov_r 0), (1, ov_l a), (3, ov_l b), (5, ov_l c)]) (st2 := [ov_r 0]) (pc2 := 26) b_21_25_1 rfl rfl ?_
  refine ov_getf (v := ov_r 1) d_21_26 fl_OF_12 (zb_0 I14) (zs_0 I14) (congrArg ov_r (rg_0_0 I14)) ?_
  refine ov_getf (v := ov_i (h13 1 1)) d_21_29 fl_OF_105 (zb_1 I14) (zs_1 I14) rfl ?_
  have g16 := rg_1_1 I14
  exact ov_reti (st := []) d_21_32 rfl ⟨_, rfl, I14, (by show (h13 1 1) = (h13 1 1) ∧ (h13 36 7) = (h 36 7) ∧ (h13 90 2) = (h 90 2) ∧ (h13 0 10) = (h 0 10) ∧ (h13 0 11) = (h 0 11) ∧ (h13 0 12) = (h 0 12) ∧ (h13 0 13) = (h 0 13) ∧ (h13 3 1) = (h 3 1) ∧ (h13 36 8) = (h 36 8) ∧ (h13 46 3) = (h 46 3) ∧ (h13 46 4) = (h 46 4) ∧ (h13 49 4) = (h 49 4) ∧ (h13 49 5) = (h 49 5); omega)⟩
abbrev P_OF_town_0 (F : ov_H) (z : ov_Z) (h : ov_H)  : Option ov_V → ov_Z → ov_H → Prop := fun r0 z' h' => ∃ r : Int, r0 = some (ov_i r) ∧ ov_I F z' h' ∧ ((h' 1 1) = 0 ∧ ((h' 36 7) = 1 → ¬ (h' 36 8) = -1) ∧ (h' 90 2) = (h 90 2) ∧ (h' 0 12) = (h 0 12) ∧ (h' 0 13) = (h 0 13) ∧ (h' 46 3) = (h 46 3) ∧ (h' 46 4) = (h 46 4) ∧ (h' 49 4) = (h 49 4) ∧ (h' 49 5) = (h 49 5))
set_option maxHeartbeats 4000000 in
theorem c_OF_town_0 {u : ov_U} {F : ov_H} {z : ov_Z} {h : ov_H} (d : Nat) (hd : 50 ≤ d) (U : ov_cap u) (I : ov_I F z h) (p0 : h 36 7 = 1 → ¬ h 36 8 = -1) : ov_T u d ov_m23 [ov_r 0] z h (P_OF_town_0 F z h) := by
  refine ov_en rfl (Nat.le_of_ble_eq_true rfl) ?_
  show ov_R u d ov_m23 0 [(0, ov_r 0)] [] z h (P_OF_town_0 F z h)
  refine ov_blk (ls2 := [(0, ov_r 0)]) (st2 := [ov_r 0]) (pc2 := 1) b_23_0_1 rfl rfl ?_
  refine ov_getf (v := ov_r 3) d_23_1 fl_OF_21 (zb_0 I) (zs_0 I) (congrArg ov_r (rg_0_1 I)) ?_
  refine ov_blk (ls2 := [(0, ov_r 0)]) (st2 := [ov_r 0, ov_r 3]) (pc2 := 5) b_23_4_1 rfl rfl ?_
  rcases rg_0_11 I with e1 | e1
  · skip
    refine ov_getf (v := ov_r 58) d_23_5 fl_OF_82 (zb_0 I) (zs_0 I) (congrArg ov_r e1) ?_
    refine ov_cV (as := [ov_r 58]) (st := []) (d2 := d - 1) d_23_8 lk_OF_109 rfl (Nat.le_of_ble_eq_true rfl) (c := 6) (zb_3 I) (zs_3 I) ⟨by decide, rfl⟩ (by omega) (c_Reader_readTown_3_58 (d - 1) (by omega) U I) ?_
    rintro _ z4 h5 ⟨v3, rfl, I6, f2⟩
    show ov_R u d ov_m23 11 [(0, ov_r 0)] [ov_i v3] z4 h5 (P_OF_town_0 F z h)
    have f7 : (h5 1 1) = 0 ∧ (h5 36 7) = (h 36 7) ∧ (h5 90 2) = (h 90 2) ∧ (h5 0 10) = (h 0 10) ∧ (h5 0 11) = (h 0 11) ∧ (h5 0 12) = (h 0 12) ∧ (h5 0 13) = (h 0 13) ∧ (h5 36 8) = (h 36 8) ∧ (h5 46 3) = (h 46 3) ∧ (h5 46 4) = (h 46 4) ∧ (h5 49 4) = (h 49 4) ∧ (h5 49 5) = (h 49 5) := f2
    clear f2
    have e8 : h5 0 11 = 58 := by omega
    refine ov_havw (fun w9 gw9 qw9 => ?_)
    refine ov_blk (ls2 := [(0, ov_r 0), (1, ov_i w9)]) (st2 := [ov_i w9]) (pc2 := 13) b_23_11_2 rfl rfl ?_
    refine ov_ifne (tgt := 63) d_23_13 (by decide) (by omega) (fun c10 => ?_) (fun c10 => ?_)
    · skip
      refine ov_blk (ls2 := [(0, ov_r 0), (1, ov_i w9)]) (st2 := [ov_i w9]) (pc2 := 64) b_23_63_1 rfl rfl ?_
      exact ov_reti (st := []) d_23_64 rfl ⟨_, rfl, I6, (by show (h5 1 1) = 0 ∧ ((h5 36 7) = 1 → ¬ (h5 36 8) = -1) ∧ (h5 90 2) = (h 90 2) ∧ (h5 0 12) = (h 0 12) ∧ (h5 0 13) = (h 0 13) ∧ (h5 46 3) = (h 46 3) ∧ (h5 46 4) = (h 46 4) ∧ (h5 49 4) = (h 49 4) ∧ (h5 49 5) = (h 49 5); omega)⟩
    · skip
      refine ov_blk (ls2 := [(0, ov_r 0), (1, ov_i w9)]) (st2 := [ov_r 0]) (pc2 := 17) b_23_16_1 rfl rfl ?_
      rcases rg_0_10 I6 with e11 | e11
      · skip
        refine ov_getf (v := ov_r 58) d_23_17 fl_OF_78 (zb_0 I6) (zs_0 I6) (congrArg ov_r e11) ?_
        refine ov_blk (ls2 := [(0, ov_r 0), (1, ov_i w9), (2, ov_r 58)]) (st2 := [ov_r 0, ov_r 0]) (pc2 := 23) b_23_20_3 rfl rfl ?_
        refine ov_getf (v := ov_r 58) d_23_23 fl_OF_82 (zb_0 I6) (zs_0 I6) (congrArg ov_r e8) ?_
        refine ov_putf (x := 58) d_23_26 fl_OF_78 (zb_0 I6) (zs_0 I6) rfl nk_2 rfl ?_
        have I12 := up_0_10 (x := 58) I6 (by omega)
        refine ov_blk (ls2 := [(0, ov_r 0), (1, ov_i w9), (2, ov_r 58)]) (st2 := [ov_r 58, ov_r 0]) (pc2 := 31) b_23_29_2 rfl rfl ?_
        refine ov_putf (x := 58) d_23_31 fl_OF_82 (zb_0 I12) (zs_0 I12) rfl nk_2 rfl ?_
        have I13 := up_0_11 (x := 58) I12 (by omega)
        refine ov_blk (ls2 := [(0, ov_r 0), (1, ov_i w9), (2, ov_r 58)]) (st2 := [ov_r 0]) (pc2 := 35) b_23_34_1 rfl rfl ?_
        rcases rg_0_12 I6 with e14 | e14
        · skip
          refine ov_getf (v := ov_r 82) d_23_35 fl_OF_88 (zb_0 I13) (zs_0 I13) (congrArg ov_r e14) ?_
          refine ov_cV (as := []) (st := []) (d2 := d - 1) d_23_38 lk_OF_113 rfl (Nat.le_of_ble_eq_true rfl) (c := 10) (zb_82 I13) (zs_82 I13) ⟨by decide, rfl⟩ (by omega) (c_Walk_clear_82 (d - 1) (by omega) U I13) ?_
          rintro _ z16 h17 ⟨rfl, I18, f15⟩
          show ov_R u d ov_m23 41 [(0, ov_r 0), (1, ov_i w9), (2, ov_r 58)] [] z16 h17 (P_OF_town_0 F z h)
          have f19 : (h17 36 7) = (h5 36 7) ∧ (h17 1 1) = (h5 1 1) ∧ (h17 90 2) = (h5 90 2) ∧ (h17 0 10) = 58 ∧ (h17 0 11) = 58 ∧ (h17 0 12) = (h5 0 12) ∧ (h17 0 13) = (h5 0 13) ∧ (h17 3 1) = (h5 3 1) ∧ (h17 36 8) = (h5 36 8) ∧ (h17 46 3) = (h5 46 3) ∧ (h17 46 4) = (h5 46 4) ∧ (h17 49 4) = (h5 49 4) ∧ (h17 49 5) = (h5 49 5) := f15
          clear f15
          have e20 : h17 0 10 = 58 := by omega
          have e21 : h17 0 11 = 58 := by omega
          have e22 : h17 0 12 = 82 := by omega
          refine ov_blk (ls2 := [(0, ov_r 0), (1, ov_i w9), (2, ov_r 58)]) (st2 := [ov_r 0]) (pc2 := 42) b_23_41_1 rfl rfl ?_
          refine ov_getf (v := ov_r 4) d_23_42 fl_OF_28 (zb_0 I18) (zs_0 I18) (congrArg ov_r (rg_0_2 I18)) ?_
          refine ov_cV (as := []) (st := []) (d2 := d - 1) d_23_45 lk_OF_114 rfl (Nat.le_of_ble_eq_true rfl) (c := 7) (zb_4 I18) (zs_4 I18) ⟨by decide, rfl⟩ (by omega) (c_State_clear_4 (d - 1) (by omega) U I18) ?_
          rintro _ z24 h25 ⟨rfl, I26, f23⟩
          show ov_R u d ov_m23 48 [(0, ov_r 0), (1, ov_i w9), (2, ov_r 58)] [] z24 h25 (P_OF_town_0 F z h)
          have f27 : (h25 36 7) = (h17 36 7) ∧ (h25 1 1) = (h17 1 1) ∧ (h25 90 2) = (h17 90 2) ∧ (h25 0 10) = (h17 0 10) ∧ (h25 0 11) = (h17 0 11) ∧ (h25 0 12) = (h17 0 12) ∧ (h25 0 13) = (h17 0 13) ∧ (h25 3 1) = (h17 3 1) ∧ (h25 36 8) = (h17 36 8) ∧ (h25 46 3) = (h17 46 3) ∧ (h25 46 4) = (h17 46 4) ∧ (h25 49 4) = (h17 49 4) ∧ (h25 49 5) = (h17 49 5) := f23
          clear f23
          have e28 : h25 0 10 = 58 := by omega
          have e29 : h25 0 11 = 58 := by omega
          have e30 : h25 0 12 = 82 := by omega
          refine ov_blk (ls2 := [(0, ov_r 0), (1, ov_i w9), (2, ov_r 58)]) (st2 := [ov_r 0]) (pc2 := 49) b_23_48_1 rfl rfl ?_
          refine ov_getf (v := ov_r 9) d_23_49 fl_OF_35 (zb_0 I26) (zs_0 I26) (congrArg ov_r (rg_0_3 I26)) ?_
          refine ov_cV (as := []) (st := []) (d2 := d - 1) d_23_52 lk_OF_115 rfl (Nat.le_of_ble_eq_true rfl) (c := 3) (zb_9 I26) (zs_9 I26) ⟨by decide, rfl⟩ (by omega) (c_History_clear_9 (d - 1) (by omega) U I26) ?_
          rintro _ z32 h33 ⟨rfl, I34, f31⟩
          show ov_R u d ov_m23 55 [(0, ov_r 0), (1, ov_i w9), (2, ov_r 58)] [] z32 h33 (P_OF_town_0 F z h)
          have f35 : (h33 36 7) = (h25 36 7) ∧ (h33 1 1) = (h25 1 1) ∧ (h33 90 2) = (h25 90 2) ∧ (h33 0 10) = (h25 0 10) ∧ (h33 0 11) = (h25 0 11) ∧ (h33 0 12) = (h25 0 12) ∧ (h33 0 13) = (h25 0 13) ∧ (h33 3 1) = (h25 3 1) ∧ (h33 36 8) = (h25 36 8) ∧ (h33 46 3) = (h25 46 3) ∧ (h33 46 4) = (h25 46 4) ∧ (h33 49 4) = (h25 49 4) ∧ (h33 49 5) = (h25 49 5) := f31
          clear f31
          have e36 : h33 0 10 = 58 := by omega
          have e37 : h33 0 11 = 58 := by omega
          have e38 : h33 0 12 = 82 := by omega
          refine ov_blk (ls2 := [(0, ov_r 0), (1, ov_i w9), (2, ov_r 58)]) (st2 := [ov_r 0]) (pc2 := 56) b_23_55_1 rfl rfl ?_
          refine ov_cV (as := []) (st := []) (d2 := d - 1) d_23_56 lk_OF_116 rfl (Nat.le_of_ble_eq_true rfl) (c := 0) (zb_0 I34) (zs_0 I34) ⟨by decide, rfl⟩ (by omega) (c_OF_forgetMarks_0 (d - 1) (by omega) U I34) ?_
          rintro _ z40 h41 ⟨rfl, I42, f39⟩
          show ov_R u d ov_m23 59 [(0, ov_r 0), (1, ov_i w9), (2, ov_r 58)] [] z40 h41 (P_OF_town_0 F z h)
          have f43 : (h41 36 7) = (h33 36 7) ∧ (h41 1 1) = (h33 1 1) ∧ (h41 90 2) = (h33 90 2) ∧ (h41 0 10) = (h33 0 10) ∧ (h41 0 11) = (h33 0 11) ∧ (h41 0 12) = (h33 0 12) ∧ (h41 0 13) = (h33 0 13) ∧ (h41 3 1) = (h33 3 1) ∧ (h41 36 8) = (h33 36 8) ∧ (h41 46 3) = (h33 46 3) ∧ (h41 46 4) = (h33 46 4) ∧ (h41 49 4) = (h33 49 4) ∧ (h41 49 5) = (h33 49 5) := f39
          clear f39
          have e44 : h41 0 10 = 58 := by omega
          have e45 : h41 0 11 = 58 := by omega
          have e46 : h41 0 12 = 82 := by omega
          refine ov_blk (ls2 := [(0, ov_r 0), (1, ov_i w9), (2, ov_r 58)]) (st2 := [ov_r 0]) (pc2 := 60) b_23_59_1 rfl rfl ?_
          refine ov_cV (as := []) (st := []) (d2 := d - 1) d_23_60 lk_OF_119 rfl (Nat.le_of_ble_eq_true rfl) (c := 0) (zb_0 I42) (zs_0 I42) ⟨by decide, rfl⟩ (by omega) (c_OF_forgetReckonings_0 (d - 1) (by omega) U I42) ?_
          rintro _ z48 h49 ⟨rfl, I50, f47⟩
          show ov_R u d ov_m23 63 [(0, ov_r 0), (1, ov_i w9), (2, ov_r 58)] [] z48 h49 (P_OF_town_0 F z h)
          have f51 : (h49 36 7) = 0 ∧ (h49 1 1) = (h41 1 1) ∧ (h49 90 2) = (h41 90 2) ∧ (h49 0 10) = (h41 0 10) ∧ (h49 0 11) = (h41 0 11) ∧ (h49 0 12) = (h41 0 12) ∧ (h49 0 13) = (h41 0 13) ∧ (h49 3 1) = (h41 3 1) ∧ (h49 36 8) = (h41 36 8) ∧ (h49 46 3) = (h41 46 3) ∧ (h49 46 4) = (h41 46 4) ∧ (h49 49 4) = (h41 49 4) ∧ (h49 49 5) = (h41 49 5) := f47
          clear f47
          have e52 : h49 0 10 = 58 := by omega
          have e53 : h49 0 11 = 58 := by omega
          have e54 : h49 0 12 = 82 := by omega
          refine ov_blk (ls2 := [(0, ov_r 0), (1, ov_i w9), (2, ov_r 58)]) (st2 := [ov_i w9]) (pc2 := 64) b_23_63_1 rfl rfl ?_
          exact ov_reti (st := []) d_23_64 rfl ⟨_, rfl, I50, (by show (h49 1 1) = 0 ∧ ((h49 36 7) = 1 → ¬ (h49 36 8) = -1) ∧ (h49 90 2) = (h 90 2) ∧ (h49 0 12) = (h 0 12) ∧ (h49 0 13) = (h 0 13) ∧ (h49 46 3) = (h 46 3) ∧ (h49 46 4) = (h 46 4) ∧ (h49 49 4) = (h 49 4) ∧ (h49 49 5) = (h 49 5); omega)⟩
        · skip
          refine ov_getf (v := ov_r 86) d_23_35 fl_OF_88 (zb_0 I13) (zs_0 I13) (congrArg ov_r e14) ?_
          refine ov_cV (as := []) (st := []) (d2 := d - 1) d_23_38 lk_OF_113 rfl (Nat.le_of_ble_eq_true rfl) (c := 10) (zb_86 I13) (zs_86 I13) ⟨by decide, rfl⟩ (by omega) (c_Walk_clear_86 (d - 1) (by omega) U I13) ?_
          rintro _ z56 h57 ⟨rfl, I58, f55⟩
          show ov_R u d ov_m23 41 [(0, ov_r 0), (1, ov_i w9), (2, ov_r 58)] [] z56 h57 (P_OF_town_0 F z h)
          have f59 : (h57 36 7) = (h5 36 7) ∧ (h57 1 1) = (h5 1 1) ∧ (h57 90 2) = (h5 90 2) ∧ (h57 0 10) = 58 ∧ (h57 0 11) = 58 ∧ (h57 0 12) = (h5 0 12) ∧ (h57 0 13) = (h5 0 13) ∧ (h57 3 1) = (h5 3 1) ∧ (h57 36 8) = (h5 36 8) ∧ (h57 46 3) = (h5 46 3) ∧ (h57 46 4) = (h5 46 4) ∧ (h57 49 4) = (h5 49 4) ∧ (h57 49 5) = (h5 49 5) := f55
          clear f55
          have e60 : h57 0 10 = 58 := by omega
          have e61 : h57 0 11 = 58 := by omega
          have e62 : h57 0 12 = 86 := by omega
          refine ov_blk (ls2 := [(0, ov_r 0), (1, ov_i w9), (2, ov_r 58)]) (st2 := [ov_r 0]) (pc2 := 42) b_23_41_1 rfl rfl ?_
          refine ov_getf (v := ov_r 4) d_23_42 fl_OF_28 (zb_0 I58) (zs_0 I58) (congrArg ov_r (rg_0_2 I58)) ?_
          refine ov_cV (as := []) (st := []) (d2 := d - 1) d_23_45 lk_OF_114 rfl (Nat.le_of_ble_eq_true rfl) (c := 7) (zb_4 I58) (zs_4 I58) ⟨by decide, rfl⟩ (by omega) (c_State_clear_4 (d - 1) (by omega) U I58) ?_
          rintro _ z64 h65 ⟨rfl, I66, f63⟩
          show ov_R u d ov_m23 48 [(0, ov_r 0), (1, ov_i w9), (2, ov_r 58)] [] z64 h65 (P_OF_town_0 F z h)
          have f67 : (h65 36 7) = (h57 36 7) ∧ (h65 1 1) = (h57 1 1) ∧ (h65 90 2) = (h57 90 2) ∧ (h65 0 10) = (h57 0 10) ∧ (h65 0 11) = (h57 0 11) ∧ (h65 0 12) = (h57 0 12) ∧ (h65 0 13) = (h57 0 13) ∧ (h65 3 1) = (h57 3 1) ∧ (h65 36 8) = (h57 36 8) ∧ (h65 46 3) = (h57 46 3) ∧ (h65 46 4) = (h57 46 4) ∧ (h65 49 4) = (h57 49 4) ∧ (h65 49 5) = (h57 49 5) := f63
          clear f63
          have e68 : h65 0 10 = 58 := by omega
          have e69 : h65 0 11 = 58 := by omega
          have e70 : h65 0 12 = 86 := by omega
          refine ov_blk (ls2 := [(0, ov_r 0), (1, ov_i w9), (2, ov_r 58)]) (st2 := [ov_r 0]) (pc2 := 49) b_23_48_1 rfl rfl ?_
          refine ov_getf (v := ov_r 9) d_23_49 fl_OF_35 (zb_0 I66) (zs_0 I66) (congrArg ov_r (rg_0_3 I66)) ?_
          refine ov_cV (as := []) (st := []) (d2 := d - 1) d_23_52 lk_OF_115 rfl (Nat.le_of_ble_eq_true rfl) (c := 3) (zb_9 I66) (zs_9 I66) ⟨by decide, rfl⟩ (by omega) (c_History_clear_9 (d - 1) (by omega) U I66) ?_
          rintro _ z72 h73 ⟨rfl, I74, f71⟩
          show ov_R u d ov_m23 55 [(0, ov_r 0), (1, ov_i w9), (2, ov_r 58)] [] z72 h73 (P_OF_town_0 F z h)
          have f75 : (h73 36 7) = (h65 36 7) ∧ (h73 1 1) = (h65 1 1) ∧ (h73 90 2) = (h65 90 2) ∧ (h73 0 10) = (h65 0 10) ∧ (h73 0 11) = (h65 0 11) ∧ (h73 0 12) = (h65 0 12) ∧ (h73 0 13) = (h65 0 13) ∧ (h73 3 1) = (h65 3 1) ∧ (h73 36 8) = (h65 36 8) ∧ (h73 46 3) = (h65 46 3) ∧ (h73 46 4) = (h65 46 4) ∧ (h73 49 4) = (h65 49 4) ∧ (h73 49 5) = (h65 49 5) := f71
          clear f71
          have e76 : h73 0 10 = 58 := by omega
          have e77 : h73 0 11 = 58 := by omega
          have e78 : h73 0 12 = 86 := by omega
          refine ov_blk (ls2 := [(0, ov_r 0), (1, ov_i w9), (2, ov_r 58)]) (st2 := [ov_r 0]) (pc2 := 56) b_23_55_1 rfl rfl ?_
          refine ov_cV (as := []) (st := []) (d2 := d - 1) d_23_56 lk_OF_116 rfl (Nat.le_of_ble_eq_true rfl) (c := 0) (zb_0 I74) (zs_0 I74) ⟨by decide, rfl⟩ (by omega) (c_OF_forgetMarks_0 (d - 1) (by omega) U I74) ?_
          rintro _ z80 h81 ⟨rfl, I82, f79⟩
          show ov_R u d ov_m23 59 [(0, ov_r 0), (1, ov_i w9), (2, ov_r 58)] [] z80 h81 (P_OF_town_0 F z h)
          have f83 : (h81 36 7) = (h73 36 7) ∧ (h81 1 1) = (h73 1 1) ∧ (h81 90 2) = (h73 90 2) ∧ (h81 0 10) = (h73 0 10) ∧ (h81 0 11) = (h73 0 11) ∧ (h81 0 12) = (h73 0 12) ∧ (h81 0 13) = (h73 0 13) ∧ (h81 3 1) = (h73 3 1) ∧ (h81 36 8) = (h73 36 8) ∧ (h81 46 3) = (h73 46 3) ∧ (h81 46 4) = (h73 46 4) ∧ (h81 49 4) = (h73 49 4) ∧ (h81 49 5) = (h73 49 5) := f79
          clear f79
          have e84 : h81 0 10 = 58 := by omega
          have e85 : h81 0 11 = 58 := by omega
          have e86 : h81 0 12 = 86 := by omega
          refine ov_blk (ls2 := [(0, ov_r 0), (1, ov_i w9), (2, ov_r 58)]) (st2 := [ov_r 0]) (pc2 := 60) b_23_59_1 rfl rfl ?_
          refine ov_cV (as := []) (st := []) (d2 := d - 1) d_23_60 lk_OF_119 rfl (Nat.le_of_ble_eq_true rfl) (c := 0) (zb_0 I82) (zs_0 I82) ⟨by decide, rfl⟩ (by omega) (c_OF_forgetReckonings_0 (d - 1) (by omega) U I82) ?_
          rintro _ z88 h89 ⟨rfl, I90, f87⟩
          show ov_R u d ov_m23 63 [(0, ov_r 0), (1, ov_i w9), (2, ov_r 58)] [] z88 h89 (P_OF_town_0 F z h)
          have f91 : (h89 36 7) = 0 ∧ (h89 1 1) = (h81 1 1) ∧ (h89 90 2) = (h81 90 2) ∧ (h89 0 10) = (h81 0 10) ∧ (h89 0 11) = (h81 0 11) ∧ (h89 0 12) = (h81 0 12) ∧ (h89 0 13) = (h81 0 13) ∧ (h89 3 1) = (h81 3 1) ∧ (h89 36 8) = (h81 36 8) ∧ (h89 46 3) = (h81 46 3) ∧ (h89 46 4) = (h81 46 4) ∧ (h89 49 4) = (h81 49 4) ∧ (h89 49 5) = (h81 49 5) := f87
          clear f87
          have e92 : h89 0 10 = 58 := by omega
          have e93 : h89 0 11 = 58 := by omega
          have e94 : h89 0 12 = 86 := by omega
          refine ov_blk (ls2 := [(0, ov_r 0), (1, ov_i w9), (2, ov_r 58)]) (st2 := [ov_i w9]) (pc2 := 64) b_23_63_1 rfl rfl ?_
          exact ov_reti (st := []) d_23_64 rfl ⟨_, rfl, I90, (by show (h89 1 1) = 0 ∧ ((h89 36 7) = 1 → ¬ (h89 36 8) = -1) ∧ (h89 90 2) = (h 90 2) ∧ (h89 0 12) = (h 0 12) ∧ (h89 0 13) = (h 0 13) ∧ (h89 46 3) = (h 46 3) ∧ (h89 46 4) = (h 46 4) ∧ (h89 49 4) = (h 49 4) ∧ (h89 49 5) = (h 49 5); omega)⟩
      · skip
        refine ov_getf (v := ov_r 70) d_23_17 fl_OF_78 (zb_0 I6) (zs_0 I6) (congrArg ov_r e11) ?_
        refine ov_blk (ls2 := [(0, ov_r 0), (1, ov_i w9), (2, ov_r 70)]) (st2 := [ov_r 0, ov_r 0]) (pc2 := 23) b_23_20_3 rfl rfl ?_
        refine ov_getf (v := ov_r 58) d_23_23 fl_OF_82 (zb_0 I6) (zs_0 I6) (congrArg ov_r e8) ?_
        refine ov_putf (x := 58) d_23_26 fl_OF_78 (zb_0 I6) (zs_0 I6) rfl nk_2 rfl ?_
        have I95 := up_0_10 (x := 58) I6 (by omega)
        refine ov_blk (ls2 := [(0, ov_r 0), (1, ov_i w9), (2, ov_r 70)]) (st2 := [ov_r 70, ov_r 0]) (pc2 := 31) b_23_29_2 rfl rfl ?_
        refine ov_putf (x := 70) d_23_31 fl_OF_82 (zb_0 I95) (zs_0 I95) rfl nk_2 rfl ?_
        have I96 := up_0_11 (x := 70) I95 (by omega)
        refine ov_blk (ls2 := [(0, ov_r 0), (1, ov_i w9), (2, ov_r 70)]) (st2 := [ov_r 0]) (pc2 := 35) b_23_34_1 rfl rfl ?_
        rcases rg_0_12 I6 with e97 | e97
        · skip
          refine ov_getf (v := ov_r 82) d_23_35 fl_OF_88 (zb_0 I96) (zs_0 I96) (congrArg ov_r e97) ?_
          refine ov_cV (as := []) (st := []) (d2 := d - 1) d_23_38 lk_OF_113 rfl (Nat.le_of_ble_eq_true rfl) (c := 10) (zb_82 I96) (zs_82 I96) ⟨by decide, rfl⟩ (by omega) (c_Walk_clear_82 (d - 1) (by omega) U I96) ?_
          rintro _ z99 h100 ⟨rfl, I101, f98⟩
          show ov_R u d ov_m23 41 [(0, ov_r 0), (1, ov_i w9), (2, ov_r 70)] [] z99 h100 (P_OF_town_0 F z h)
          have f102 : (h100 36 7) = (h5 36 7) ∧ (h100 1 1) = (h5 1 1) ∧ (h100 90 2) = (h5 90 2) ∧ (h100 0 10) = 58 ∧ (h100 0 11) = 70 ∧ (h100 0 12) = (h5 0 12) ∧ (h100 0 13) = (h5 0 13) ∧ (h100 3 1) = (h5 3 1) ∧ (h100 36 8) = (h5 36 8) ∧ (h100 46 3) = (h5 46 3) ∧ (h100 46 4) = (h5 46 4) ∧ (h100 49 4) = (h5 49 4) ∧ (h100 49 5) = (h5 49 5) := f98
          clear f98
          have e103 : h100 0 10 = 58 := by omega
          have e104 : h100 0 11 = 70 := by omega
          have e105 : h100 0 12 = 82 := by omega
          refine ov_blk (ls2 := [(0, ov_r 0), (1, ov_i w9), (2, ov_r 70)]) (st2 := [ov_r 0]) (pc2 := 42) b_23_41_1 rfl rfl ?_
          refine ov_getf (v := ov_r 4) d_23_42 fl_OF_28 (zb_0 I101) (zs_0 I101) (congrArg ov_r (rg_0_2 I101)) ?_
          refine ov_cV (as := []) (st := []) (d2 := d - 1) d_23_45 lk_OF_114 rfl (Nat.le_of_ble_eq_true rfl) (c := 7) (zb_4 I101) (zs_4 I101) ⟨by decide, rfl⟩ (by omega) (c_State_clear_4 (d - 1) (by omega) U I101) ?_
          rintro _ z107 h108 ⟨rfl, I109, f106⟩
          show ov_R u d ov_m23 48 [(0, ov_r 0), (1, ov_i w9), (2, ov_r 70)] [] z107 h108 (P_OF_town_0 F z h)
          have f110 : (h108 36 7) = (h100 36 7) ∧ (h108 1 1) = (h100 1 1) ∧ (h108 90 2) = (h100 90 2) ∧ (h108 0 10) = (h100 0 10) ∧ (h108 0 11) = (h100 0 11) ∧ (h108 0 12) = (h100 0 12) ∧ (h108 0 13) = (h100 0 13) ∧ (h108 3 1) = (h100 3 1) ∧ (h108 36 8) = (h100 36 8) ∧ (h108 46 3) = (h100 46 3) ∧ (h108 46 4) = (h100 46 4) ∧ (h108 49 4) = (h100 49 4) ∧ (h108 49 5) = (h100 49 5) := f106
          clear f106
          have e111 : h108 0 10 = 58 := by omega
          have e112 : h108 0 11 = 70 := by omega
          have e113 : h108 0 12 = 82 := by omega
          refine ov_blk (ls2 := [(0, ov_r 0), (1, ov_i w9), (2, ov_r 70)]) (st2 := [ov_r 0]) (pc2 := 49) b_23_48_1 rfl rfl ?_
          refine ov_getf (v := ov_r 9) d_23_49 fl_OF_35 (zb_0 I109) (zs_0 I109) (congrArg ov_r (rg_0_3 I109)) ?_
          refine ov_cV (as := []) (st := []) (d2 := d - 1) d_23_52 lk_OF_115 rfl (Nat.le_of_ble_eq_true rfl) (c := 3) (zb_9 I109) (zs_9 I109) ⟨by decide, rfl⟩ (by omega) (c_History_clear_9 (d - 1) (by omega) U I109) ?_
          rintro _ z115 h116 ⟨rfl, I117, f114⟩
          show ov_R u d ov_m23 55 [(0, ov_r 0), (1, ov_i w9), (2, ov_r 70)] [] z115 h116 (P_OF_town_0 F z h)
          have f118 : (h116 36 7) = (h108 36 7) ∧ (h116 1 1) = (h108 1 1) ∧ (h116 90 2) = (h108 90 2) ∧ (h116 0 10) = (h108 0 10) ∧ (h116 0 11) = (h108 0 11) ∧ (h116 0 12) = (h108 0 12) ∧ (h116 0 13) = (h108 0 13) ∧ (h116 3 1) = (h108 3 1) ∧ (h116 36 8) = (h108 36 8) ∧ (h116 46 3) = (h108 46 3) ∧ (h116 46 4) = (h108 46 4) ∧ (h116 49 4) = (h108 49 4) ∧ (h116 49 5) = (h108 49 5) := f114
          clear f114
          have e119 : h116 0 10 = 58 := by omega
          have e120 : h116 0 11 = 70 := by omega
          have e121 : h116 0 12 = 82 := by omega
          refine ov_blk (ls2 := [(0, ov_r 0), (1, ov_i w9), (2, ov_r 70)]) (st2 := [ov_r 0]) (pc2 := 56) b_23_55_1 rfl rfl ?_
          refine ov_cV (as := []) (st := []) (d2 := d - 1) d_23_56 lk_OF_116 rfl (Nat.le_of_ble_eq_true rfl) (c := 0) (zb_0 I117) (zs_0 I117) ⟨by decide, rfl⟩ (by omega) (c_OF_forgetMarks_0 (d - 1) (by omega) U I117) ?_
          rintro _ z123 h124 ⟨rfl, I125, f122⟩
          show ov_R u d ov_m23 59 [(0, ov_r 0), (1, ov_i w9), (2, ov_r 70)] [] z123 h124 (P_OF_town_0 F z h)
          have f126 : (h124 36 7) = (h116 36 7) ∧ (h124 1 1) = (h116 1 1) ∧ (h124 90 2) = (h116 90 2) ∧ (h124 0 10) = (h116 0 10) ∧ (h124 0 11) = (h116 0 11) ∧ (h124 0 12) = (h116 0 12) ∧ (h124 0 13) = (h116 0 13) ∧ (h124 3 1) = (h116 3 1) ∧ (h124 36 8) = (h116 36 8) ∧ (h124 46 3) = (h116 46 3) ∧ (h124 46 4) = (h116 46 4) ∧ (h124 49 4) = (h116 49 4) ∧ (h124 49 5) = (h116 49 5) := f122
          clear f122
          have e127 : h124 0 10 = 58 := by omega
          have e128 : h124 0 11 = 70 := by omega
          have e129 : h124 0 12 = 82 := by omega
          refine ov_blk (ls2 := [(0, ov_r 0), (1, ov_i w9), (2, ov_r 70)]) (st2 := [ov_r 0]) (pc2 := 60) b_23_59_1 rfl rfl ?_
          refine ov_cV (as := []) (st := []) (d2 := d - 1) d_23_60 lk_OF_119 rfl (Nat.le_of_ble_eq_true rfl) (c := 0) (zb_0 I125) (zs_0 I125) ⟨by decide, rfl⟩ (by omega) (c_OF_forgetReckonings_0 (d - 1) (by omega) U I125) ?_
          rintro _ z131 h132 ⟨rfl, I133, f130⟩
          show ov_R u d ov_m23 63 [(0, ov_r 0), (1, ov_i w9), (2, ov_r 70)] [] z131 h132 (P_OF_town_0 F z h)
          have f134 : (h132 36 7) = 0 ∧ (h132 1 1) = (h124 1 1) ∧ (h132 90 2) = (h124 90 2) ∧ (h132 0 10) = (h124 0 10) ∧ (h132 0 11) = (h124 0 11) ∧ (h132 0 12) = (h124 0 12) ∧ (h132 0 13) = (h124 0 13) ∧ (h132 3 1) = (h124 3 1) ∧ (h132 36 8) = (h124 36 8) ∧ (h132 46 3) = (h124 46 3) ∧ (h132 46 4) = (h124 46 4) ∧ (h132 49 4) = (h124 49 4) ∧ (h132 49 5) = (h124 49 5) := f130
          clear f130
          have e135 : h132 0 10 = 58 := by omega
          have e136 : h132 0 11 = 70 := by omega
          have e137 : h132 0 12 = 82 := by omega
          refine ov_blk (ls2 := [(0, ov_r 0), (1, ov_i w9), (2, ov_r 70)]) (st2 := [ov_i w9]) (pc2 := 64) b_23_63_1 rfl rfl ?_
          exact ov_reti (st := []) d_23_64 rfl ⟨_, rfl, I133, (by show (h132 1 1) = 0 ∧ ((h132 36 7) = 1 → ¬ (h132 36 8) = -1) ∧ (h132 90 2) = (h 90 2) ∧ (h132 0 12) = (h 0 12) ∧ (h132 0 13) = (h 0 13) ∧ (h132 46 3) = (h 46 3) ∧ (h132 46 4) = (h 46 4) ∧ (h132 49 4) = (h 49 4) ∧ (h132 49 5) = (h 49 5); omega)⟩
        · skip
          refine ov_getf (v := ov_r 86) d_23_35 fl_OF_88 (zb_0 I96) (zs_0 I96) (congrArg ov_r e97) ?_
          refine ov_cV (as := []) (st := []) (d2 := d - 1) d_23_38 lk_OF_113 rfl (Nat.le_of_ble_eq_true rfl) (c := 10) (zb_86 I96) (zs_86 I96) ⟨by decide, rfl⟩ (by omega) (c_Walk_clear_86 (d - 1) (by omega) U I96) ?_
          rintro _ z139 h140 ⟨rfl, I141, f138⟩
          show ov_R u d ov_m23 41 [(0, ov_r 0), (1, ov_i w9), (2, ov_r 70)] [] z139 h140 (P_OF_town_0 F z h)
          have f142 : (h140 36 7) = (h5 36 7) ∧ (h140 1 1) = (h5 1 1) ∧ (h140 90 2) = (h5 90 2) ∧ (h140 0 10) = 58 ∧ (h140 0 11) = 70 ∧ (h140 0 12) = (h5 0 12) ∧ (h140 0 13) = (h5 0 13) ∧ (h140 3 1) = (h5 3 1) ∧ (h140 36 8) = (h5 36 8) ∧ (h140 46 3) = (h5 46 3) ∧ (h140 46 4) = (h5 46 4) ∧ (h140 49 4) = (h5 49 4) ∧ (h140 49 5) = (h5 49 5) := f138
          clear f138
          have e143 : h140 0 10 = 58 := by omega
          have e144 : h140 0 11 = 70 := by omega
          have e145 : h140 0 12 = 86 := by omega
          refine ov_blk (ls2 := [(0, ov_r 0), (1, ov_i w9), (2, ov_r 70)]) (st2 := [ov_r 0]) (pc2 := 42) b_23_41_1 rfl rfl ?_
          refine ov_getf (v := ov_r 4) d_23_42 fl_OF_28 (zb_0 I141) (zs_0 I141) (congrArg ov_r (rg_0_2 I141)) ?_
          refine ov_cV (as := []) (st := []) (d2 := d - 1) d_23_45 lk_OF_114 rfl (Nat.le_of_ble_eq_true rfl) (c := 7) (zb_4 I141) (zs_4 I141) ⟨by decide, rfl⟩ (by omega) (c_State_clear_4 (d - 1) (by omega) U I141) ?_
          rintro _ z147 h148 ⟨rfl, I149, f146⟩
          show ov_R u d ov_m23 48 [(0, ov_r 0), (1, ov_i w9), (2, ov_r 70)] [] z147 h148 (P_OF_town_0 F z h)
          have f150 : (h148 36 7) = (h140 36 7) ∧ (h148 1 1) = (h140 1 1) ∧ (h148 90 2) = (h140 90 2) ∧ (h148 0 10) = (h140 0 10) ∧ (h148 0 11) = (h140 0 11) ∧ (h148 0 12) = (h140 0 12) ∧ (h148 0 13) = (h140 0 13) ∧ (h148 3 1) = (h140 3 1) ∧ (h148 36 8) = (h140 36 8) ∧ (h148 46 3) = (h140 46 3) ∧ (h148 46 4) = (h140 46 4) ∧ (h148 49 4) = (h140 49 4) ∧ (h148 49 5) = (h140 49 5) := f146
          clear f146
          have e151 : h148 0 10 = 58 := by omega
          have e152 : h148 0 11 = 70 := by omega
          have e153 : h148 0 12 = 86 := by omega
          refine ov_blk (ls2 := [(0, ov_r 0), (1, ov_i w9), (2, ov_r 70)]) (st2 := [ov_r 0]) (pc2 := 49) b_23_48_1 rfl rfl ?_
          refine ov_getf (v := ov_r 9) d_23_49 fl_OF_35 (zb_0 I149) (zs_0 I149) (congrArg ov_r (rg_0_3 I149)) ?_
          refine ov_cV (as := []) (st := []) (d2 := d - 1) d_23_52 lk_OF_115 rfl (Nat.le_of_ble_eq_true rfl) (c := 3) (zb_9 I149) (zs_9 I149) ⟨by decide, rfl⟩ (by omega) (c_History_clear_9 (d - 1) (by omega) U I149) ?_
          rintro _ z155 h156 ⟨rfl, I157, f154⟩
          show ov_R u d ov_m23 55 [(0, ov_r 0), (1, ov_i w9), (2, ov_r 70)] [] z155 h156 (P_OF_town_0 F z h)
          have f158 : (h156 36 7) = (h148 36 7) ∧ (h156 1 1) = (h148 1 1) ∧ (h156 90 2) = (h148 90 2) ∧ (h156 0 10) = (h148 0 10) ∧ (h156 0 11) = (h148 0 11) ∧ (h156 0 12) = (h148 0 12) ∧ (h156 0 13) = (h148 0 13) ∧ (h156 3 1) = (h148 3 1) ∧ (h156 36 8) = (h148 36 8) ∧ (h156 46 3) = (h148 46 3) ∧ (h156 46 4) = (h148 46 4) ∧ (h156 49 4) = (h148 49 4) ∧ (h156 49 5) = (h148 49 5) := f154
          clear f154
          have e159 : h156 0 10 = 58 := by omega
          have e160 : h156 0 11 = 70 := by omega
          have e161 : h156 0 12 = 86 := by omega
          refine ov_blk (ls2 := [(0, ov_r 0), (1, ov_i w9), (2, ov_r 70)]) (st2 := [ov_r 0]) (pc2 := 56) b_23_55_1 rfl rfl ?_
          refine ov_cV (as := []) (st := []) (d2 := d - 1) d_23_56 lk_OF_116 rfl (Nat.le_of_ble_eq_true rfl) (c := 0) (zb_0 I157) (zs_0 I157) ⟨by decide, rfl⟩ (by omega) (c_OF_forgetMarks_0 (d - 1) (by omega) U I157) ?_
          rintro _ z163 h164 ⟨rfl, I165, f162⟩
          show ov_R u d ov_m23 59 [(0, ov_r 0), (1, ov_i w9), (2, ov_r 70)] [] z163 h164 (P_OF_town_0 F z h)
          have f166 : (h164 36 7) = (h156 36 7) ∧ (h164 1 1) = (h156 1 1) ∧ (h164 90 2) = (h156 90 2) ∧ (h164 0 10) = (h156 0 10) ∧ (h164 0 11) = (h156 0 11) ∧ (h164 0 12) = (h156 0 12) ∧ (h164 0 13) = (h156 0 13) ∧ (h164 3 1) = (h156 3 1) ∧ (h164 36 8) = (h156 36 8) ∧ (h164 46 3) = (h156 46 3) ∧ (h164 46 4) = (h156 46 4) ∧ (h164 49 4) = (h156 49 4) ∧ (h164 49 5) = (h156 49 5) := f162
          clear f162
          have e167 : h164 0 10 = 58 := by omega
          have e168 : h164 0 11 = 70 := by omega
          have e169 : h164 0 12 = 86 := by omega
          refine ov_blk (ls2 := [(0, ov_r 0), (1, ov_i w9), (2, ov_r 70)]) (st2 := [ov_r 0]) (pc2 := 60) b_23_59_1 rfl rfl ?_
          refine ov_cV (as := []) (st := []) (d2 := d - 1) d_23_60 lk_OF_119 rfl (Nat.le_of_ble_eq_true rfl) (c := 0) (zb_0 I165) (zs_0 I165) ⟨by decide, rfl⟩ (by omega) (c_OF_forgetReckonings_0 (d - 1) (by omega) U I165) ?_
          rintro _ z171 h172 ⟨rfl, I173, f170⟩
          show ov_R u d ov_m23 63 [(0, ov_r 0), (1, ov_i w9), (2, ov_r 70)] [] z171 h172 (P_OF_town_0 F z h)
          have f174 : (h172 36 7) = 0 ∧ (h172 1 1) = (h164 1 1) ∧ (h172 90 2) = (h164 90 2) ∧ (h172 0 10) = (h164 0 10) ∧ (h172 0 11) = (h164 0 11) ∧ (h172 0 12) = (h164 0 12) ∧ (h172 0 13) = (h164 0 13) ∧ (h172 3 1) = (h164 3 1) ∧ (h172 36 8) = (h164 36 8) ∧ (h172 46 3) = (h164 46 3) ∧ (h172 46 4) = (h164 46 4) ∧ (h172 49 4) = (h164 49 4) ∧ (h172 49 5) = (h164 49 5) := f170
          clear f170
          have e175 : h172 0 10 = 58 := by omega
          have e176 : h172 0 11 = 70 := by omega
          have e177 : h172 0 12 = 86 := by omega
          refine ov_blk (ls2 := [(0, ov_r 0), (1, ov_i w9), (2, ov_r 70)]) (st2 := [ov_i w9]) (pc2 := 64) b_23_63_1 rfl rfl ?_
          exact ov_reti (st := []) d_23_64 rfl ⟨_, rfl, I173, (by show (h172 1 1) = 0 ∧ ((h172 36 7) = 1 → ¬ (h172 36 8) = -1) ∧ (h172 90 2) = (h 90 2) ∧ (h172 0 12) = (h 0 12) ∧ (h172 0 13) = (h 0 13) ∧ (h172 46 3) = (h 46 3) ∧ (h172 46 4) = (h 46 4) ∧ (h172 49 4) = (h 49 4) ∧ (h172 49 5) = (h 49 5); omega)⟩
  · skip
    refine ov_getf (v := ov_r 70) d_23_5 fl_OF_82 (zb_0 I) (zs_0 I) (congrArg ov_r e1) ?_
    refine ov_cV (as := [ov_r 70]) (st := []) (d2 := d - 1) d_23_8 lk_OF_109 rfl (Nat.le_of_ble_eq_true rfl) (c := 6) (zb_3 I) (zs_3 I) ⟨by decide, rfl⟩ (by omega) (c_Reader_readTown_3_70 (d - 1) (by omega) U I) ?_
    rintro _ z180 h181 ⟨v179, rfl, I182, f178⟩
    show ov_R u d ov_m23 11 [(0, ov_r 0)] [ov_i v179] z180 h181 (P_OF_town_0 F z h)
    have f183 : (h181 1 1) = 0 ∧ (h181 36 7) = (h 36 7) ∧ (h181 90 2) = (h 90 2) ∧ (h181 0 10) = (h 0 10) ∧ (h181 0 11) = (h 0 11) ∧ (h181 0 12) = (h 0 12) ∧ (h181 0 13) = (h 0 13) ∧ (h181 36 8) = (h 36 8) ∧ (h181 46 3) = (h 46 3) ∧ (h181 46 4) = (h 46 4) ∧ (h181 49 4) = (h 49 4) ∧ (h181 49 5) = (h 49 5) := f178
    clear f178
    have e184 : h181 0 11 = 70 := by omega
    refine ov_havw (fun w185 gw185 qw185 => ?_)
    refine ov_blk (ls2 := [(0, ov_r 0), (1, ov_i w185)]) (st2 := [ov_i w185]) (pc2 := 13) b_23_11_2 rfl rfl ?_
    refine ov_ifne (tgt := 63) d_23_13 (by decide) (by omega) (fun c186 => ?_) (fun c186 => ?_)
    · skip
      refine ov_blk (ls2 := [(0, ov_r 0), (1, ov_i w185)]) (st2 := [ov_i w185]) (pc2 := 64) b_23_63_1 rfl rfl ?_
      exact ov_reti (st := []) d_23_64 rfl ⟨_, rfl, I182, (by show (h181 1 1) = 0 ∧ ((h181 36 7) = 1 → ¬ (h181 36 8) = -1) ∧ (h181 90 2) = (h 90 2) ∧ (h181 0 12) = (h 0 12) ∧ (h181 0 13) = (h 0 13) ∧ (h181 46 3) = (h 46 3) ∧ (h181 46 4) = (h 46 4) ∧ (h181 49 4) = (h 49 4) ∧ (h181 49 5) = (h 49 5); omega)⟩
    · skip
      refine ov_blk (ls2 := [(0, ov_r 0), (1, ov_i w185)]) (st2 := [ov_r 0]) (pc2 := 17) b_23_16_1 rfl rfl ?_
      rcases rg_0_10 I182 with e187 | e187
      · skip
        refine ov_getf (v := ov_r 58) d_23_17 fl_OF_78 (zb_0 I182) (zs_0 I182) (congrArg ov_r e187) ?_
        refine ov_blk (ls2 := [(0, ov_r 0), (1, ov_i w185), (2, ov_r 58)]) (st2 := [ov_r 0, ov_r 0]) (pc2 := 23) b_23_20_3 rfl rfl ?_
        refine ov_getf (v := ov_r 70) d_23_23 fl_OF_82 (zb_0 I182) (zs_0 I182) (congrArg ov_r e184) ?_
        refine ov_putf (x := 70) d_23_26 fl_OF_78 (zb_0 I182) (zs_0 I182) rfl nk_2 rfl ?_
        have I188 := up_0_10 (x := 70) I182 (by omega)
        refine ov_blk (ls2 := [(0, ov_r 0), (1, ov_i w185), (2, ov_r 58)]) (st2 := [ov_r 58, ov_r 0]) (pc2 := 31) b_23_29_2 rfl rfl ?_
        refine ov_putf (x := 58) d_23_31 fl_OF_82 (zb_0 I188) (zs_0 I188) rfl nk_2 rfl ?_
        have I189 := up_0_11 (x := 58) I188 (by omega)
        refine ov_blk (ls2 := [(0, ov_r 0), (1, ov_i w185), (2, ov_r 58)]) (st2 := [ov_r 0]) (pc2 := 35) b_23_34_1 rfl rfl ?_
        rcases rg_0_12 I182 with e190 | e190
        · skip
          refine ov_getf (v := ov_r 82) d_23_35 fl_OF_88 (zb_0 I189) (zs_0 I189) (congrArg ov_r e190) ?_
          refine ov_cV (as := []) (st := []) (d2 := d - 1) d_23_38 lk_OF_113 rfl (Nat.le_of_ble_eq_true rfl) (c := 10) (zb_82 I189) (zs_82 I189) ⟨by decide, rfl⟩ (by omega) (c_Walk_clear_82 (d - 1) (by omega) U I189) ?_
          rintro _ z192 h193 ⟨rfl, I194, f191⟩
          show ov_R u d ov_m23 41 [(0, ov_r 0), (1, ov_i w185), (2, ov_r 58)] [] z192 h193 (P_OF_town_0 F z h)
          have f195 : (h193 36 7) = (h181 36 7) ∧ (h193 1 1) = (h181 1 1) ∧ (h193 90 2) = (h181 90 2) ∧ (h193 0 10) = 70 ∧ (h193 0 11) = 58 ∧ (h193 0 12) = (h181 0 12) ∧ (h193 0 13) = (h181 0 13) ∧ (h193 3 1) = (h181 3 1) ∧ (h193 36 8) = (h181 36 8) ∧ (h193 46 3) = (h181 46 3) ∧ (h193 46 4) = (h181 46 4) ∧ (h193 49 4) = (h181 49 4) ∧ (h193 49 5) = (h181 49 5) := f191
          clear f191
          have e196 : h193 0 10 = 70 := by omega
          have e197 : h193 0 11 = 58 := by omega
          have e198 : h193 0 12 = 82 := by omega
          refine ov_blk (ls2 := [(0, ov_r 0), (1, ov_i w185), (2, ov_r 58)]) (st2 := [ov_r 0]) (pc2 := 42) b_23_41_1 rfl rfl ?_
          refine ov_getf (v := ov_r 4) d_23_42 fl_OF_28 (zb_0 I194) (zs_0 I194) (congrArg ov_r (rg_0_2 I194)) ?_
          refine ov_cV (as := []) (st := []) (d2 := d - 1) d_23_45 lk_OF_114 rfl (Nat.le_of_ble_eq_true rfl) (c := 7) (zb_4 I194) (zs_4 I194) ⟨by decide, rfl⟩ (by omega) (c_State_clear_4 (d - 1) (by omega) U I194) ?_
          rintro _ z200 h201 ⟨rfl, I202, f199⟩
          show ov_R u d ov_m23 48 [(0, ov_r 0), (1, ov_i w185), (2, ov_r 58)] [] z200 h201 (P_OF_town_0 F z h)
          have f203 : (h201 36 7) = (h193 36 7) ∧ (h201 1 1) = (h193 1 1) ∧ (h201 90 2) = (h193 90 2) ∧ (h201 0 10) = (h193 0 10) ∧ (h201 0 11) = (h193 0 11) ∧ (h201 0 12) = (h193 0 12) ∧ (h201 0 13) = (h193 0 13) ∧ (h201 3 1) = (h193 3 1) ∧ (h201 36 8) = (h193 36 8) ∧ (h201 46 3) = (h193 46 3) ∧ (h201 46 4) = (h193 46 4) ∧ (h201 49 4) = (h193 49 4) ∧ (h201 49 5) = (h193 49 5) := f199
          clear f199
          have e204 : h201 0 10 = 70 := by omega
          have e205 : h201 0 11 = 58 := by omega
          have e206 : h201 0 12 = 82 := by omega
          refine ov_blk (ls2 := [(0, ov_r 0), (1, ov_i w185), (2, ov_r 58)]) (st2 := [ov_r 0]) (pc2 := 49) b_23_48_1 rfl rfl ?_
          refine ov_getf (v := ov_r 9) d_23_49 fl_OF_35 (zb_0 I202) (zs_0 I202) (congrArg ov_r (rg_0_3 I202)) ?_
          refine ov_cV (as := []) (st := []) (d2 := d - 1) d_23_52 lk_OF_115 rfl (Nat.le_of_ble_eq_true rfl) (c := 3) (zb_9 I202) (zs_9 I202) ⟨by decide, rfl⟩ (by omega) (c_History_clear_9 (d - 1) (by omega) U I202) ?_
          rintro _ z208 h209 ⟨rfl, I210, f207⟩
          show ov_R u d ov_m23 55 [(0, ov_r 0), (1, ov_i w185), (2, ov_r 58)] [] z208 h209 (P_OF_town_0 F z h)
          have f211 : (h209 36 7) = (h201 36 7) ∧ (h209 1 1) = (h201 1 1) ∧ (h209 90 2) = (h201 90 2) ∧ (h209 0 10) = (h201 0 10) ∧ (h209 0 11) = (h201 0 11) ∧ (h209 0 12) = (h201 0 12) ∧ (h209 0 13) = (h201 0 13) ∧ (h209 3 1) = (h201 3 1) ∧ (h209 36 8) = (h201 36 8) ∧ (h209 46 3) = (h201 46 3) ∧ (h209 46 4) = (h201 46 4) ∧ (h209 49 4) = (h201 49 4) ∧ (h209 49 5) = (h201 49 5) := f207
          clear f207
          have e212 : h209 0 10 = 70 := by omega
          have e213 : h209 0 11 = 58 := by omega
          have e214 : h209 0 12 = 82 := by omega
          refine ov_blk (ls2 := [(0, ov_r 0), (1, ov_i w185), (2, ov_r 58)]) (st2 := [ov_r 0]) (pc2 := 56) b_23_55_1 rfl rfl ?_
          refine ov_cV (as := []) (st := []) (d2 := d - 1) d_23_56 lk_OF_116 rfl (Nat.le_of_ble_eq_true rfl) (c := 0) (zb_0 I210) (zs_0 I210) ⟨by decide, rfl⟩ (by omega) (c_OF_forgetMarks_0 (d - 1) (by omega) U I210) ?_
          rintro _ z216 h217 ⟨rfl, I218, f215⟩
          show ov_R u d ov_m23 59 [(0, ov_r 0), (1, ov_i w185), (2, ov_r 58)] [] z216 h217 (P_OF_town_0 F z h)
          have f219 : (h217 36 7) = (h209 36 7) ∧ (h217 1 1) = (h209 1 1) ∧ (h217 90 2) = (h209 90 2) ∧ (h217 0 10) = (h209 0 10) ∧ (h217 0 11) = (h209 0 11) ∧ (h217 0 12) = (h209 0 12) ∧ (h217 0 13) = (h209 0 13) ∧ (h217 3 1) = (h209 3 1) ∧ (h217 36 8) = (h209 36 8) ∧ (h217 46 3) = (h209 46 3) ∧ (h217 46 4) = (h209 46 4) ∧ (h217 49 4) = (h209 49 4) ∧ (h217 49 5) = (h209 49 5) := f215
          clear f215
          have e220 : h217 0 10 = 70 := by omega
          have e221 : h217 0 11 = 58 := by omega
          have e222 : h217 0 12 = 82 := by omega
          refine ov_blk (ls2 := [(0, ov_r 0), (1, ov_i w185), (2, ov_r 58)]) (st2 := [ov_r 0]) (pc2 := 60) b_23_59_1 rfl rfl ?_
          refine ov_cV (as := []) (st := []) (d2 := d - 1) d_23_60 lk_OF_119 rfl (Nat.le_of_ble_eq_true rfl) (c := 0) (zb_0 I218) (zs_0 I218) ⟨by decide, rfl⟩ (by omega) (c_OF_forgetReckonings_0 (d - 1) (by omega) U I218) ?_
          rintro _ z224 h225 ⟨rfl, I226, f223⟩
          show ov_R u d ov_m23 63 [(0, ov_r 0), (1, ov_i w185), (2, ov_r 58)] [] z224 h225 (P_OF_town_0 F z h)
          have f227 : (h225 36 7) = 0 ∧ (h225 1 1) = (h217 1 1) ∧ (h225 90 2) = (h217 90 2) ∧ (h225 0 10) = (h217 0 10) ∧ (h225 0 11) = (h217 0 11) ∧ (h225 0 12) = (h217 0 12) ∧ (h225 0 13) = (h217 0 13) ∧ (h225 3 1) = (h217 3 1) ∧ (h225 36 8) = (h217 36 8) ∧ (h225 46 3) = (h217 46 3) ∧ (h225 46 4) = (h217 46 4) ∧ (h225 49 4) = (h217 49 4) ∧ (h225 49 5) = (h217 49 5) := f223
          clear f223
          have e228 : h225 0 10 = 70 := by omega
          have e229 : h225 0 11 = 58 := by omega
          have e230 : h225 0 12 = 82 := by omega
          refine ov_blk (ls2 := [(0, ov_r 0), (1, ov_i w185), (2, ov_r 58)]) (st2 := [ov_i w185]) (pc2 := 64) b_23_63_1 rfl rfl ?_
          exact ov_reti (st := []) d_23_64 rfl ⟨_, rfl, I226, (by show (h225 1 1) = 0 ∧ ((h225 36 7) = 1 → ¬ (h225 36 8) = -1) ∧ (h225 90 2) = (h 90 2) ∧ (h225 0 12) = (h 0 12) ∧ (h225 0 13) = (h 0 13) ∧ (h225 46 3) = (h 46 3) ∧ (h225 46 4) = (h 46 4) ∧ (h225 49 4) = (h 49 4) ∧ (h225 49 5) = (h 49 5); omega)⟩
        · skip
          refine ov_getf (v := ov_r 86) d_23_35 fl_OF_88 (zb_0 I189) (zs_0 I189) (congrArg ov_r e190) ?_
          refine ov_cV (as := []) (st := []) (d2 := d - 1) d_23_38 lk_OF_113 rfl (Nat.le_of_ble_eq_true rfl) (c := 10) (zb_86 I189) (zs_86 I189) ⟨by decide, rfl⟩ (by omega) (c_Walk_clear_86 (d - 1) (by omega) U I189) ?_
          rintro _ z232 h233 ⟨rfl, I234, f231⟩
          show ov_R u d ov_m23 41 [(0, ov_r 0), (1, ov_i w185), (2, ov_r 58)] [] z232 h233 (P_OF_town_0 F z h)
          have f235 : (h233 36 7) = (h181 36 7) ∧ (h233 1 1) = (h181 1 1) ∧ (h233 90 2) = (h181 90 2) ∧ (h233 0 10) = 70 ∧ (h233 0 11) = 58 ∧ (h233 0 12) = (h181 0 12) ∧ (h233 0 13) = (h181 0 13) ∧ (h233 3 1) = (h181 3 1) ∧ (h233 36 8) = (h181 36 8) ∧ (h233 46 3) = (h181 46 3) ∧ (h233 46 4) = (h181 46 4) ∧ (h233 49 4) = (h181 49 4) ∧ (h233 49 5) = (h181 49 5) := f231
          clear f231
          have e236 : h233 0 10 = 70 := by omega
          have e237 : h233 0 11 = 58 := by omega
          have e238 : h233 0 12 = 86 := by omega
          refine ov_blk (ls2 := [(0, ov_r 0), (1, ov_i w185), (2, ov_r 58)]) (st2 := [ov_r 0]) (pc2 := 42) b_23_41_1 rfl rfl ?_
          refine ov_getf (v := ov_r 4) d_23_42 fl_OF_28 (zb_0 I234) (zs_0 I234) (congrArg ov_r (rg_0_2 I234)) ?_
          refine ov_cV (as := []) (st := []) (d2 := d - 1) d_23_45 lk_OF_114 rfl (Nat.le_of_ble_eq_true rfl) (c := 7) (zb_4 I234) (zs_4 I234) ⟨by decide, rfl⟩ (by omega) (c_State_clear_4 (d - 1) (by omega) U I234) ?_
          rintro _ z240 h241 ⟨rfl, I242, f239⟩
          show ov_R u d ov_m23 48 [(0, ov_r 0), (1, ov_i w185), (2, ov_r 58)] [] z240 h241 (P_OF_town_0 F z h)
          have f243 : (h241 36 7) = (h233 36 7) ∧ (h241 1 1) = (h233 1 1) ∧ (h241 90 2) = (h233 90 2) ∧ (h241 0 10) = (h233 0 10) ∧ (h241 0 11) = (h233 0 11) ∧ (h241 0 12) = (h233 0 12) ∧ (h241 0 13) = (h233 0 13) ∧ (h241 3 1) = (h233 3 1) ∧ (h241 36 8) = (h233 36 8) ∧ (h241 46 3) = (h233 46 3) ∧ (h241 46 4) = (h233 46 4) ∧ (h241 49 4) = (h233 49 4) ∧ (h241 49 5) = (h233 49 5) := f239
          clear f239
          have e244 : h241 0 10 = 70 := by omega
          have e245 : h241 0 11 = 58 := by omega
          have e246 : h241 0 12 = 86 := by omega
          refine ov_blk (ls2 := [(0, ov_r 0), (1, ov_i w185), (2, ov_r 58)]) (st2 := [ov_r 0]) (pc2 := 49) b_23_48_1 rfl rfl ?_
          refine ov_getf (v := ov_r 9) d_23_49 fl_OF_35 (zb_0 I242) (zs_0 I242) (congrArg ov_r (rg_0_3 I242)) ?_
          refine ov_cV (as := []) (st := []) (d2 := d - 1) d_23_52 lk_OF_115 rfl (Nat.le_of_ble_eq_true rfl) (c := 3) (zb_9 I242) (zs_9 I242) ⟨by decide, rfl⟩ (by omega) (c_History_clear_9 (d - 1) (by omega) U I242) ?_
          rintro _ z248 h249 ⟨rfl, I250, f247⟩
          show ov_R u d ov_m23 55 [(0, ov_r 0), (1, ov_i w185), (2, ov_r 58)] [] z248 h249 (P_OF_town_0 F z h)
          have f251 : (h249 36 7) = (h241 36 7) ∧ (h249 1 1) = (h241 1 1) ∧ (h249 90 2) = (h241 90 2) ∧ (h249 0 10) = (h241 0 10) ∧ (h249 0 11) = (h241 0 11) ∧ (h249 0 12) = (h241 0 12) ∧ (h249 0 13) = (h241 0 13) ∧ (h249 3 1) = (h241 3 1) ∧ (h249 36 8) = (h241 36 8) ∧ (h249 46 3) = (h241 46 3) ∧ (h249 46 4) = (h241 46 4) ∧ (h249 49 4) = (h241 49 4) ∧ (h249 49 5) = (h241 49 5) := f247
          clear f247
          have e252 : h249 0 10 = 70 := by omega
          have e253 : h249 0 11 = 58 := by omega
          have e254 : h249 0 12 = 86 := by omega
          refine ov_blk (ls2 := [(0, ov_r 0), (1, ov_i w185), (2, ov_r 58)]) (st2 := [ov_r 0]) (pc2 := 56) b_23_55_1 rfl rfl ?_
          refine ov_cV (as := []) (st := []) (d2 := d - 1) d_23_56 lk_OF_116 rfl (Nat.le_of_ble_eq_true rfl) (c := 0) (zb_0 I250) (zs_0 I250) ⟨by decide, rfl⟩ (by omega) (c_OF_forgetMarks_0 (d - 1) (by omega) U I250) ?_
          rintro _ z256 h257 ⟨rfl, I258, f255⟩
          show ov_R u d ov_m23 59 [(0, ov_r 0), (1, ov_i w185), (2, ov_r 58)] [] z256 h257 (P_OF_town_0 F z h)
          have f259 : (h257 36 7) = (h249 36 7) ∧ (h257 1 1) = (h249 1 1) ∧ (h257 90 2) = (h249 90 2) ∧ (h257 0 10) = (h249 0 10) ∧ (h257 0 11) = (h249 0 11) ∧ (h257 0 12) = (h249 0 12) ∧ (h257 0 13) = (h249 0 13) ∧ (h257 3 1) = (h249 3 1) ∧ (h257 36 8) = (h249 36 8) ∧ (h257 46 3) = (h249 46 3) ∧ (h257 46 4) = (h249 46 4) ∧ (h257 49 4) = (h249 49 4) ∧ (h257 49 5) = (h249 49 5) := f255
          clear f255
          have e260 : h257 0 10 = 70 := by omega
          have e261 : h257 0 11 = 58 := by omega
          have e262 : h257 0 12 = 86 := by omega
          refine ov_blk (ls2 := [(0, ov_r 0), (1, ov_i w185), (2, ov_r 58)]) (st2 := [ov_r 0]) (pc2 := 60) b_23_59_1 rfl rfl ?_
          refine ov_cV (as := []) (st := []) (d2 := d - 1) d_23_60 lk_OF_119 rfl (Nat.le_of_ble_eq_true rfl) (c := 0) (zb_0 I258) (zs_0 I258) ⟨by decide, rfl⟩ (by omega) (c_OF_forgetReckonings_0 (d - 1) (by omega) U I258) ?_
          rintro _ z264 h265 ⟨rfl, I266, f263⟩
          show ov_R u d ov_m23 63 [(0, ov_r 0), (1, ov_i w185), (2, ov_r 58)] [] z264 h265 (P_OF_town_0 F z h)
          have f267 : (h265 36 7) = 0 ∧ (h265 1 1) = (h257 1 1) ∧ (h265 90 2) = (h257 90 2) ∧ (h265 0 10) = (h257 0 10) ∧ (h265 0 11) = (h257 0 11) ∧ (h265 0 12) = (h257 0 12) ∧ (h265 0 13) = (h257 0 13) ∧ (h265 3 1) = (h257 3 1) ∧ (h265 36 8) = (h257 36 8) ∧ (h265 46 3) = (h257 46 3) ∧ (h265 46 4) = (h257 46 4) ∧ (h265 49 4) = (h257 49 4) ∧ (h265 49 5) = (h257 49 5) := f263
          clear f263
          have e268 : h265 0 10 = 70 := by omega
          have e269 : h265 0 11 = 58 := by omega
          have e270 : h265 0 12 = 86 := by omega
          refine ov_blk (ls2 := [(0, ov_r 0), (1, ov_i w185), (2, ov_r 58)]) (st2 := [ov_i w185]) (pc2 := 64) b_23_63_1 rfl rfl ?_
          exact ov_reti (st := []) d_23_64 rfl ⟨_, rfl, I266, (by show (h265 1 1) = 0 ∧ ((h265 36 7) = 1 → ¬ (h265 36 8) = -1) ∧ (h265 90 2) = (h 90 2) ∧ (h265 0 12) = (h 0 12) ∧ (h265 0 13) = (h 0 13) ∧ (h265 46 3) = (h 46 3) ∧ (h265 46 4) = (h 46 4) ∧ (h265 49 4) = (h 49 4) ∧ (h265 49 5) = (h 49 5); omega)⟩
      · skip
        refine ov_getf (v := ov_r 70) d_23_17 fl_OF_78 (zb_0 I182) (zs_0 I182) (congrArg ov_r e187) ?_
        refine ov_blk (ls2 := [(0, ov_r 0), (1, ov_i w185), (2, ov_r 70)]) (st2 := [ov_r 0, ov_r 0]) (pc2 := 23) b_23_20_3 rfl rfl ?_
        refine ov_getf (v := ov_r 70) d_23_23 fl_OF_82 (zb_0 I182) (zs_0 I182) (congrArg ov_r e184) ?_
        refine ov_putf (x := 70) d_23_26 fl_OF_78 (zb_0 I182) (zs_0 I182) rfl nk_2 rfl ?_
        have I271 := up_0_10 (x := 70) I182 (by omega)
        refine ov_blk (ls2 := [(0, ov_r 0), (1, ov_i w185), (2, ov_r 70)]) (st2 := [ov_r 70, ov_r 0]) (pc2 := 31) b_23_29_2 rfl rfl ?_
        refine ov_putf (x := 70) d_23_31 fl_OF_82 (zb_0 I271) (zs_0 I271) rfl nk_2 rfl ?_
        have I272 := up_0_11 (x := 70) I271 (by omega)
        refine ov_blk (ls2 := [(0, ov_r 0), (1, ov_i w185), (2, ov_r 70)]) (st2 := [ov_r 0]) (pc2 := 35) b_23_34_1 rfl rfl ?_
        rcases rg_0_12 I182 with e273 | e273
        · skip
          refine ov_getf (v := ov_r 82) d_23_35 fl_OF_88 (zb_0 I272) (zs_0 I272) (congrArg ov_r e273) ?_
          refine ov_cV (as := []) (st := []) (d2 := d - 1) d_23_38 lk_OF_113 rfl (Nat.le_of_ble_eq_true rfl) (c := 10) (zb_82 I272) (zs_82 I272) ⟨by decide, rfl⟩ (by omega) (c_Walk_clear_82 (d - 1) (by omega) U I272) ?_
          rintro _ z275 h276 ⟨rfl, I277, f274⟩
          show ov_R u d ov_m23 41 [(0, ov_r 0), (1, ov_i w185), (2, ov_r 70)] [] z275 h276 (P_OF_town_0 F z h)
          have f278 : (h276 36 7) = (h181 36 7) ∧ (h276 1 1) = (h181 1 1) ∧ (h276 90 2) = (h181 90 2) ∧ (h276 0 10) = 70 ∧ (h276 0 11) = 70 ∧ (h276 0 12) = (h181 0 12) ∧ (h276 0 13) = (h181 0 13) ∧ (h276 3 1) = (h181 3 1) ∧ (h276 36 8) = (h181 36 8) ∧ (h276 46 3) = (h181 46 3) ∧ (h276 46 4) = (h181 46 4) ∧ (h276 49 4) = (h181 49 4) ∧ (h276 49 5) = (h181 49 5) := f274
          clear f274
          have e279 : h276 0 10 = 70 := by omega
          have e280 : h276 0 11 = 70 := by omega
          have e281 : h276 0 12 = 82 := by omega
          refine ov_blk (ls2 := [(0, ov_r 0), (1, ov_i w185), (2, ov_r 70)]) (st2 := [ov_r 0]) (pc2 := 42) b_23_41_1 rfl rfl ?_
          refine ov_getf (v := ov_r 4) d_23_42 fl_OF_28 (zb_0 I277) (zs_0 I277) (congrArg ov_r (rg_0_2 I277)) ?_
          refine ov_cV (as := []) (st := []) (d2 := d - 1) d_23_45 lk_OF_114 rfl (Nat.le_of_ble_eq_true rfl) (c := 7) (zb_4 I277) (zs_4 I277) ⟨by decide, rfl⟩ (by omega) (c_State_clear_4 (d - 1) (by omega) U I277) ?_
          rintro _ z283 h284 ⟨rfl, I285, f282⟩
          show ov_R u d ov_m23 48 [(0, ov_r 0), (1, ov_i w185), (2, ov_r 70)] [] z283 h284 (P_OF_town_0 F z h)
          have f286 : (h284 36 7) = (h276 36 7) ∧ (h284 1 1) = (h276 1 1) ∧ (h284 90 2) = (h276 90 2) ∧ (h284 0 10) = (h276 0 10) ∧ (h284 0 11) = (h276 0 11) ∧ (h284 0 12) = (h276 0 12) ∧ (h284 0 13) = (h276 0 13) ∧ (h284 3 1) = (h276 3 1) ∧ (h284 36 8) = (h276 36 8) ∧ (h284 46 3) = (h276 46 3) ∧ (h284 46 4) = (h276 46 4) ∧ (h284 49 4) = (h276 49 4) ∧ (h284 49 5) = (h276 49 5) := f282
          clear f282
          have e287 : h284 0 10 = 70 := by omega
          have e288 : h284 0 11 = 70 := by omega
          have e289 : h284 0 12 = 82 := by omega
          refine ov_blk (ls2 := [(0, ov_r 0), (1, ov_i w185), (2, ov_r 70)]) (st2 := [ov_r 0]) (pc2 := 49) b_23_48_1 rfl rfl ?_
          refine ov_getf (v := ov_r 9) d_23_49 fl_OF_35 (zb_0 I285) (zs_0 I285) (congrArg ov_r (rg_0_3 I285)) ?_
          refine ov_cV (as := []) (st := []) (d2 := d - 1) d_23_52 lk_OF_115 rfl (Nat.le_of_ble_eq_true rfl) (c := 3) (zb_9 I285) (zs_9 I285) ⟨by decide, rfl⟩ (by omega) (c_History_clear_9 (d - 1) (by omega) U I285) ?_
          rintro _ z291 h292 ⟨rfl, I293, f290⟩
          show ov_R u d ov_m23 55 [(0, ov_r 0), (1, ov_i w185), (2, ov_r 70)] [] z291 h292 (P_OF_town_0 F z h)
          have f294 : (h292 36 7) = (h284 36 7) ∧ (h292 1 1) = (h284 1 1) ∧ (h292 90 2) = (h284 90 2) ∧ (h292 0 10) = (h284 0 10) ∧ (h292 0 11) = (h284 0 11) ∧ (h292 0 12) = (h284 0 12) ∧ (h292 0 13) = (h284 0 13) ∧ (h292 3 1) = (h284 3 1) ∧ (h292 36 8) = (h284 36 8) ∧ (h292 46 3) = (h284 46 3) ∧ (h292 46 4) = (h284 46 4) ∧ (h292 49 4) = (h284 49 4) ∧ (h292 49 5) = (h284 49 5) := f290
          clear f290
          have e295 : h292 0 10 = 70 := by omega
          have e296 : h292 0 11 = 70 := by omega
          have e297 : h292 0 12 = 82 := by omega
          refine ov_blk (ls2 := [(0, ov_r 0), (1, ov_i w185), (2, ov_r 70)]) (st2 := [ov_r 0]) (pc2 := 56) b_23_55_1 rfl rfl ?_
          refine ov_cV (as := []) (st := []) (d2 := d - 1) d_23_56 lk_OF_116 rfl (Nat.le_of_ble_eq_true rfl) (c := 0) (zb_0 I293) (zs_0 I293) ⟨by decide, rfl⟩ (by omega) (c_OF_forgetMarks_0 (d - 1) (by omega) U I293) ?_
          rintro _ z299 h300 ⟨rfl, I301, f298⟩
          show ov_R u d ov_m23 59 [(0, ov_r 0), (1, ov_i w185), (2, ov_r 70)] [] z299 h300 (P_OF_town_0 F z h)
          have f302 : (h300 36 7) = (h292 36 7) ∧ (h300 1 1) = (h292 1 1) ∧ (h300 90 2) = (h292 90 2) ∧ (h300 0 10) = (h292 0 10) ∧ (h300 0 11) = (h292 0 11) ∧ (h300 0 12) = (h292 0 12) ∧ (h300 0 13) = (h292 0 13) ∧ (h300 3 1) = (h292 3 1) ∧ (h300 36 8) = (h292 36 8) ∧ (h300 46 3) = (h292 46 3) ∧ (h300 46 4) = (h292 46 4) ∧ (h300 49 4) = (h292 49 4) ∧ (h300 49 5) = (h292 49 5) := f298
          clear f298
          have e303 : h300 0 10 = 70 := by omega
          have e304 : h300 0 11 = 70 := by omega
          have e305 : h300 0 12 = 82 := by omega
          refine ov_blk (ls2 := [(0, ov_r 0), (1, ov_i w185), (2, ov_r 70)]) (st2 := [ov_r 0]) (pc2 := 60) b_23_59_1 rfl rfl ?_
          refine ov_cV (as := []) (st := []) (d2 := d - 1) d_23_60 lk_OF_119 rfl (Nat.le_of_ble_eq_true rfl) (c := 0) (zb_0 I301) (zs_0 I301) ⟨by decide, rfl⟩ (by omega) (c_OF_forgetReckonings_0 (d - 1) (by omega) U I301) ?_
          rintro _ z307 h308 ⟨rfl, I309, f306⟩
          show ov_R u d ov_m23 63 [(0, ov_r 0), (1, ov_i w185), (2, ov_r 70)] [] z307 h308 (P_OF_town_0 F z h)
          have f310 : (h308 36 7) = 0 ∧ (h308 1 1) = (h300 1 1) ∧ (h308 90 2) = (h300 90 2) ∧ (h308 0 10) = (h300 0 10) ∧ (h308 0 11) = (h300 0 11) ∧ (h308 0 12) = (h300 0 12) ∧ (h308 0 13) = (h300 0 13) ∧ (h308 3 1) = (h300 3 1) ∧ (h308 36 8) = (h300 36 8) ∧ (h308 46 3) = (h300 46 3) ∧ (h308 46 4) = (h300 46 4) ∧ (h308 49 4) = (h300 49 4) ∧ (h308 49 5) = (h300 49 5) := f306
          clear f306
          have e311 : h308 0 10 = 70 := by omega
          have e312 : h308 0 11 = 70 := by omega
          have e313 : h308 0 12 = 82 := by omega
          refine ov_blk (ls2 := [(0, ov_r 0), (1, ov_i w185), (2, ov_r 70)]) (st2 := [ov_i w185]) (pc2 := 64) b_23_63_1 rfl rfl ?_
          exact ov_reti (st := []) d_23_64 rfl ⟨_, rfl, I309, (by show (h308 1 1) = 0 ∧ ((h308 36 7) = 1 → ¬ (h308 36 8) = -1) ∧ (h308 90 2) = (h 90 2) ∧ (h308 0 12) = (h 0 12) ∧ (h308 0 13) = (h 0 13) ∧ (h308 46 3) = (h 46 3) ∧ (h308 46 4) = (h 46 4) ∧ (h308 49 4) = (h 49 4) ∧ (h308 49 5) = (h 49 5); omega)⟩
        · skip
          refine ov_getf (v := ov_r 86) d_23_35 fl_OF_88 (zb_0 I272) (zs_0 I272) (congrArg ov_r e273) ?_
          refine ov_cV (as := []) (st := []) (d2 := d - 1) d_23_38 lk_OF_113 rfl (Nat.le_of_ble_eq_true rfl) (c := 10) (zb_86 I272) (zs_86 I272) ⟨by decide, rfl⟩ (by omega) (c_Walk_clear_86 (d - 1) (by omega) U I272) ?_
          rintro _ z315 h316 ⟨rfl, I317, f314⟩
          show ov_R u d ov_m23 41 [(0, ov_r 0), (1, ov_i w185), (2, ov_r 70)] [] z315 h316 (P_OF_town_0 F z h)
          have f318 : (h316 36 7) = (h181 36 7) ∧ (h316 1 1) = (h181 1 1) ∧ (h316 90 2) = (h181 90 2) ∧ (h316 0 10) = 70 ∧ (h316 0 11) = 70 ∧ (h316 0 12) = (h181 0 12) ∧ (h316 0 13) = (h181 0 13) ∧ (h316 3 1) = (h181 3 1) ∧ (h316 36 8) = (h181 36 8) ∧ (h316 46 3) = (h181 46 3) ∧ (h316 46 4) = (h181 46 4) ∧ (h316 49 4) = (h181 49 4) ∧ (h316 49 5) = (h181 49 5) := f314
          clear f314
          have e319 : h316 0 10 = 70 := by omega
          have e320 : h316 0 11 = 70 := by omega
          have e321 : h316 0 12 = 86 := by omega
          refine ov_blk (ls2 := [(0, ov_r 0), (1, ov_i w185), (2, ov_r 70)]) (st2 := [ov_r 0]) (pc2 := 42) b_23_41_1 rfl rfl ?_
          refine ov_getf (v := ov_r 4) d_23_42 fl_OF_28 (zb_0 I317) (zs_0 I317) (congrArg ov_r (rg_0_2 I317)) ?_
          refine ov_cV (as := []) (st := []) (d2 := d - 1) d_23_45 lk_OF_114 rfl (Nat.le_of_ble_eq_true rfl) (c := 7) (zb_4 I317) (zs_4 I317) ⟨by decide, rfl⟩ (by omega) (c_State_clear_4 (d - 1) (by omega) U I317) ?_
          rintro _ z323 h324 ⟨rfl, I325, f322⟩
          show ov_R u d ov_m23 48 [(0, ov_r 0), (1, ov_i w185), (2, ov_r 70)] [] z323 h324 (P_OF_town_0 F z h)
          have f326 : (h324 36 7) = (h316 36 7) ∧ (h324 1 1) = (h316 1 1) ∧ (h324 90 2) = (h316 90 2) ∧ (h324 0 10) = (h316 0 10) ∧ (h324 0 11) = (h316 0 11) ∧ (h324 0 12) = (h316 0 12) ∧ (h324 0 13) = (h316 0 13) ∧ (h324 3 1) = (h316 3 1) ∧ (h324 36 8) = (h316 36 8) ∧ (h324 46 3) = (h316 46 3) ∧ (h324 46 4) = (h316 46 4) ∧ (h324 49 4) = (h316 49 4) ∧ (h324 49 5) = (h316 49 5) := f322
          clear f322
          have e327 : h324 0 10 = 70 := by omega
          have e328 : h324 0 11 = 70 := by omega
          have e329 : h324 0 12 = 86 := by omega
          refine ov_blk (ls2 := [(0, ov_r 0), (1, ov_i w185), (2, ov_r 70)]) (st2 := [ov_r 0]) (pc2 := 49) b_23_48_1 rfl rfl ?_
          refine ov_getf (v := ov_r 9) d_23_49 fl_OF_35 (zb_0 I325) (zs_0 I325) (congrArg ov_r (rg_0_3 I325)) ?_
          refine ov_cV (as := []) (st := []) (d2 := d - 1) d_23_52 lk_OF_115 rfl (Nat.le_of_ble_eq_true rfl) (c := 3) (zb_9 I325) (zs_9 I325) ⟨by decide, rfl⟩ (by omega) (c_History_clear_9 (d - 1) (by omega) U I325) ?_
          rintro _ z331 h332 ⟨rfl, I333, f330⟩
          show ov_R u d ov_m23 55 [(0, ov_r 0), (1, ov_i w185), (2, ov_r 70)] [] z331 h332 (P_OF_town_0 F z h)
          have f334 : (h332 36 7) = (h324 36 7) ∧ (h332 1 1) = (h324 1 1) ∧ (h332 90 2) = (h324 90 2) ∧ (h332 0 10) = (h324 0 10) ∧ (h332 0 11) = (h324 0 11) ∧ (h332 0 12) = (h324 0 12) ∧ (h332 0 13) = (h324 0 13) ∧ (h332 3 1) = (h324 3 1) ∧ (h332 36 8) = (h324 36 8) ∧ (h332 46 3) = (h324 46 3) ∧ (h332 46 4) = (h324 46 4) ∧ (h332 49 4) = (h324 49 4) ∧ (h332 49 5) = (h324 49 5) := f330
          clear f330
          have e335 : h332 0 10 = 70 := by omega
          have e336 : h332 0 11 = 70 := by omega
          have e337 : h332 0 12 = 86 := by omega
          refine ov_blk (ls2 := [(0, ov_r 0), (1, ov_i w185), (2, ov_r 70)]) (st2 := [ov_r 0]) (pc2 := 56) b_23_55_1 rfl rfl ?_
          refine ov_cV (as := []) (st := []) (d2 := d - 1) d_23_56 lk_OF_116 rfl (Nat.le_of_ble_eq_true rfl) (c := 0) (zb_0 I333) (zs_0 I333) ⟨by decide, rfl⟩ (by omega) (c_OF_forgetMarks_0 (d - 1) (by omega) U I333) ?_
          rintro _ z339 h340 ⟨rfl, I341, f338⟩
          show ov_R u d ov_m23 59 [(0, ov_r 0), (1, ov_i w185), (2, ov_r 70)] [] z339 h340 (P_OF_town_0 F z h)
          have f342 : (h340 36 7) = (h332 36 7) ∧ (h340 1 1) = (h332 1 1) ∧ (h340 90 2) = (h332 90 2) ∧ (h340 0 10) = (h332 0 10) ∧ (h340 0 11) = (h332 0 11) ∧ (h340 0 12) = (h332 0 12) ∧ (h340 0 13) = (h332 0 13) ∧ (h340 3 1) = (h332 3 1) ∧ (h340 36 8) = (h332 36 8) ∧ (h340 46 3) = (h332 46 3) ∧ (h340 46 4) = (h332 46 4) ∧ (h340 49 4) = (h332 49 4) ∧ (h340 49 5) = (h332 49 5) := f338
          clear f338
          have e343 : h340 0 10 = 70 := by omega
          have e344 : h340 0 11 = 70 := by omega
          have e345 : h340 0 12 = 86 := by omega
          refine ov_blk (ls2 := [(0, ov_r 0), (1, ov_i w185), (2, ov_r 70)]) (st2 := [ov_r 0]) (pc2 := 60) b_23_59_1 rfl rfl ?_
          refine ov_cV (as := []) (st := []) (d2 := d - 1) d_23_60 lk_OF_119 rfl (Nat.le_of_ble_eq_true rfl) (c := 0) (zb_0 I341) (zs_0 I341) ⟨by decide, rfl⟩ (by omega) (c_OF_forgetReckonings_0 (d - 1) (by omega) U I341) ?_
          rintro _ z347 h348 ⟨rfl, I349, f346⟩
          show ov_R u d ov_m23 63 [(0, ov_r 0), (1, ov_i w185), (2, ov_r 70)] [] z347 h348 (P_OF_town_0 F z h)
          have f350 : (h348 36 7) = 0 ∧ (h348 1 1) = (h340 1 1) ∧ (h348 90 2) = (h340 90 2) ∧ (h348 0 10) = (h340 0 10) ∧ (h348 0 11) = (h340 0 11) ∧ (h348 0 12) = (h340 0 12) ∧ (h348 0 13) = (h340 0 13) ∧ (h348 3 1) = (h340 3 1) ∧ (h348 36 8) = (h340 36 8) ∧ (h348 46 3) = (h340 46 3) ∧ (h348 46 4) = (h340 46 4) ∧ (h348 49 4) = (h340 49 4) ∧ (h348 49 5) = (h340 49 5) := f346
          clear f346
          have e351 : h348 0 10 = 70 := by omega
          have e352 : h348 0 11 = 70 := by omega
          have e353 : h348 0 12 = 86 := by omega
          refine ov_blk (ls2 := [(0, ov_r 0), (1, ov_i w185), (2, ov_r 70)]) (st2 := [ov_i w185]) (pc2 := 64) b_23_63_1 rfl rfl ?_
          exact ov_reti (st := []) d_23_64 rfl ⟨_, rfl, I349, (by show (h348 1 1) = 0 ∧ ((h348 36 7) = 1 → ¬ (h348 36 8) = -1) ∧ (h348 90 2) = (h 90 2) ∧ (h348 0 12) = (h 0 12) ∧ (h348 0 13) = (h 0 13) ∧ (h348 46 3) = (h 46 3) ∧ (h348 46 4) = (h 46 4) ∧ (h348 49 4) = (h 49 4) ∧ (h348 49 5) = (h 49 5); omega)⟩
abbrev P_OF_walk_0 (F : ov_H) (z : ov_Z) (h : ov_H)  : Option ov_V → ov_Z → ov_H → Prop := fun r0 z' h' => ∃ r : Int, r0 = some (ov_i r) ∧ ov_I F z' h' ∧ ((h' 1 1) = 0 ∧ (h' 36 7) = (h 36 7) ∧ (h' 90 2) = (h 90 2) ∧ (h' 0 10) = (h 0 10) ∧ (h' 0 11) = (h 0 11) ∧ (h' 36 8) = (h 36 8) ∧ (h' 46 3) = (h 46 3) ∧ (h' 46 4) = (h 46 4) ∧ (h' 49 4) = (h 49 4) ∧ (h' 49 5) = (h 49 5))
set_option maxHeartbeats 4000000 in
theorem c_OF_walk_0 {u : ov_U} {F : ov_H} {z : ov_Z} {h : ov_H} (d : Nat) (hd : 50 ≤ d) (U : ov_cap u) (I : ov_I F z h) : ov_T u d ov_m88 [ov_r 0] z h (P_OF_walk_0 F z h) := by
  refine ov_en rfl (Nat.le_of_ble_eq_true rfl) ?_
  show ov_R u d ov_m88 0 [(0, ov_r 0)] [] z h (P_OF_walk_0 F z h)
  refine ov_blk (ls2 := [(0, ov_r 0)]) (st2 := [ov_r 0]) (pc2 := 1) b_88_0_1 rfl rfl ?_
  refine ov_getf (v := ov_r 3) d_88_1 fl_OF_21 (zb_0 I) (zs_0 I) (congrArg ov_r (rg_0_1 I)) ?_
  refine ov_blk (ls2 := [(0, ov_r 0)]) (st2 := [ov_r 0, ov_r 3]) (pc2 := 5) b_88_4_1 rfl rfl ?_
  rcases rg_0_10 I with e1 | e1
  · skip
    refine ov_getf (v := ov_r 58) d_88_5 fl_OF_78 (zb_0 I) (zs_0 I) (congrArg ov_r e1) ?_
    refine ov_blk (ls2 := [(0, ov_r 0)]) (st2 := [ov_r 0, ov_r 58, ov_r 3]) (pc2 := 9) b_88_8_1 rfl rfl ?_
    rcases rg_0_13 I with e2 | e2
    · skip
      refine ov_getf (v := ov_r 82) d_88_9 fl_OF_92 (zb_0 I) (zs_0 I) (congrArg ov_r e2) ?_
      refine ov_cV (as := [ov_r 58, ov_r 82]) (st := []) (d2 := d - 1) d_88_12 lk_OF_122 rfl (Nat.le_of_ble_eq_true rfl) (c := 6) (zb_3 I) (zs_3 I) ⟨by decide, rfl⟩ (by omega) (c_Reader_readWalk_3_58_82 (d - 1) (by omega) U I) ?_
      rintro _ z5 h6 ⟨v4, rfl, I7, f3⟩
      show ov_R u d ov_m88 15 [(0, ov_r 0)] [ov_i v4] z5 h6 (P_OF_walk_0 F z h)
      have f8 : (h6 1 1) = 0 ∧ (h6 36 7) = (h 36 7) ∧ (h6 90 2) = (h 90 2) ∧ (h6 0 10) = (h 0 10) ∧ (h6 0 11) = (h 0 11) ∧ (h6 0 12) = (h 0 12) ∧ (h6 0 13) = (h 0 13) ∧ (h6 36 8) = (h 36 8) ∧ (h6 46 3) = (h 46 3) ∧ (h6 46 4) = (h 46 4) ∧ (h6 49 4) = (h 49 4) ∧ (h6 49 5) = (h 49 5) := f3
      clear f3
      have e9 : h6 0 10 = 58 := by omega
      have e10 : h6 0 13 = 82 := by omega
      refine ov_havw (fun w11 gw11 qw11 => ?_)
      refine ov_blk (ls2 := [(0, ov_r 0), (1, ov_i w11)]) (st2 := [ov_i w11]) (pc2 := 17) b_88_15_2 rfl rfl ?_
      refine ov_ifne (tgt := 45) d_88_17 (by decide) (by omega) (fun c12 => ?_) (fun c12 => ?_)
      · skip
        refine ov_blk (ls2 := [(0, ov_r 0), (1, ov_i w11)]) (st2 := [ov_i w11]) (pc2 := 46) b_88_45_1 rfl rfl ?_
        exact ov_reti (st := []) d_88_46 rfl ⟨_, rfl, I7, (by show (h6 1 1) = 0 ∧ (h6 36 7) = (h 36 7) ∧ (h6 90 2) = (h 90 2) ∧ (h6 0 10) = (h 0 10) ∧ (h6 0 11) = (h 0 11) ∧ (h6 36 8) = (h 36 8) ∧ (h6 46 3) = (h 46 3) ∧ (h6 46 4) = (h 46 4) ∧ (h6 49 4) = (h 49 4) ∧ (h6 49 5) = (h 49 5); omega)⟩
      · skip
        refine ov_blk (ls2 := [(0, ov_r 0), (1, ov_i w11)]) (st2 := [ov_r 0]) (pc2 := 21) b_88_20_1 rfl rfl ?_
        rcases rg_0_12 I7 with e13 | e13
        · skip
          refine ov_getf (v := ov_r 82) d_88_21 fl_OF_88 (zb_0 I7) (zs_0 I7) (congrArg ov_r e13) ?_
          refine ov_blk (ls2 := [(0, ov_r 0), (1, ov_i w11), (2, ov_r 82)]) (st2 := [ov_r 0, ov_r 0]) (pc2 := 27) b_88_24_3 rfl rfl ?_
          refine ov_getf (v := ov_r 82) d_88_27 fl_OF_92 (zb_0 I7) (zs_0 I7) (congrArg ov_r e10) ?_
          refine ov_putf (x := 82) d_88_30 fl_OF_88 (zb_0 I7) (zs_0 I7) rfl nk_2 rfl ?_
          have I14 := up_0_12 (x := 82) I7 (by omega)
          refine ov_blk (ls2 := [(0, ov_r 0), (1, ov_i w11), (2, ov_r 82)]) (st2 := [ov_r 82, ov_r 0]) (pc2 := 35) b_88_33_2 rfl rfl ?_
          refine ov_putf (x := 82) d_88_35 fl_OF_92 (zb_0 I14) (zs_0 I14) rfl nk_2 rfl ?_
          have I15 := up_0_13 (x := 82) I14 (by omega)
          refine ov_blk (ls2 := [(0, ov_r 0), (1, ov_i w11), (2, ov_r 82)]) (st2 := [ov_r 0]) (pc2 := 39) b_88_38_1 rfl rfl ?_
          refine ov_getf (v := ov_r 49) d_88_39 fl_OF_64 (zb_0 I15) (zs_0 I15) (congrArg ov_r (rg_0_8 I15)) ?_
          refine ov_cV (as := []) (st := []) (d2 := d - 1) d_88_42 lk_OF_126 rfl (Nat.le_of_ble_eq_true rfl) (c := 5) (zb_49 I15) (zs_49 I15) ⟨by decide, rfl⟩ (by omega) (c_Pace_forget_49 (d - 1) (by omega) U I15) ?_
          rintro _ z17 h18 ⟨rfl, I19, f16⟩
          show ov_R u d ov_m88 45 [(0, ov_r 0), (1, ov_i w11), (2, ov_r 82)] [] z17 h18 (P_OF_walk_0 F z h)
          have f20 : (h18 36 7) = (h6 36 7) ∧ (h18 1 1) = (h6 1 1) ∧ (h18 90 2) = (h6 90 2) ∧ (h18 0 10) = (h6 0 10) ∧ (h18 0 11) = (h6 0 11) ∧ (h18 0 12) = 82 ∧ (h18 0 13) = 82 ∧ (h18 3 1) = (h6 3 1) ∧ (h18 36 8) = (h6 36 8) ∧ (h18 46 3) = (h6 46 3) ∧ (h18 46 4) = (h6 46 4) ∧ (h18 49 4) = (h6 49 4) ∧ (h18 49 5) = (h6 49 5) := f16
          clear f16
          have e21 : h18 0 10 = 58 := by omega
          have e22 : h18 0 12 = 82 := by omega
          have e23 : h18 0 13 = 82 := by omega
          refine ov_blk (ls2 := [(0, ov_r 0), (1, ov_i w11), (2, ov_r 82)]) (st2 := [ov_i w11]) (pc2 := 46) b_88_45_1 rfl rfl ?_
          exact ov_reti (st := []) d_88_46 rfl ⟨_, rfl, I19, (by show (h18 1 1) = 0 ∧ (h18 36 7) = (h 36 7) ∧ (h18 90 2) = (h 90 2) ∧ (h18 0 10) = (h 0 10) ∧ (h18 0 11) = (h 0 11) ∧ (h18 36 8) = (h 36 8) ∧ (h18 46 3) = (h 46 3) ∧ (h18 46 4) = (h 46 4) ∧ (h18 49 4) = (h 49 4) ∧ (h18 49 5) = (h 49 5); omega)⟩
        · skip
          refine ov_getf (v := ov_r 86) d_88_21 fl_OF_88 (zb_0 I7) (zs_0 I7) (congrArg ov_r e13) ?_
          refine ov_blk (ls2 := [(0, ov_r 0), (1, ov_i w11), (2, ov_r 86)]) (st2 := [ov_r 0, ov_r 0]) (pc2 := 27) b_88_24_3 rfl rfl ?_
          refine ov_getf (v := ov_r 82) d_88_27 fl_OF_92 (zb_0 I7) (zs_0 I7) (congrArg ov_r e10) ?_
          refine ov_putf (x := 82) d_88_30 fl_OF_88 (zb_0 I7) (zs_0 I7) rfl nk_2 rfl ?_
          have I24 := up_0_12 (x := 82) I7 (by omega)
          refine ov_blk (ls2 := [(0, ov_r 0), (1, ov_i w11), (2, ov_r 86)]) (st2 := [ov_r 86, ov_r 0]) (pc2 := 35) b_88_33_2 rfl rfl ?_
          refine ov_putf (x := 86) d_88_35 fl_OF_92 (zb_0 I24) (zs_0 I24) rfl nk_2 rfl ?_
          have I25 := up_0_13 (x := 86) I24 (by omega)
          refine ov_blk (ls2 := [(0, ov_r 0), (1, ov_i w11), (2, ov_r 86)]) (st2 := [ov_r 0]) (pc2 := 39) b_88_38_1 rfl rfl ?_
          refine ov_getf (v := ov_r 49) d_88_39 fl_OF_64 (zb_0 I25) (zs_0 I25) (congrArg ov_r (rg_0_8 I25)) ?_
          refine ov_cV (as := []) (st := []) (d2 := d - 1) d_88_42 lk_OF_126 rfl (Nat.le_of_ble_eq_true rfl) (c := 5) (zb_49 I25) (zs_49 I25) ⟨by decide, rfl⟩ (by omega) (c_Pace_forget_49 (d - 1) (by omega) U I25) ?_
          rintro _ z27 h28 ⟨rfl, I29, f26⟩
          show ov_R u d ov_m88 45 [(0, ov_r 0), (1, ov_i w11), (2, ov_r 86)] [] z27 h28 (P_OF_walk_0 F z h)
          have f30 : (h28 36 7) = (h6 36 7) ∧ (h28 1 1) = (h6 1 1) ∧ (h28 90 2) = (h6 90 2) ∧ (h28 0 10) = (h6 0 10) ∧ (h28 0 11) = (h6 0 11) ∧ (h28 0 12) = 82 ∧ (h28 0 13) = 86 ∧ (h28 3 1) = (h6 3 1) ∧ (h28 36 8) = (h6 36 8) ∧ (h28 46 3) = (h6 46 3) ∧ (h28 46 4) = (h6 46 4) ∧ (h28 49 4) = (h6 49 4) ∧ (h28 49 5) = (h6 49 5) := f26
          clear f26
          have e31 : h28 0 10 = 58 := by omega
          have e32 : h28 0 12 = 82 := by omega
          have e33 : h28 0 13 = 86 := by omega
          refine ov_blk (ls2 := [(0, ov_r 0), (1, ov_i w11), (2, ov_r 86)]) (st2 := [ov_i w11]) (pc2 := 46) b_88_45_1 rfl rfl ?_
          exact ov_reti (st := []) d_88_46 rfl ⟨_, rfl, I29, (by show (h28 1 1) = 0 ∧ (h28 36 7) = (h 36 7) ∧ (h28 90 2) = (h 90 2) ∧ (h28 0 10) = (h 0 10) ∧ (h28 0 11) = (h 0 11) ∧ (h28 36 8) = (h 36 8) ∧ (h28 46 3) = (h 46 3) ∧ (h28 46 4) = (h 46 4) ∧ (h28 49 4) = (h 49 4) ∧ (h28 49 5) = (h 49 5); omega)⟩
    · skip
      refine ov_getf (v := ov_r 86) d_88_9 fl_OF_92 (zb_0 I) (zs_0 I) (congrArg ov_r e2) ?_
      refine ov_cV (as := [ov_r 58, ov_r 86]) (st := []) (d2 := d - 1) d_88_12 lk_OF_122 rfl (Nat.le_of_ble_eq_true rfl) (c := 6) (zb_3 I) (zs_3 I) ⟨by decide, rfl⟩ (by omega) (c_Reader_readWalk_3_58_86 (d - 1) (by omega) U I) ?_
      rintro _ z36 h37 ⟨v35, rfl, I38, f34⟩
      show ov_R u d ov_m88 15 [(0, ov_r 0)] [ov_i v35] z36 h37 (P_OF_walk_0 F z h)
      have f39 : (h37 1 1) = 0 ∧ (h37 36 7) = (h 36 7) ∧ (h37 90 2) = (h 90 2) ∧ (h37 0 10) = (h 0 10) ∧ (h37 0 11) = (h 0 11) ∧ (h37 0 12) = (h 0 12) ∧ (h37 0 13) = (h 0 13) ∧ (h37 36 8) = (h 36 8) ∧ (h37 46 3) = (h 46 3) ∧ (h37 46 4) = (h 46 4) ∧ (h37 49 4) = (h 49 4) ∧ (h37 49 5) = (h 49 5) := f34
      clear f34
      have e40 : h37 0 10 = 58 := by omega
      have e41 : h37 0 13 = 86 := by omega
      refine ov_havw (fun w42 gw42 qw42 => ?_)
      refine ov_blk (ls2 := [(0, ov_r 0), (1, ov_i w42)]) (st2 := [ov_i w42]) (pc2 := 17) b_88_15_2 rfl rfl ?_
      refine ov_ifne (tgt := 45) d_88_17 (by decide) (by omega) (fun c43 => ?_) (fun c43 => ?_)
      · skip
        refine ov_blk (ls2 := [(0, ov_r 0), (1, ov_i w42)]) (st2 := [ov_i w42]) (pc2 := 46) b_88_45_1 rfl rfl ?_
        exact ov_reti (st := []) d_88_46 rfl ⟨_, rfl, I38, (by show (h37 1 1) = 0 ∧ (h37 36 7) = (h 36 7) ∧ (h37 90 2) = (h 90 2) ∧ (h37 0 10) = (h 0 10) ∧ (h37 0 11) = (h 0 11) ∧ (h37 36 8) = (h 36 8) ∧ (h37 46 3) = (h 46 3) ∧ (h37 46 4) = (h 46 4) ∧ (h37 49 4) = (h 49 4) ∧ (h37 49 5) = (h 49 5); omega)⟩
      · skip
        refine ov_blk (ls2 := [(0, ov_r 0), (1, ov_i w42)]) (st2 := [ov_r 0]) (pc2 := 21) b_88_20_1 rfl rfl ?_
        rcases rg_0_12 I38 with e44 | e44
        · skip
          refine ov_getf (v := ov_r 82) d_88_21 fl_OF_88 (zb_0 I38) (zs_0 I38) (congrArg ov_r e44) ?_
          refine ov_blk (ls2 := [(0, ov_r 0), (1, ov_i w42), (2, ov_r 82)]) (st2 := [ov_r 0, ov_r 0]) (pc2 := 27) b_88_24_3 rfl rfl ?_
          refine ov_getf (v := ov_r 86) d_88_27 fl_OF_92 (zb_0 I38) (zs_0 I38) (congrArg ov_r e41) ?_
          refine ov_putf (x := 86) d_88_30 fl_OF_88 (zb_0 I38) (zs_0 I38) rfl nk_2 rfl ?_
          have I45 := up_0_12 (x := 86) I38 (by omega)
          refine ov_blk (ls2 := [(0, ov_r 0), (1, ov_i w42), (2, ov_r 82)]) (st2 := [ov_r 82, ov_r 0]) (pc2 := 35) b_88_33_2 rfl rfl ?_
          refine ov_putf (x := 82) d_88_35 fl_OF_92 (zb_0 I45) (zs_0 I45) rfl nk_2 rfl ?_
          have I46 := up_0_13 (x := 82) I45 (by omega)
          refine ov_blk (ls2 := [(0, ov_r 0), (1, ov_i w42), (2, ov_r 82)]) (st2 := [ov_r 0]) (pc2 := 39) b_88_38_1 rfl rfl ?_
          refine ov_getf (v := ov_r 49) d_88_39 fl_OF_64 (zb_0 I46) (zs_0 I46) (congrArg ov_r (rg_0_8 I46)) ?_
          refine ov_cV (as := []) (st := []) (d2 := d - 1) d_88_42 lk_OF_126 rfl (Nat.le_of_ble_eq_true rfl) (c := 5) (zb_49 I46) (zs_49 I46) ⟨by decide, rfl⟩ (by omega) (c_Pace_forget_49 (d - 1) (by omega) U I46) ?_
          rintro _ z48 h49 ⟨rfl, I50, f47⟩
          show ov_R u d ov_m88 45 [(0, ov_r 0), (1, ov_i w42), (2, ov_r 82)] [] z48 h49 (P_OF_walk_0 F z h)
          have f51 : (h49 36 7) = (h37 36 7) ∧ (h49 1 1) = (h37 1 1) ∧ (h49 90 2) = (h37 90 2) ∧ (h49 0 10) = (h37 0 10) ∧ (h49 0 11) = (h37 0 11) ∧ (h49 0 12) = 86 ∧ (h49 0 13) = 82 ∧ (h49 3 1) = (h37 3 1) ∧ (h49 36 8) = (h37 36 8) ∧ (h49 46 3) = (h37 46 3) ∧ (h49 46 4) = (h37 46 4) ∧ (h49 49 4) = (h37 49 4) ∧ (h49 49 5) = (h37 49 5) := f47
          clear f47
          have e52 : h49 0 10 = 58 := by omega
          have e53 : h49 0 12 = 86 := by omega
          have e54 : h49 0 13 = 82 := by omega
          refine ov_blk (ls2 := [(0, ov_r 0), (1, ov_i w42), (2, ov_r 82)]) (st2 := [ov_i w42]) (pc2 := 46) b_88_45_1 rfl rfl ?_
          exact ov_reti (st := []) d_88_46 rfl ⟨_, rfl, I50, (by show (h49 1 1) = 0 ∧ (h49 36 7) = (h 36 7) ∧ (h49 90 2) = (h 90 2) ∧ (h49 0 10) = (h 0 10) ∧ (h49 0 11) = (h 0 11) ∧ (h49 36 8) = (h 36 8) ∧ (h49 46 3) = (h 46 3) ∧ (h49 46 4) = (h 46 4) ∧ (h49 49 4) = (h 49 4) ∧ (h49 49 5) = (h 49 5); omega)⟩
        · skip
          refine ov_getf (v := ov_r 86) d_88_21 fl_OF_88 (zb_0 I38) (zs_0 I38) (congrArg ov_r e44) ?_
          refine ov_blk (ls2 := [(0, ov_r 0), (1, ov_i w42), (2, ov_r 86)]) (st2 := [ov_r 0, ov_r 0]) (pc2 := 27) b_88_24_3 rfl rfl ?_
          refine ov_getf (v := ov_r 86) d_88_27 fl_OF_92 (zb_0 I38) (zs_0 I38) (congrArg ov_r e41) ?_
          refine ov_putf (x := 86) d_88_30 fl_OF_88 (zb_0 I38) (zs_0 I38) rfl nk_2 rfl ?_
          have I55 := up_0_12 (x := 86) I38 (by omega)
          refine ov_blk (ls2 := [(0, ov_r 0), (1, ov_i w42), (2, ov_r 86)]) (st2 := [ov_r 86, ov_r 0]) (pc2 := 35) b_88_33_2 rfl rfl ?_
          refine ov_putf (x := 86) d_88_35 fl_OF_92 (zb_0 I55) (zs_0 I55) rfl nk_2 rfl ?_
          have I56 := up_0_13 (x := 86) I55 (by omega)
          refine ov_blk (ls2 := [(0, ov_r 0), (1, ov_i w42), (2, ov_r 86)]) (st2 := [ov_r 0]) (pc2 := 39) b_88_38_1 rfl rfl ?_
          refine ov_getf (v := ov_r 49) d_88_39 fl_OF_64 (zb_0 I56) (zs_0 I56) (congrArg ov_r (rg_0_8 I56)) ?_
          refine ov_cV (as := []) (st := []) (d2 := d - 1) d_88_42 lk_OF_126 rfl (Nat.le_of_ble_eq_true rfl) (c := 5) (zb_49 I56) (zs_49 I56) ⟨by decide, rfl⟩ (by omega) (c_Pace_forget_49 (d - 1) (by omega) U I56) ?_
          rintro _ z58 h59 ⟨rfl, I60, f57⟩
          show ov_R u d ov_m88 45 [(0, ov_r 0), (1, ov_i w42), (2, ov_r 86)] [] z58 h59 (P_OF_walk_0 F z h)
          have f61 : (h59 36 7) = (h37 36 7) ∧ (h59 1 1) = (h37 1 1) ∧ (h59 90 2) = (h37 90 2) ∧ (h59 0 10) = (h37 0 10) ∧ (h59 0 11) = (h37 0 11) ∧ (h59 0 12) = 86 ∧ (h59 0 13) = 86 ∧ (h59 3 1) = (h37 3 1) ∧ (h59 36 8) = (h37 36 8) ∧ (h59 46 3) = (h37 46 3) ∧ (h59 46 4) = (h37 46 4) ∧ (h59 49 4) = (h37 49 4) ∧ (h59 49 5) = (h37 49 5) := f57
          clear f57
          have e62 : h59 0 10 = 58 := by omega
          have e63 : h59 0 12 = 86 := by omega
          have e64 : h59 0 13 = 86 := by omega
          refine ov_blk (ls2 := [(0, ov_r 0), (1, ov_i w42), (2, ov_r 86)]) (st2 := [ov_i w42]) (pc2 := 46) b_88_45_1 rfl rfl ?_
          exact ov_reti (st := []) d_88_46 rfl ⟨_, rfl, I60, (by show (h59 1 1) = 0 ∧ (h59 36 7) = (h 36 7) ∧ (h59 90 2) = (h 90 2) ∧ (h59 0 10) = (h 0 10) ∧ (h59 0 11) = (h 0 11) ∧ (h59 36 8) = (h 36 8) ∧ (h59 46 3) = (h 46 3) ∧ (h59 46 4) = (h 46 4) ∧ (h59 49 4) = (h 49 4) ∧ (h59 49 5) = (h 49 5); omega)⟩
  · skip
    refine ov_getf (v := ov_r 70) d_88_5 fl_OF_78 (zb_0 I) (zs_0 I) (congrArg ov_r e1) ?_
    refine ov_blk (ls2 := [(0, ov_r 0)]) (st2 := [ov_r 0, ov_r 70, ov_r 3]) (pc2 := 9) b_88_8_1 rfl rfl ?_
    rcases rg_0_13 I with e65 | e65
    · skip
      refine ov_getf (v := ov_r 82) d_88_9 fl_OF_92 (zb_0 I) (zs_0 I) (congrArg ov_r e65) ?_
      refine ov_cV (as := [ov_r 70, ov_r 82]) (st := []) (d2 := d - 1) d_88_12 lk_OF_122 rfl (Nat.le_of_ble_eq_true rfl) (c := 6) (zb_3 I) (zs_3 I) ⟨by decide, rfl⟩ (by omega) (c_Reader_readWalk_3_70_82 (d - 1) (by omega) U I) ?_
      rintro _ z68 h69 ⟨v67, rfl, I70, f66⟩
      show ov_R u d ov_m88 15 [(0, ov_r 0)] [ov_i v67] z68 h69 (P_OF_walk_0 F z h)
      have f71 : (h69 1 1) = 0 ∧ (h69 36 7) = (h 36 7) ∧ (h69 90 2) = (h 90 2) ∧ (h69 0 10) = (h 0 10) ∧ (h69 0 11) = (h 0 11) ∧ (h69 0 12) = (h 0 12) ∧ (h69 0 13) = (h 0 13) ∧ (h69 36 8) = (h 36 8) ∧ (h69 46 3) = (h 46 3) ∧ (h69 46 4) = (h 46 4) ∧ (h69 49 4) = (h 49 4) ∧ (h69 49 5) = (h 49 5) := f66
      clear f66
      have e72 : h69 0 10 = 70 := by omega
      have e73 : h69 0 13 = 82 := by omega
      refine ov_havw (fun w74 gw74 qw74 => ?_)
      refine ov_blk (ls2 := [(0, ov_r 0), (1, ov_i w74)]) (st2 := [ov_i w74]) (pc2 := 17) b_88_15_2 rfl rfl ?_
      refine ov_ifne (tgt := 45) d_88_17 (by decide) (by omega) (fun c75 => ?_) (fun c75 => ?_)
      · skip
        refine ov_blk (ls2 := [(0, ov_r 0), (1, ov_i w74)]) (st2 := [ov_i w74]) (pc2 := 46) b_88_45_1 rfl rfl ?_
        exact ov_reti (st := []) d_88_46 rfl ⟨_, rfl, I70, (by show (h69 1 1) = 0 ∧ (h69 36 7) = (h 36 7) ∧ (h69 90 2) = (h 90 2) ∧ (h69 0 10) = (h 0 10) ∧ (h69 0 11) = (h 0 11) ∧ (h69 36 8) = (h 36 8) ∧ (h69 46 3) = (h 46 3) ∧ (h69 46 4) = (h 46 4) ∧ (h69 49 4) = (h 49 4) ∧ (h69 49 5) = (h 49 5); omega)⟩
      · skip
        refine ov_blk (ls2 := [(0, ov_r 0), (1, ov_i w74)]) (st2 := [ov_r 0]) (pc2 := 21) b_88_20_1 rfl rfl ?_
        rcases rg_0_12 I70 with e76 | e76
        · skip
          refine ov_getf (v := ov_r 82) d_88_21 fl_OF_88 (zb_0 I70) (zs_0 I70) (congrArg ov_r e76) ?_
          refine ov_blk (ls2 := [(0, ov_r 0), (1, ov_i w74), (2, ov_r 82)]) (st2 := [ov_r 0, ov_r 0]) (pc2 := 27) b_88_24_3 rfl rfl ?_
          refine ov_getf (v := ov_r 82) d_88_27 fl_OF_92 (zb_0 I70) (zs_0 I70) (congrArg ov_r e73) ?_
          refine ov_putf (x := 82) d_88_30 fl_OF_88 (zb_0 I70) (zs_0 I70) rfl nk_2 rfl ?_
          have I77 := up_0_12 (x := 82) I70 (by omega)
          refine ov_blk (ls2 := [(0, ov_r 0), (1, ov_i w74), (2, ov_r 82)]) (st2 := [ov_r 82, ov_r 0]) (pc2 := 35) b_88_33_2 rfl rfl ?_
          refine ov_putf (x := 82) d_88_35 fl_OF_92 (zb_0 I77) (zs_0 I77) rfl nk_2 rfl ?_
          have I78 := up_0_13 (x := 82) I77 (by omega)
          refine ov_blk (ls2 := [(0, ov_r 0), (1, ov_i w74), (2, ov_r 82)]) (st2 := [ov_r 0]) (pc2 := 39) b_88_38_1 rfl rfl ?_
          refine ov_getf (v := ov_r 49) d_88_39 fl_OF_64 (zb_0 I78) (zs_0 I78) (congrArg ov_r (rg_0_8 I78)) ?_
          refine ov_cV (as := []) (st := []) (d2 := d - 1) d_88_42 lk_OF_126 rfl (Nat.le_of_ble_eq_true rfl) (c := 5) (zb_49 I78) (zs_49 I78) ⟨by decide, rfl⟩ (by omega) (c_Pace_forget_49 (d - 1) (by omega) U I78) ?_
          rintro _ z80 h81 ⟨rfl, I82, f79⟩
          show ov_R u d ov_m88 45 [(0, ov_r 0), (1, ov_i w74), (2, ov_r 82)] [] z80 h81 (P_OF_walk_0 F z h)
          have f83 : (h81 36 7) = (h69 36 7) ∧ (h81 1 1) = (h69 1 1) ∧ (h81 90 2) = (h69 90 2) ∧ (h81 0 10) = (h69 0 10) ∧ (h81 0 11) = (h69 0 11) ∧ (h81 0 12) = 82 ∧ (h81 0 13) = 82 ∧ (h81 3 1) = (h69 3 1) ∧ (h81 36 8) = (h69 36 8) ∧ (h81 46 3) = (h69 46 3) ∧ (h81 46 4) = (h69 46 4) ∧ (h81 49 4) = (h69 49 4) ∧ (h81 49 5) = (h69 49 5) := f79
          clear f79
          have e84 : h81 0 10 = 70 := by omega
          have e85 : h81 0 12 = 82 := by omega
          have e86 : h81 0 13 = 82 := by omega
          refine ov_blk (ls2 := [(0, ov_r 0), (1, ov_i w74), (2, ov_r 82)]) (st2 := [ov_i w74]) (pc2 := 46) b_88_45_1 rfl rfl ?_
          exact ov_reti (st := []) d_88_46 rfl ⟨_, rfl, I82, (by show (h81 1 1) = 0 ∧ (h81 36 7) = (h 36 7) ∧ (h81 90 2) = (h 90 2) ∧ (h81 0 10) = (h 0 10) ∧ (h81 0 11) = (h 0 11) ∧ (h81 36 8) = (h 36 8) ∧ (h81 46 3) = (h 46 3) ∧ (h81 46 4) = (h 46 4) ∧ (h81 49 4) = (h 49 4) ∧ (h81 49 5) = (h 49 5); omega)⟩
        · skip
          refine ov_getf (v := ov_r 86) d_88_21 fl_OF_88 (zb_0 I70) (zs_0 I70) (congrArg ov_r e76) ?_
          refine ov_blk (ls2 := [(0, ov_r 0), (1, ov_i w74), (2, ov_r 86)]) (st2 := [ov_r 0, ov_r 0]) (pc2 := 27) b_88_24_3 rfl rfl ?_
          refine ov_getf (v := ov_r 82) d_88_27 fl_OF_92 (zb_0 I70) (zs_0 I70) (congrArg ov_r e73) ?_
          refine ov_putf (x := 82) d_88_30 fl_OF_88 (zb_0 I70) (zs_0 I70) rfl nk_2 rfl ?_
          have I87 := up_0_12 (x := 82) I70 (by omega)
          refine ov_blk (ls2 := [(0, ov_r 0), (1, ov_i w74), (2, ov_r 86)]) (st2 := [ov_r 86, ov_r 0]) (pc2 := 35) b_88_33_2 rfl rfl ?_
          refine ov_putf (x := 86) d_88_35 fl_OF_92 (zb_0 I87) (zs_0 I87) rfl nk_2 rfl ?_
          have I88 := up_0_13 (x := 86) I87 (by omega)
          refine ov_blk (ls2 := [(0, ov_r 0), (1, ov_i w74), (2, ov_r 86)]) (st2 := [ov_r 0]) (pc2 := 39) b_88_38_1 rfl rfl ?_
          refine ov_getf (v := ov_r 49) d_88_39 fl_OF_64 (zb_0 I88) (zs_0 I88) (congrArg ov_r (rg_0_8 I88)) ?_
          refine ov_cV (as := []) (st := []) (d2 := d - 1) d_88_42 lk_OF_126 rfl (Nat.le_of_ble_eq_true rfl) (c := 5) (zb_49 I88) (zs_49 I88) ⟨by decide, rfl⟩ (by omega) (c_Pace_forget_49 (d - 1) (by omega) U I88) ?_
          rintro _ z90 h91 ⟨rfl, I92, f89⟩
          show ov_R u d ov_m88 45 [(0, ov_r 0), (1, ov_i w74), (2, ov_r 86)] [] z90 h91 (P_OF_walk_0 F z h)
          have f93 : (h91 36 7) = (h69 36 7) ∧ (h91 1 1) = (h69 1 1) ∧ (h91 90 2) = (h69 90 2) ∧ (h91 0 10) = (h69 0 10) ∧ (h91 0 11) = (h69 0 11) ∧ (h91 0 12) = 82 ∧ (h91 0 13) = 86 ∧ (h91 3 1) = (h69 3 1) ∧ (h91 36 8) = (h69 36 8) ∧ (h91 46 3) = (h69 46 3) ∧ (h91 46 4) = (h69 46 4) ∧ (h91 49 4) = (h69 49 4) ∧ (h91 49 5) = (h69 49 5) := f89
          clear f89
          have e94 : h91 0 10 = 70 := by omega
          have e95 : h91 0 12 = 82 := by omega
          have e96 : h91 0 13 = 86 := by omega
          refine ov_blk (ls2 := [(0, ov_r 0), (1, ov_i w74), (2, ov_r 86)]) (st2 := [ov_i w74]) (pc2 := 46) b_88_45_1 rfl rfl ?_
          exact ov_reti (st := []) d_88_46 rfl ⟨_, rfl, I92, (by show (h91 1 1) = 0 ∧ (h91 36 7) = (h 36 7) ∧ (h91 90 2) = (h 90 2) ∧ (h91 0 10) = (h 0 10) ∧ (h91 0 11) = (h 0 11) ∧ (h91 36 8) = (h 36 8) ∧ (h91 46 3) = (h 46 3) ∧ (h91 46 4) = (h 46 4) ∧ (h91 49 4) = (h 49 4) ∧ (h91 49 5) = (h 49 5); omega)⟩
    · skip
      refine ov_getf (v := ov_r 86) d_88_9 fl_OF_92 (zb_0 I) (zs_0 I) (congrArg ov_r e65) ?_
      refine ov_cV (as := [ov_r 70, ov_r 86]) (st := []) (d2 := d - 1) d_88_12 lk_OF_122 rfl (Nat.le_of_ble_eq_true rfl) (c := 6) (zb_3 I) (zs_3 I) ⟨by decide, rfl⟩ (by omega) (c_Reader_readWalk_3_70_86 (d - 1) (by omega) U I) ?_
      rintro _ z99 h100 ⟨v98, rfl, I101, f97⟩
      show ov_R u d ov_m88 15 [(0, ov_r 0)] [ov_i v98] z99 h100 (P_OF_walk_0 F z h)
      have f102 : (h100 1 1) = 0 ∧ (h100 36 7) = (h 36 7) ∧ (h100 90 2) = (h 90 2) ∧ (h100 0 10) = (h 0 10) ∧ (h100 0 11) = (h 0 11) ∧ (h100 0 12) = (h 0 12) ∧ (h100 0 13) = (h 0 13) ∧ (h100 36 8) = (h 36 8) ∧ (h100 46 3) = (h 46 3) ∧ (h100 46 4) = (h 46 4) ∧ (h100 49 4) = (h 49 4) ∧ (h100 49 5) = (h 49 5) := f97
      clear f97
      have e103 : h100 0 10 = 70 := by omega
      have e104 : h100 0 13 = 86 := by omega
      refine ov_havw (fun w105 gw105 qw105 => ?_)
      refine ov_blk (ls2 := [(0, ov_r 0), (1, ov_i w105)]) (st2 := [ov_i w105]) (pc2 := 17) b_88_15_2 rfl rfl ?_
      refine ov_ifne (tgt := 45) d_88_17 (by decide) (by omega) (fun c106 => ?_) (fun c106 => ?_)
      · skip
        refine ov_blk (ls2 := [(0, ov_r 0), (1, ov_i w105)]) (st2 := [ov_i w105]) (pc2 := 46) b_88_45_1 rfl rfl ?_
        exact ov_reti (st := []) d_88_46 rfl ⟨_, rfl, I101, (by show (h100 1 1) = 0 ∧ (h100 36 7) = (h 36 7) ∧ (h100 90 2) = (h 90 2) ∧ (h100 0 10) = (h 0 10) ∧ (h100 0 11) = (h 0 11) ∧ (h100 36 8) = (h 36 8) ∧ (h100 46 3) = (h 46 3) ∧ (h100 46 4) = (h 46 4) ∧ (h100 49 4) = (h 49 4) ∧ (h100 49 5) = (h 49 5); omega)⟩
      · skip
        refine ov_blk (ls2 := [(0, ov_r 0), (1, ov_i w105)]) (st2 := [ov_r 0]) (pc2 := 21) b_88_20_1 rfl rfl ?_
        rcases rg_0_12 I101 with e107 | e107
        · skip
          refine ov_getf (v := ov_r 82) d_88_21 fl_OF_88 (zb_0 I101) (zs_0 I101) (congrArg ov_r e107) ?_
          refine ov_blk (ls2 := [(0, ov_r 0), (1, ov_i w105), (2, ov_r 82)]) (st2 := [ov_r 0, ov_r 0]) (pc2 := 27) b_88_24_3 rfl rfl ?_
          refine ov_getf (v := ov_r 86) d_88_27 fl_OF_92 (zb_0 I101) (zs_0 I101) (congrArg ov_r e104) ?_
          refine ov_putf (x := 86) d_88_30 fl_OF_88 (zb_0 I101) (zs_0 I101) rfl nk_2 rfl ?_
          have I108 := up_0_12 (x := 86) I101 (by omega)
          refine ov_blk (ls2 := [(0, ov_r 0), (1, ov_i w105), (2, ov_r 82)]) (st2 := [ov_r 82, ov_r 0]) (pc2 := 35) b_88_33_2 rfl rfl ?_
          refine ov_putf (x := 82) d_88_35 fl_OF_92 (zb_0 I108) (zs_0 I108) rfl nk_2 rfl ?_
          have I109 := up_0_13 (x := 82) I108 (by omega)
          refine ov_blk (ls2 := [(0, ov_r 0), (1, ov_i w105), (2, ov_r 82)]) (st2 := [ov_r 0]) (pc2 := 39) b_88_38_1 rfl rfl ?_
          refine ov_getf (v := ov_r 49) d_88_39 fl_OF_64 (zb_0 I109) (zs_0 I109) (congrArg ov_r (rg_0_8 I109)) ?_
          refine ov_cV (as := []) (st := []) (d2 := d - 1) d_88_42 lk_OF_126 rfl (Nat.le_of_ble_eq_true rfl) (c := 5) (zb_49 I109) (zs_49 I109) ⟨by decide, rfl⟩ (by omega) (c_Pace_forget_49 (d - 1) (by omega) U I109) ?_
          rintro _ z111 h112 ⟨rfl, I113, f110⟩
          show ov_R u d ov_m88 45 [(0, ov_r 0), (1, ov_i w105), (2, ov_r 82)] [] z111 h112 (P_OF_walk_0 F z h)
          have f114 : (h112 36 7) = (h100 36 7) ∧ (h112 1 1) = (h100 1 1) ∧ (h112 90 2) = (h100 90 2) ∧ (h112 0 10) = (h100 0 10) ∧ (h112 0 11) = (h100 0 11) ∧ (h112 0 12) = 86 ∧ (h112 0 13) = 82 ∧ (h112 3 1) = (h100 3 1) ∧ (h112 36 8) = (h100 36 8) ∧ (h112 46 3) = (h100 46 3) ∧ (h112 46 4) = (h100 46 4) ∧ (h112 49 4) = (h100 49 4) ∧ (h112 49 5) = (h100 49 5) := f110
          clear f110
          have e115 : h112 0 10 = 70 := by omega
          have e116 : h112 0 12 = 86 := by omega
          have e117 : h112 0 13 = 82 := by omega
          refine ov_blk (ls2 := [(0, ov_r 0), (1, ov_i w105), (2, ov_r 82)]) (st2 := [ov_i w105]) (pc2 := 46) b_88_45_1 rfl rfl ?_
          exact ov_reti (st := []) d_88_46 rfl ⟨_, rfl, I113, (by show (h112 1 1) = 0 ∧ (h112 36 7) = (h 36 7) ∧ (h112 90 2) = (h 90 2) ∧ (h112 0 10) = (h 0 10) ∧ (h112 0 11) = (h 0 11) ∧ (h112 36 8) = (h 36 8) ∧ (h112 46 3) = (h 46 3) ∧ (h112 46 4) = (h 46 4) ∧ (h112 49 4) = (h 49 4) ∧ (h112 49 5) = (h 49 5); omega)⟩
        · skip
          refine ov_getf (v := ov_r 86) d_88_21 fl_OF_88 (zb_0 I101) (zs_0 I101) (congrArg ov_r e107) ?_
          refine ov_blk (ls2 := [(0, ov_r 0), (1, ov_i w105), (2, ov_r 86)]) (st2 := [ov_r 0, ov_r 0]) (pc2 := 27) b_88_24_3 rfl rfl ?_
          refine ov_getf (v := ov_r 86) d_88_27 fl_OF_92 (zb_0 I101) (zs_0 I101) (congrArg ov_r e104) ?_
          refine ov_putf (x := 86) d_88_30 fl_OF_88 (zb_0 I101) (zs_0 I101) rfl nk_2 rfl ?_
          have I118 := up_0_12 (x := 86) I101 (by omega)
          refine ov_blk (ls2 := [(0, ov_r 0), (1, ov_i w105), (2, ov_r 86)]) (st2 := [ov_r 86, ov_r 0]) (pc2 := 35) b_88_33_2 rfl rfl ?_
          refine ov_putf (x := 86) d_88_35 fl_OF_92 (zb_0 I118) (zs_0 I118) rfl nk_2 rfl ?_
          have I119 := up_0_13 (x := 86) I118 (by omega)
          refine ov_blk (ls2 := [(0, ov_r 0), (1, ov_i w105), (2, ov_r 86)]) (st2 := [ov_r 0]) (pc2 := 39) b_88_38_1 rfl rfl ?_
          refine ov_getf (v := ov_r 49) d_88_39 fl_OF_64 (zb_0 I119) (zs_0 I119) (congrArg ov_r (rg_0_8 I119)) ?_
          refine ov_cV (as := []) (st := []) (d2 := d - 1) d_88_42 lk_OF_126 rfl (Nat.le_of_ble_eq_true rfl) (c := 5) (zb_49 I119) (zs_49 I119) ⟨by decide, rfl⟩ (by omega) (c_Pace_forget_49 (d - 1) (by omega) U I119) ?_
          rintro _ z121 h122 ⟨rfl, I123, f120⟩
          show ov_R u d ov_m88 45 [(0, ov_r 0), (1, ov_i w105), (2, ov_r 86)] [] z121 h122 (P_OF_walk_0 F z h)
          have f124 : (h122 36 7) = (h100 36 7) ∧ (h122 1 1) = (h100 1 1) ∧ (h122 90 2) = (h100 90 2) ∧ (h122 0 10) = (h100 0 10) ∧ (h122 0 11) = (h100 0 11) ∧ (h122 0 12) = 86 ∧ (h122 0 13) = 86 ∧ (h122 3 1) = (h100 3 1) ∧ (h122 36 8) = (h100 36 8) ∧ (h122 46 3) = (h100 46 3) ∧ (h122 46 4) = (h100 46 4) ∧ (h122 49 4) = (h100 49 4) ∧ (h122 49 5) = (h100 49 5) := f120
          clear f120
          have e125 : h122 0 10 = 70 := by omega
          have e126 : h122 0 12 = 86 := by omega
          have e127 : h122 0 13 = 86 := by omega
          refine ov_blk (ls2 := [(0, ov_r 0), (1, ov_i w105), (2, ov_r 86)]) (st2 := [ov_i w105]) (pc2 := 46) b_88_45_1 rfl rfl ?_
          exact ov_reti (st := []) d_88_46 rfl ⟨_, rfl, I123, (by show (h122 1 1) = 0 ∧ (h122 36 7) = (h 36 7) ∧ (h122 90 2) = (h 90 2) ∧ (h122 0 10) = (h 0 10) ∧ (h122 0 11) = (h 0 11) ∧ (h122 36 8) = (h 36 8) ∧ (h122 46 3) = (h 46 3) ∧ (h122 46 4) = (h 46 4) ∧ (h122 49 4) = (h 49 4) ∧ (h122 49 5) = (h 49 5); omega)⟩
abbrev P_OF_light_0 (F : ov_H) (z : ov_Z) (h : ov_H) (x : Int) (y : Int) (w : Int) : Option ov_V → ov_Z → ov_H → Prop := fun r0 z' h' => ∃ r : Int, r0 = some (ov_i r) ∧ z = z' ∧ h = h' ∧ (True)
set_option maxHeartbeats 4000000 in
theorem c_OF_light_0 {u : ov_U} {F : ov_H} {z : ov_Z} {h : ov_H} (d : Nat) (hd : 1 ≤ d) (U : ov_cap u) (I : ov_I F z h) (x : Int) (y : Int) (w : Int) (g_x : ov_g x) (g_y : ov_g y) (g_w : ov_g w) : ov_T u d ov_m93 [ov_r 0, ov_i x, ov_i y, ov_i w] z h (P_OF_light_0 F z h x y w) := by
  refine ov_en rfl (Nat.le_of_ble_eq_true rfl) ?_
  show ov_R u d ov_m93 0 [(0, ov_r 0), (1, ov_i x), (2, ov_i y), (3, ov_i w)] [] z h (P_OF_light_0 F z h x y w)
  refine ov_blk (ls2 := [(0, ov_r 0), (1, ov_i x), (2, ov_i y), (3, ov_i w)]) (st2 := [ov_r 0]) (pc2 := 1) b_93_0_1 rfl rfl ?_
  rcases rg_0_10 I with e1 | e1
  · skip
    refine ov_getf (v := ov_r 58) d_93_1 fl_OF_78 (zb_0 I) (zs_0 I) (congrArg ov_r e1) ?_
    refine ov_blk (ls2 := [(0, ov_r 0), (1, ov_i x), (2, ov_i y), (3, ov_i w)]) (st2 := [ov_i y, ov_i x, ov_r 58]) (pc2 := 6) b_93_4_2 rfl rfl ?_
    refine ov_cV (as := [ov_i x, ov_i y]) (st := []) (d2 := d - 1) d_93_6 lk_OF_131 rfl (Nat.le_of_ble_eq_true rfl) (c := 9) (zb_58 I) (zs_58 I) ⟨by decide, rfl⟩ (by omega) (c_Town_corner_58 (d - 1) (by omega) U I x y (by omega) (by omega)) ?_
    rintro _ _ _ ⟨v3, rfl, rfl, rfl, f2⟩
    show ov_R u d ov_m93 9 [(0, ov_r 0), (1, ov_i x), (2, ov_i y), (3, ov_i w)] [ov_i v3] z h (P_OF_light_0 F z h x y w)
    have f4 : v3 = -1 ∨ (0 ≤ x ∧ x < (h 58 0) ∧ 0 ≤ y ∧ y < (h 58 1) ∧ v3 = y * 6 + x ∧ (h 58 0) ≤ 6 ∧ (h 58 1) ≤ 9) := f2
    clear f2
    refine ov_blk (ls2 := [(0, ov_r 0), (1, ov_i x), (2, ov_i y), (3, ov_i w), (4, ov_i v3)]) (st2 := [ov_i (-1), ov_i v3]) (pc2 := 14) b_93_9_3 rfl rfl ?_
    refine ov_icne (tgt := 19) d_93_14 (by decide) (by omega) (by omega) (fun c5 => ?_) (fun c5 => ?_)
    · skip
      refine ov_blk (ls2 := [(0, ov_r 0), (1, ov_i x), (2, ov_i y), (3, ov_i w), (4, ov_i v3)]) (st2 := [ov_i 5, ov_i w]) (pc2 := 21) b_93_19_2 rfl rfl ?_
      refine ov_icne (tgt := 35) d_93_21 (by decide) (by omega) (by omega) (fun c6 => ?_) (fun c6 => ?_)
      · skip
        refine ov_blk (ls2 := [(0, ov_r 0), (1, ov_i x), (2, ov_i y), (3, ov_i w), (4, ov_i v3)]) (st2 := [ov_r 0]) (pc2 := 36) b_93_35_1 rfl rfl ?_
        refine ov_getf (v := ov_r 58) d_93_36 fl_OF_78 (zb_0 I) (zs_0 I) (congrArg ov_r e1) ?_
        refine ov_getf (v := ov_r 59) d_93_39 fl_OF_139 (zb_58 I) (zs_58 I) (congrArg ov_r (rg_58_2 I)) ?_
        refine ov_blk (ls2 := [(0, ov_r 0), (1, ov_i x), (2, ov_i y), (3, ov_i w), (4, ov_i v3)]) (st2 := [ov_i v3, ov_r 59]) (pc2 := 44) b_93_42_1 rfl rfl ?_
        refine ov_iald d_93_44 (zb_59 I) (zs_59 I) (by omega) ?_
        have g7 := ra_59 I v3
        refine ov_blk (ls2 := [(0, ov_r 0), (1, ov_i x), (2, ov_i y), (3, ov_i w), (4, ov_i v3)]) (st2 := [ov_i (-1), ov_i (h 59 v3)]) (pc2 := 46) b_93_45_1 rfl rfl ?_
        refine ov_icne (tgt := 51) d_93_46 (by decide) (by omega) (by omega) (fun c8 => ?_) (fun c8 => ?_)
        · skip
          refine ov_blk (ls2 := [(0, ov_r 0), (1, ov_i x), (2, ov_i y), (3, ov_i w), (4, ov_i v3)]) (st2 := [ov_i w]) (pc2 := 52) b_93_51_1 rfl rfl ?_
          by_cases q9 : w = 0
          · refine ov_tin (off := 36) (tgt := 88) d_93_52 (by omega) (by omega) (by rw [q9]; rfl) (by decide) ?_
            refine ov_blk (ls2 := [(0, ov_r 0), (1, ov_i x), (2, ov_i y), (3, ov_i w), (4, ov_i v3)]) (st2 := [ov_r 0]) (pc2 := 89) b_93_88_1 rfl rfl ?_
            refine ov_getf (v := ov_r 58) d_93_89 fl_OF_78 (zb_0 I) (zs_0 I) (congrArg ov_r e1) ?_
            refine ov_getf (v := ov_r 59) d_93_92 fl_OF_139 (zb_58 I) (zs_58 I) (congrArg ov_r (rg_58_2 I)) ?_
            refine ov_blk (ls2 := [(0, ov_r 0), (1, ov_i x), (2, ov_i y), (3, ov_i w), (4, ov_i v3)]) (st2 := [ov_i v3, ov_r 59]) (pc2 := 97) b_93_95_1 rfl rfl ?_
            refine ov_iald d_93_97 (zb_59 I) (zs_59 I) (by omega) ?_
            exact ov_reti (st := []) d_93_98 rfl ⟨_, rfl, rfl, rfl, trivial⟩
          by_cases q11 : w = 1
          · refine ov_tin (off := 47) (tgt := 99) d_93_52 (by omega) (by omega) (by rw [q11]; rfl) (by decide) ?_
            refine ov_blk (ls2 := [(0, ov_r 0), (1, ov_i x), (2, ov_i y), (3, ov_i w), (4, ov_i v3)]) (st2 := [ov_r 0]) (pc2 := 100) b_93_99_1 rfl rfl ?_
            refine ov_getf (v := ov_r 58) d_93_100 fl_OF_78 (zb_0 I) (zs_0 I) (congrArg ov_r e1) ?_
            refine ov_getf (v := ov_r 60) d_93_103 fl_OF_142 (zb_58 I) (zs_58 I) (congrArg ov_r (rg_58_3 I)) ?_
            refine ov_blk (ls2 := [(0, ov_r 0), (1, ov_i x), (2, ov_i y), (3, ov_i w), (4, ov_i v3)]) (st2 := [ov_i v3, ov_r 60]) (pc2 := 108) b_93_106_1 rfl rfl ?_
            refine ov_iald d_93_108 (zb_60 I) (zs_60 I) (by omega) ?_
            have g12 := ra_60 I v3
            exact ov_reti (st := []) d_93_109 rfl ⟨_, rfl, rfl, rfl, trivial⟩
          by_cases q13 : w = 2
          · refine ov_tin (off := 58) (tgt := 110) d_93_52 (by omega) (by omega) (by rw [q13]; rfl) (by decide) ?_
            refine ov_blk (ls2 := [(0, ov_r 0), (1, ov_i x), (2, ov_i y), (3, ov_i w), (4, ov_i v3)]) (st2 := [ov_r 0]) (pc2 := 111) b_93_110_1 rfl rfl ?_
            refine ov_getf (v := ov_r 58) d_93_111 fl_OF_78 (zb_0 I) (zs_0 I) (congrArg ov_r e1) ?_
            refine ov_getf (v := ov_r 61) d_93_114 fl_OF_145 (zb_58 I) (zs_58 I) (congrArg ov_r (rg_58_4 I)) ?_
            refine ov_blk (ls2 := [(0, ov_r 0), (1, ov_i x), (2, ov_i y), (3, ov_i w), (4, ov_i v3)]) (st2 := [ov_i v3, ov_r 61]) (pc2 := 119) b_93_117_1 rfl rfl ?_
            refine ov_iald d_93_119 (zb_61 I) (zs_61 I) (by omega) ?_
            have g14 := ra_61 I v3
            exact ov_reti (st := []) d_93_120 rfl ⟨_, rfl, rfl, rfl, trivial⟩
          by_cases q15 : w = 3
          · refine ov_tin (off := 69) (tgt := 121) d_93_52 (by omega) (by omega) (by rw [q15]; rfl) (by decide) ?_
            refine ov_blk (ls2 := [(0, ov_r 0), (1, ov_i x), (2, ov_i y), (3, ov_i w), (4, ov_i v3)]) (st2 := [ov_r 0]) (pc2 := 122) b_93_121_1 rfl rfl ?_
            refine ov_getf (v := ov_r 58) d_93_122 fl_OF_78 (zb_0 I) (zs_0 I) (congrArg ov_r e1) ?_
            refine ov_getf (v := ov_r 62) d_93_125 fl_OF_148 (zb_58 I) (zs_58 I) (congrArg ov_r (rg_58_5 I)) ?_
            refine ov_blk (ls2 := [(0, ov_r 0), (1, ov_i x), (2, ov_i y), (3, ov_i w), (4, ov_i v3)]) (st2 := [ov_i v3, ov_r 62]) (pc2 := 130) b_93_128_1 rfl rfl ?_
            refine ov_iald d_93_130 (zb_62 I) (zs_62 I) (by omega) ?_
            have g16 := ra_62 I v3
            exact ov_reti (st := []) d_93_131 rfl ⟨_, rfl, rfl, rfl, trivial⟩
          by_cases q17 : w = 4
          · refine ov_tin (off := 80) (tgt := 132) d_93_52 (by omega) (by omega) (by rw [q17]; rfl) (by decide) ?_
            refine ov_blk (ls2 := [(0, ov_r 0), (1, ov_i x), (2, ov_i y), (3, ov_i w), (4, ov_i v3)]) (st2 := [ov_r 0]) (pc2 := 133) b_93_132_1 rfl rfl ?_
            refine ov_getf (v := ov_r 58) d_93_133 fl_OF_78 (zb_0 I) (zs_0 I) (congrArg ov_r e1) ?_
            refine ov_getf (v := ov_r 59) d_93_136 fl_OF_139 (zb_58 I) (zs_58 I) (congrArg ov_r (rg_58_2 I)) ?_
            refine ov_blk (ls2 := [(0, ov_r 0), (1, ov_i x), (2, ov_i y), (3, ov_i w), (4, ov_i v3)]) (st2 := [ov_i v3, ov_r 59]) (pc2 := 141) b_93_139_1 rfl rfl ?_
            refine ov_iald d_93_141 (zb_59 I) (zs_59 I) (by omega) ?_
            refine ov_blk (ls2 := [(0, ov_r 0), (1, ov_i x), (2, ov_i y), (3, ov_i w), (4, ov_i v3)]) (st2 := [ov_i 1, ov_i (h 59 v3)]) (pc2 := 143) b_93_142_1 rfl rfl ?_
            refine ov_icne (tgt := 162) d_93_143 (by decide) (by omega) (by omega) (fun c19 => ?_) (fun c19 => ?_)
            · skip
              refine ov_blk (ls2 := [(0, ov_r 0), (1, ov_i x), (2, ov_i y), (3, ov_i w), (4, ov_i v3)]) (st2 := [ov_i 0]) (pc2 := 163) b_93_162_1 rfl rfl ?_
              exact ov_reti (st := []) d_93_163 rfl ⟨_, rfl, rfl, rfl, trivial⟩
            · skip
              refine ov_blk (ls2 := [(0, ov_r 0), (1, ov_i x), (2, ov_i y), (3, ov_i w), (4, ov_i v3)]) (st2 := [ov_r 0]) (pc2 := 147) b_93_146_1 rfl rfl ?_
              refine ov_getf (v := ov_r 4) d_93_147 fl_OF_28 (zb_0 I) (zs_0 I) (congrArg ov_r (rg_0_2 I)) ?_
              refine ov_blk (ls2 := [(0, ov_r 0), (1, ov_i x), (2, ov_i y), (3, ov_i w), (4, ov_i v3)]) (st2 := [ov_i v3, ov_r 4]) (pc2 := 152) b_93_150_1 rfl rfl ?_
              refine ov_cV (as := [ov_i v3]) (st := []) (d2 := d - 1) d_93_152 lk_OF_151 rfl (Nat.le_of_ble_eq_true rfl) (c := 7) (zb_4 I) (zs_4 I) ⟨by decide, rfl⟩ (by omega) (c_State_knows_4 (d - 1) (by omega) U I v3 (by omega)) ?_
              rintro _ _ _ ⟨v21, rfl, rfl, rfl, f20⟩
              show ov_R u d ov_m93 155 [(0, ov_r 0), (1, ov_i x), (2, ov_i y), (3, ov_i w), (4, ov_i v3)] [ov_i v21] z h (P_OF_light_0 F z h x y w)
              have f22 : (v21 = 0 ∨ v21 = 1) := f20
              clear f20
              refine ov_ifeq (tgt := 162) d_93_155 (by decide) (by omega) (fun c23 => ?_) (fun c23 => ?_)
              · skip
                refine ov_blk (ls2 := [(0, ov_r 0), (1, ov_i x), (2, ov_i y), (3, ov_i w), (4, ov_i v3)]) (st2 := [ov_i 0]) (pc2 := 163) b_93_162_1 rfl rfl ?_
                exact ov_reti (st := []) d_93_163 rfl ⟨_, rfl, rfl, rfl, trivial⟩
              · skip
                refine ov_blk (ls2 := [(0, ov_r 0), (1, ov_i x), (2, ov_i y), (3, ov_i w), (4, ov_i v3)]) (st2 := [ov_i 1]) (pc2 := 159) b_93_158_1 rfl rfl ?_
                refine ov_goto (tgt := 163) d_93_159 (by decide) ?_
                exact ov_reti (st := []) d_93_163 rfl ⟨_, rfl, rfl, rfl, trivial⟩
          refine ov_tout (tgt := 164) d_93_52 (by omega) (by omega) (by decide) ?_
          refine ov_blk (ls2 := [(0, ov_r 0), (1, ov_i x), (2, ov_i y), (3, ov_i w), (4, ov_i v3)]) (st2 := [ov_i (-1)]) (pc2 := 165) b_93_164_1 rfl rfl ?_
          exact ov_reti (st := []) d_93_165 rfl ⟨_, rfl, rfl, rfl, trivial⟩
        · skip
          refine ov_blk (ls2 := [(0, ov_r 0), (1, ov_i x), (2, ov_i y), (3, ov_i w), (4, ov_i v3)]) (st2 := [ov_i (-1)]) (pc2 := 50) b_93_49_1 rfl rfl ?_
          exact ov_reti (st := []) d_93_50 rfl ⟨_, rfl, rfl, rfl, trivial⟩
      · skip
        refine ov_blk (ls2 := [(0, ov_r 0), (1, ov_i x), (2, ov_i y), (3, ov_i w), (4, ov_i v3)]) (st2 := [ov_r 0]) (pc2 := 25) b_93_24_1 rfl rfl ?_
        refine ov_getf (v := ov_r 58) d_93_25 fl_OF_78 (zb_0 I) (zs_0 I) (congrArg ov_r e1) ?_
        refine ov_getf (v := ov_r 63) d_93_28 fl_OF_135 (zb_58 I) (zs_58 I) (congrArg ov_r (rg_58_6 I)) ?_
        refine ov_blk (ls2 := [(0, ov_r 0), (1, ov_i x), (2, ov_i y), (3, ov_i w), (4, ov_i v3)]) (st2 := [ov_i v3, ov_r 63]) (pc2 := 33) b_93_31_1 rfl rfl ?_
        refine ov_iald d_93_33 (zb_63 I) (zs_63 I) (by omega) ?_
        have g24 := ra_63 I v3
        exact ov_reti (st := []) d_93_34 rfl ⟨_, rfl, rfl, rfl, trivial⟩
    · skip
      refine ov_blk (ls2 := [(0, ov_r 0), (1, ov_i x), (2, ov_i y), (3, ov_i w), (4, ov_i v3)]) (st2 := [ov_i (-1)]) (pc2 := 18) b_93_17_1 rfl rfl ?_
      exact ov_reti (st := []) d_93_18 rfl ⟨_, rfl, rfl, rfl, trivial⟩
  · skip
    refine ov_getf (v := ov_r 70) d_93_1 fl_OF_78 (zb_0 I) (zs_0 I) (congrArg ov_r e1) ?_
    refine ov_blk (ls2 := [(0, ov_r 0), (1, ov_i x), (2, ov_i y), (3, ov_i w)]) (st2 := [ov_i y, ov_i x, ov_r 70]) (pc2 := 6) b_93_4_2 rfl rfl ?_
    refine ov_cV (as := [ov_i x, ov_i y]) (st := []) (d2 := d - 1) d_93_6 lk_OF_131 rfl (Nat.le_of_ble_eq_true rfl) (c := 9) (zb_70 I) (zs_70 I) ⟨by decide, rfl⟩ (by omega) (c_Town_corner_70 (d - 1) (by omega) U I x y (by omega) (by omega)) ?_
    rintro _ _ _ ⟨v26, rfl, rfl, rfl, f25⟩
    show ov_R u d ov_m93 9 [(0, ov_r 0), (1, ov_i x), (2, ov_i y), (3, ov_i w)] [ov_i v26] z h (P_OF_light_0 F z h x y w)
    have f27 : v26 = -1 ∨ (0 ≤ x ∧ x < (h 70 0) ∧ 0 ≤ y ∧ y < (h 70 1) ∧ v26 = y * 6 + x ∧ (h 70 0) ≤ 6 ∧ (h 70 1) ≤ 9) := f25
    clear f25
    refine ov_blk (ls2 := [(0, ov_r 0), (1, ov_i x), (2, ov_i y), (3, ov_i w), (4, ov_i v26)]) (st2 := [ov_i (-1), ov_i v26]) (pc2 := 14) b_93_9_3 rfl rfl ?_
    refine ov_icne (tgt := 19) d_93_14 (by decide) (by omega) (by omega) (fun c28 => ?_) (fun c28 => ?_)
    · skip
      refine ov_blk (ls2 := [(0, ov_r 0), (1, ov_i x), (2, ov_i y), (3, ov_i w), (4, ov_i v26)]) (st2 := [ov_i 5, ov_i w]) (pc2 := 21) b_93_19_2 rfl rfl ?_
      refine ov_icne (tgt := 35) d_93_21 (by decide) (by omega) (by omega) (fun c29 => ?_) (fun c29 => ?_)
      · skip
        refine ov_blk (ls2 := [(0, ov_r 0), (1, ov_i x), (2, ov_i y), (3, ov_i w), (4, ov_i v26)]) (st2 := [ov_r 0]) (pc2 := 36) b_93_35_1 rfl rfl ?_
        refine ov_getf (v := ov_r 70) d_93_36 fl_OF_78 (zb_0 I) (zs_0 I) (congrArg ov_r e1) ?_
        refine ov_getf (v := ov_r 71) d_93_39 fl_OF_139 (zb_70 I) (zs_70 I) (congrArg ov_r (rg_70_2 I)) ?_
        refine ov_blk (ls2 := [(0, ov_r 0), (1, ov_i x), (2, ov_i y), (3, ov_i w), (4, ov_i v26)]) (st2 := [ov_i v26, ov_r 71]) (pc2 := 44) b_93_42_1 rfl rfl ?_
        refine ov_iald d_93_44 (zb_71 I) (zs_71 I) (by omega) ?_
        have g30 := ra_71 I v26
        refine ov_blk (ls2 := [(0, ov_r 0), (1, ov_i x), (2, ov_i y), (3, ov_i w), (4, ov_i v26)]) (st2 := [ov_i (-1), ov_i (h 71 v26)]) (pc2 := 46) b_93_45_1 rfl rfl ?_
        refine ov_icne (tgt := 51) d_93_46 (by decide) (by omega) (by omega) (fun c31 => ?_) (fun c31 => ?_)
        · skip
          refine ov_blk (ls2 := [(0, ov_r 0), (1, ov_i x), (2, ov_i y), (3, ov_i w), (4, ov_i v26)]) (st2 := [ov_i w]) (pc2 := 52) b_93_51_1 rfl rfl ?_
          by_cases q32 : w = 0
          · refine ov_tin (off := 36) (tgt := 88) d_93_52 (by omega) (by omega) (by rw [q32]; rfl) (by decide) ?_
            refine ov_blk (ls2 := [(0, ov_r 0), (1, ov_i x), (2, ov_i y), (3, ov_i w), (4, ov_i v26)]) (st2 := [ov_r 0]) (pc2 := 89) b_93_88_1 rfl rfl ?_
            refine ov_getf (v := ov_r 70) d_93_89 fl_OF_78 (zb_0 I) (zs_0 I) (congrArg ov_r e1) ?_
            refine ov_getf (v := ov_r 71) d_93_92 fl_OF_139 (zb_70 I) (zs_70 I) (congrArg ov_r (rg_70_2 I)) ?_
            refine ov_blk (ls2 := [(0, ov_r 0), (1, ov_i x), (2, ov_i y), (3, ov_i w), (4, ov_i v26)]) (st2 := [ov_i v26, ov_r 71]) (pc2 := 97) b_93_95_1 rfl rfl ?_
            refine ov_iald d_93_97 (zb_71 I) (zs_71 I) (by omega) ?_
            exact ov_reti (st := []) d_93_98 rfl ⟨_, rfl, rfl, rfl, trivial⟩
          by_cases q34 : w = 1
          · refine ov_tin (off := 47) (tgt := 99) d_93_52 (by omega) (by omega) (by rw [q34]; rfl) (by decide) ?_
            refine ov_blk (ls2 := [(0, ov_r 0), (1, ov_i x), (2, ov_i y), (3, ov_i w), (4, ov_i v26)]) (st2 := [ov_r 0]) (pc2 := 100) b_93_99_1 rfl rfl ?_
            refine ov_getf (v := ov_r 70) d_93_100 fl_OF_78 (zb_0 I) (zs_0 I) (congrArg ov_r e1) ?_
            refine ov_getf (v := ov_r 72) d_93_103 fl_OF_142 (zb_70 I) (zs_70 I) (congrArg ov_r (rg_70_3 I)) ?_
            refine ov_blk (ls2 := [(0, ov_r 0), (1, ov_i x), (2, ov_i y), (3, ov_i w), (4, ov_i v26)]) (st2 := [ov_i v26, ov_r 72]) (pc2 := 108) b_93_106_1 rfl rfl ?_
            refine ov_iald d_93_108 (zb_72 I) (zs_72 I) (by omega) ?_
            have g35 := ra_72 I v26
            exact ov_reti (st := []) d_93_109 rfl ⟨_, rfl, rfl, rfl, trivial⟩
          by_cases q36 : w = 2
          · refine ov_tin (off := 58) (tgt := 110) d_93_52 (by omega) (by omega) (by rw [q36]; rfl) (by decide) ?_
            refine ov_blk (ls2 := [(0, ov_r 0), (1, ov_i x), (2, ov_i y), (3, ov_i w), (4, ov_i v26)]) (st2 := [ov_r 0]) (pc2 := 111) b_93_110_1 rfl rfl ?_
            refine ov_getf (v := ov_r 70) d_93_111 fl_OF_78 (zb_0 I) (zs_0 I) (congrArg ov_r e1) ?_
            refine ov_getf (v := ov_r 73) d_93_114 fl_OF_145 (zb_70 I) (zs_70 I) (congrArg ov_r (rg_70_4 I)) ?_
            refine ov_blk (ls2 := [(0, ov_r 0), (1, ov_i x), (2, ov_i y), (3, ov_i w), (4, ov_i v26)]) (st2 := [ov_i v26, ov_r 73]) (pc2 := 119) b_93_117_1 rfl rfl ?_
            refine ov_iald d_93_119 (zb_73 I) (zs_73 I) (by omega) ?_
            have g37 := ra_73 I v26
            exact ov_reti (st := []) d_93_120 rfl ⟨_, rfl, rfl, rfl, trivial⟩
          by_cases q38 : w = 3
          · refine ov_tin (off := 69) (tgt := 121) d_93_52 (by omega) (by omega) (by rw [q38]; rfl) (by decide) ?_
            refine ov_blk (ls2 := [(0, ov_r 0), (1, ov_i x), (2, ov_i y), (3, ov_i w), (4, ov_i v26)]) (st2 := [ov_r 0]) (pc2 := 122) b_93_121_1 rfl rfl ?_
            refine ov_getf (v := ov_r 70) d_93_122 fl_OF_78 (zb_0 I) (zs_0 I) (congrArg ov_r e1) ?_
            refine ov_getf (v := ov_r 74) d_93_125 fl_OF_148 (zb_70 I) (zs_70 I) (congrArg ov_r (rg_70_5 I)) ?_
            refine ov_blk (ls2 := [(0, ov_r 0), (1, ov_i x), (2, ov_i y), (3, ov_i w), (4, ov_i v26)]) (st2 := [ov_i v26, ov_r 74]) (pc2 := 130) b_93_128_1 rfl rfl ?_
            refine ov_iald d_93_130 (zb_74 I) (zs_74 I) (by omega) ?_
            have g39 := ra_74 I v26
            exact ov_reti (st := []) d_93_131 rfl ⟨_, rfl, rfl, rfl, trivial⟩
          by_cases q40 : w = 4
          · refine ov_tin (off := 80) (tgt := 132) d_93_52 (by omega) (by omega) (by rw [q40]; rfl) (by decide) ?_
            refine ov_blk (ls2 := [(0, ov_r 0), (1, ov_i x), (2, ov_i y), (3, ov_i w), (4, ov_i v26)]) (st2 := [ov_r 0]) (pc2 := 133) b_93_132_1 rfl rfl ?_
            refine ov_getf (v := ov_r 70) d_93_133 fl_OF_78 (zb_0 I) (zs_0 I) (congrArg ov_r e1) ?_
            refine ov_getf (v := ov_r 71) d_93_136 fl_OF_139 (zb_70 I) (zs_70 I) (congrArg ov_r (rg_70_2 I)) ?_
            refine ov_blk (ls2 := [(0, ov_r 0), (1, ov_i x), (2, ov_i y), (3, ov_i w), (4, ov_i v26)]) (st2 := [ov_i v26, ov_r 71]) (pc2 := 141) b_93_139_1 rfl rfl ?_
            refine ov_iald d_93_141 (zb_71 I) (zs_71 I) (by omega) ?_
            refine ov_blk (ls2 := [(0, ov_r 0), (1, ov_i x), (2, ov_i y), (3, ov_i w), (4, ov_i v26)]) (st2 := [ov_i 1, ov_i (h 71 v26)]) (pc2 := 143) b_93_142_1 rfl rfl ?_
            refine ov_icne (tgt := 162) d_93_143 (by decide) (by omega) (by omega) (fun c42 => ?_) (fun c42 => ?_)
            · skip
              refine ov_blk (ls2 := [(0, ov_r 0), (1, ov_i x), (2, ov_i y), (3, ov_i w), (4, ov_i v26)]) (st2 := [ov_i 0]) (pc2 := 163) b_93_162_1 rfl rfl ?_
              exact ov_reti (st := []) d_93_163 rfl ⟨_, rfl, rfl, rfl, trivial⟩
            · skip
              refine ov_blk (ls2 := [(0, ov_r 0), (1, ov_i x), (2, ov_i y), (3, ov_i w), (4, ov_i v26)]) (st2 := [ov_r 0]) (pc2 := 147) b_93_146_1 rfl rfl ?_
              refine ov_getf (v := ov_r 4) d_93_147 fl_OF_28 (zb_0 I) (zs_0 I) (congrArg ov_r (rg_0_2 I)) ?_
              refine ov_blk (ls2 := [(0, ov_r 0), (1, ov_i x), (2, ov_i y), (3, ov_i w), (4, ov_i v26)]) (st2 := [ov_i v26, ov_r 4]) (pc2 := 152) b_93_150_1 rfl rfl ?_
              refine ov_cV (as := [ov_i v26]) (st := []) (d2 := d - 1) d_93_152 lk_OF_151 rfl (Nat.le_of_ble_eq_true rfl) (c := 7) (zb_4 I) (zs_4 I) ⟨by decide, rfl⟩ (by omega) (c_State_knows_4 (d - 1) (by omega) U I v26 (by omega)) ?_
              rintro _ _ _ ⟨v44, rfl, rfl, rfl, f43⟩
              show ov_R u d ov_m93 155 [(0, ov_r 0), (1, ov_i x), (2, ov_i y), (3, ov_i w), (4, ov_i v26)] [ov_i v44] z h (P_OF_light_0 F z h x y w)
              have f45 : (v44 = 0 ∨ v44 = 1) := f43
              clear f43
              refine ov_ifeq (tgt := 162) d_93_155 (by decide) (by omega) (fun c46 => ?_) (fun c46 => ?_)
              · skip
                refine ov_blk (ls2 := [(0, ov_r 0), (1, ov_i x), (2, ov_i y), (3, ov_i w), (4, ov_i v26)]) (st2 := [ov_i 0]) (pc2 := 163) b_93_162_1 rfl rfl ?_
                exact ov_reti (st := []) d_93_163 rfl ⟨_, rfl, rfl, rfl, trivial⟩
              · skip
                refine ov_blk (ls2 := [(0, ov_r 0), (1, ov_i x), (2, ov_i y), (3, ov_i w), (4, ov_i v26)]) (st2 := [ov_i 1]) (pc2 := 159) b_93_158_1 rfl rfl ?_
                refine ov_goto (tgt := 163) d_93_159 (by decide) ?_
                exact ov_reti (st := []) d_93_163 rfl ⟨_, rfl, rfl, rfl, trivial⟩
          refine ov_tout (tgt := 164) d_93_52 (by omega) (by omega) (by decide) ?_
          refine ov_blk (ls2 := [(0, ov_r 0), (1, ov_i x), (2, ov_i y), (3, ov_i w), (4, ov_i v26)]) (st2 := [ov_i (-1)]) (pc2 := 165) b_93_164_1 rfl rfl ?_
          exact ov_reti (st := []) d_93_165 rfl ⟨_, rfl, rfl, rfl, trivial⟩
        · skip
          refine ov_blk (ls2 := [(0, ov_r 0), (1, ov_i x), (2, ov_i y), (3, ov_i w), (4, ov_i v26)]) (st2 := [ov_i (-1)]) (pc2 := 50) b_93_49_1 rfl rfl ?_
          exact ov_reti (st := []) d_93_50 rfl ⟨_, rfl, rfl, rfl, trivial⟩
      · skip
        refine ov_blk (ls2 := [(0, ov_r 0), (1, ov_i x), (2, ov_i y), (3, ov_i w), (4, ov_i v26)]) (st2 := [ov_r 0]) (pc2 := 25) b_93_24_1 rfl rfl ?_
        refine ov_getf (v := ov_r 70) d_93_25 fl_OF_78 (zb_0 I) (zs_0 I) (congrArg ov_r e1) ?_
        refine ov_getf (v := ov_r 75) d_93_28 fl_OF_135 (zb_70 I) (zs_70 I) (congrArg ov_r (rg_70_6 I)) ?_
        refine ov_blk (ls2 := [(0, ov_r 0), (1, ov_i x), (2, ov_i y), (3, ov_i w), (4, ov_i v26)]) (st2 := [ov_i v26, ov_r 75]) (pc2 := 33) b_93_31_1 rfl rfl ?_
        refine ov_iald d_93_33 (zb_75 I) (zs_75 I) (by omega) ?_
        have g47 := ra_75 I v26
        exact ov_reti (st := []) d_93_34 rfl ⟨_, rfl, rfl, rfl, trivial⟩
    · skip
      refine ov_blk (ls2 := [(0, ov_r 0), (1, ov_i x), (2, ov_i y), (3, ov_i w), (4, ov_i v26)]) (st2 := [ov_i (-1)]) (pc2 := 18) b_93_17_1 rfl rfl ?_
      exact ov_reti (st := []) d_93_18 rfl ⟨_, rfl, rfl, rfl, trivial⟩

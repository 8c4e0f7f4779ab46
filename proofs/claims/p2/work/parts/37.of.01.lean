abbrev P_History_keep_9_4_b (F : ov_H) (z : ov_Z) (h : ov_H)  : Option ov_V → ov_Z → ov_H → Prop := fun r0 z' h' => r0 = none ∧ ov_I F z' h' ∧ ((h' 4 0) = (h 4 0) ∧ (h' 36 7) = (h 36 7) ∧ (h' 1 1) = (h 1 1) ∧ (h' 90 2) = (h 90 2) ∧ (h' 0 10) = (h 0 10) ∧ (h' 0 11) = (h 0 11) ∧ (h' 0 12) = (h 0 12) ∧ (h' 0 13) = (h 0 13) ∧ (h' 3 1) = (h 3 1) ∧ (h' 36 8) = (h 36 8) ∧ (h' 46 3) = (h 46 3) ∧ (h' 46 4) = (h 46 4) ∧ (h' 49 4) = (h 49 4) ∧ (h' 49 5) = (h 49 5) ∧ (h' 64 0) = (h 64 0) ∧ (h' 76 0) = (h 76 0))
set_option maxHeartbeats 4000000 in
theorem c_History_keep_9_4_b {u : ov_U} {F : ov_H} {z : ov_Z} {h : ov_H} (d : Nat) (hd : 1 ≤ d) (U : ov_cap u) (I : ov_I F z h) : ov_T u d ov_m104 [ov_r 9, ov_r 4] z h (P_History_keep_9_4_b F z h) := by
  refine ov_en rfl (Nat.le_of_ble_eq_true rfl) ?_
  show ov_R u d ov_m104 0 [(0, ov_r 9), (1, ov_r 4)] [] z h (P_History_keep_9_4_b F z h)
  refine ov_blk (ls2 := [(0, ov_r 9), (1, ov_r 4)]) (st2 := [ov_r 9]) (pc2 := 1) b_104_0_1 rfl rfl ?_
  refine ov_getf (v := ov_r 10) d_104_1 fl_History_9 (zb_9 I) (zs_9 I) (congrArg ov_r (rg_9_2 I)) ?_
  refine ov_blk (ls2 := [(0, ov_r 9), (1, ov_r 4)]) (st2 := [ov_r 9, ov_r 10]) (pc2 := 5) b_104_4_1 rfl rfl ?_
  refine ov_getf (v := ov_i (h 9 1)) d_104_5 fl_History_27 (zb_9 I) (zs_9 I) rfl ?_
  have g1 := rg_9_1 I
  refine ov_blk (ls2 := [(0, ov_r 9), (1, ov_r 4)]) (st2 := [ov_r 4, ov_i (h 9 1), ov_r 10]) (pc2 := 9) b_104_8_1 rfl rfl ?_
  refine ov_getf (v := ov_i (h 4 0)) d_104_9 fl_History_30 (zb_4 I) (zs_4 I) rfl ?_
  have g2 := rg_4_0 I
  refine ov_iast d_104_12 (zb_10 I) (zs_10 I) (by omega) ?_
  have I3 := ua_10 (k := (h 9 1)) (x := (h 4 0)) I (by omega)
  refine ov_blk (ls2 := [(0, ov_r 9), (1, ov_r 4)]) (st2 := [ov_r 9]) (pc2 := 14) b_104_13_1 rfl rfl ?_
  refine ov_getf (v := ov_r 11) d_104_14 fl_History_13 (zb_9 I3) (zs_9 I3) (congrArg ov_r (rg_9_3 I3)) ?_
  refine ov_blk (ls2 := [(0, ov_r 9), (1, ov_r 4)]) (st2 := [ov_r 9, ov_r 11]) (pc2 := 18) b_104_17_1 rfl rfl ?_
  refine ov_getf (v := ov_i (h 9 1)) d_104_18 fl_History_27 (zb_9 I3) (zs_9 I3) rfl ?_
  refine ov_blk (ls2 := [(0, ov_r 9), (1, ov_r 4)]) (st2 := [ov_r 4, ov_i (h 9 1), ov_r 11]) (pc2 := 22) b_104_21_1 rfl rfl ?_
  refine ov_getf (v := ov_i (h 4 1)) d_104_22 fl_History_35 (zb_4 I3) (zs_4 I3) rfl ?_
  have g5 := rg_4_1 I
  refine ov_iast d_104_25 (zb_11 I3) (zs_11 I3) (by omega) ?_
  have I6 := ua_11 (k := (h 9 1)) (x := (h 4 1)) I3 (by omega)
  refine ov_blk (ls2 := [(0, ov_r 9), (1, ov_r 4)]) (st2 := [ov_r 9]) (pc2 := 27) b_104_26_1 rfl rfl ?_
  refine ov_getf (v := ov_r 12) d_104_27 fl_History_16 (zb_9 I6) (zs_9 I6) (congrArg ov_r (rg_9_4 I6)) ?_
  refine ov_blk (ls2 := [(0, ov_r 9), (1, ov_r 4)]) (st2 := [ov_r 9, ov_r 12]) (pc2 := 31) b_104_30_1 rfl rfl ?_
  refine ov_getf (v := ov_i (h 9 1)) d_104_31 fl_History_27 (zb_9 I6) (zs_9 I6) rfl ?_
  refine ov_blk (ls2 := [(0, ov_r 9), (1, ov_r 4)]) (st2 := [ov_r 4, ov_i (h 9 1), ov_r 12]) (pc2 := 35) b_104_34_1 rfl rfl ?_
  refine ov_getf (v := ov_i (h 4 2)) d_104_35 fl_History_38 (zb_4 I6) (zs_4 I6) rfl ?_
  have g8 := rg_4_2 I
  refine ov_iast d_104_38 (zb_12 I6) (zs_12 I6) (by omega) ?_
  have I9 := ua_12 (k := (h 9 1)) (x := (h 4 2)) I6 (by omega)
  refine ov_blk (ls2 := [(0, ov_r 9), (1, ov_r 4)]) (st2 := [ov_r 9]) (pc2 := 40) b_104_39_1 rfl rfl ?_
  refine ov_getf (v := ov_r 13) d_104_40 fl_History_19 (zb_9 I9) (zs_9 I9) (congrArg ov_r (rg_9_5 I9)) ?_
  refine ov_blk (ls2 := [(0, ov_r 9), (1, ov_r 4)]) (st2 := [ov_r 9, ov_r 13]) (pc2 := 44) b_104_43_1 rfl rfl ?_
  refine ov_getf (v := ov_i (h 9 1)) d_104_44 fl_History_27 (zb_9 I9) (zs_9 I9) rfl ?_
  refine ov_blk (ls2 := [(0, ov_r 9), (1, ov_r 4)]) (st2 := [ov_r 4, ov_i (h 9 1), ov_r 13]) (pc2 := 48) b_104_47_1 rfl rfl ?_
  refine ov_getf (v := ov_l (h 4 3)) d_104_48 fl_History_40 (zb_4 I9) (zs_4 I9) rfl ?_
  refine ov_last d_104_51 (zb_13 I9) (zs_13 I9) (by omega) ?_
  have I11 := ua_13 (k := (h 9 1)) (x := (h 4 3)) I9
  refine ov_blk (ls2 := [(0, ov_r 9), (1, ov_r 4)]) (st2 := [ov_r 9, ov_r 9]) (pc2 := 54) b_104_52_2 rfl rfl ?_
  refine ov_getf (v := ov_i (h 9 1)) d_104_54 fl_History_27 (zb_9 I11) (zs_9 I11) rfl ?_
  refine ov_blk (ls2 := [(0, ov_r 9), (1, ov_r 4)]) (st2 := [ov_i 16, ov_i ((h 9 1) + 1), ov_r 9]) (pc2 := 61) b_104_57_3 rfl rfl ?_
  refine ov_irem d_104_61 (by omega) (by omega) (by omega) ?_
  have g13 := ov_tm (a := ((h 9 1) + 1)) (b := 16) (by omega)
  have g14 := ov_tmg (a := ((h 9 1) + 1)) (b := 16) (by omega) (by omega)
  refine ov_putf (x := (Int.tmod ((h 9 1) + 1) 16)) d_104_62 fl_History_27 (zb_9 I11) (zs_9 I11) rfl nk_0 rfl ?_
  have I15 := up_9_1 (x := (Int.tmod ((h 9 1) + 1) 16)) I11 (by omega)
  refine ov_blk (ls2 := [(0, ov_r 9), (1, ov_r 4)]) (st2 := [ov_r 9, ov_r 9]) (pc2 := 67) b_104_65_2 rfl rfl ?_
  refine ov_getf (v := ov_i (h 9 0)) d_104_67 fl_History_23 (zb_9 I15) (zs_9 I15) rfl ?_
  have g16 := rg_9_0 I
  refine ov_blk (ls2 := [(0, ov_r 9), (1, ov_r 4)]) (st2 := [ov_i 16, ov_i ((h 9 0) + 1), ov_r 9]) (pc2 := 74) b_104_70_3 rfl rfl ?_
  refine ov_cS (as := [ov_i ((h 9 0) + 1), ov_i 16]) (st := [ov_r 9]) (d2 := d - 1) d_104_74 lk_History_44 rfl (Nat.le_of_ble_eq_true rfl) (by omega) (c_Math_min (d - 1) (by omega) U I15 ((h 9 0) + 1) 16 (by omega) (by omega)) ?_
  rintro _ _ _ ⟨v18, rfl, rfl, rfl, f17⟩
  show ov_R u d ov_m104 77 [(0, ov_r 9), (1, ov_r 4)] [ov_i v18, ov_r 9] z (ov_up (ov_up (ov_up (ov_up (ov_up h 10 (h 9 1) (h 4 0)) 11 (h 9 1) (h 4 1)) 12 (h 9 1) (h 4 2)) 13 (h 9 1) (h 4 3)) 9 1 (Int.tmod ((h 9 1) + 1) 16)) (P_History_keep_9_4_b F z h)
  have f19 : v18 ≤ ((h 9 0) + 1) ∧ v18 ≤ (16 : Int) ∧ (v18 = ((h 9 0) + 1) ∨ v18 = (16 : Int)) := f17
  clear f17
  refine ov_putf (x := v18) d_104_77 fl_History_23 (zb_9 I15) (zs_9 I15) rfl nk_0 rfl ?_
  have I20 := up_9_0 (x := v18) I15 (by omega)
  exact ov_retv (st := []) d_104_80 rfl ⟨rfl, I20, (by show (h 4 0) = (h 4 0) ∧ (h 36 7) = (h 36 7) ∧ (h 1 1) = (h 1 1) ∧ (h 90 2) = (h 90 2) ∧ (h 0 10) = (h 0 10) ∧ (h 0 11) = (h 0 11) ∧ (h 0 12) = (h 0 12) ∧ (h 0 13) = (h 0 13) ∧ (h 3 1) = (h 3 1) ∧ (h 36 8) = (h 36 8) ∧ (h 46 3) = (h 46 3) ∧ (h 46 4) = (h 46 4) ∧ (h 49 4) = (h 49 4) ∧ (h 49 5) = (h 49 5) ∧ (h 64 0) = (h 64 0) ∧ (h 76 0) = (h 76 0); omega)⟩
abbrev P_OF_isGoer_0 (F : ov_H) (z : ov_Z) (h : ov_H) (g : Int) : Option ov_V → ov_Z → ov_H → Prop := fun r0 z' h' => ∃ r : Int, r0 = some (ov_i r) ∧ z = z' ∧ h = h' ∧ ((r = 0 ∨ r = 1) ∧ (r = 1 → 0 ≤ g ∧ g ≤ 7))
set_option maxHeartbeats 4000000 in
theorem c_OF_isGoer_0 {u : ov_U} {F : ov_H} {z : ov_Z} {h : ov_H} (d : Nat) (hd : 0 ≤ d) (U : ov_cap u) (I : ov_I F z h) (g : Int) (g_g : ov_g g) : ov_T u d ov_m122 [ov_r 0, ov_i g] z h (P_OF_isGoer_0 F z h g) := by
  refine ov_en rfl (Nat.le_of_ble_eq_true rfl) ?_
  show ov_R u d ov_m122 0 [(0, ov_r 0), (1, ov_i g)] [] z h (P_OF_isGoer_0 F z h g)
  refine ov_blk (ls2 := [(0, ov_r 0), (1, ov_i g)]) (st2 := [ov_i g]) (pc2 := 1) b_122_0_1 rfl rfl ?_
  refine ov_iflt (tgt := 21) d_122_1 (by decide) (by omega) (fun c1 => ?_) (fun c1 => ?_)
  · skip
    refine ov_blk (ls2 := [(0, ov_r 0), (1, ov_i g)]) (st2 := [ov_i 0]) (pc2 := 22) b_122_21_1 rfl rfl ?_
    exact ov_retz (st := []) d_122_22 rfl (by omega) ⟨_, rfl, rfl, rfl, (by show (0 = 0 ∨ 0 = 1) ∧ (0 = 1 → 0 ≤ g ∧ g ≤ 7); omega)⟩
  · skip
    refine ov_blk (ls2 := [(0, ov_r 0), (1, ov_i g)]) (st2 := [ov_r 0, ov_i 4, ov_i g]) (pc2 := 7) b_122_4_3 rfl rfl ?_
    rcases rg_0_10 I with e2 | e2
    · skip
      refine ov_getf (v := ov_r 58) d_122_7 fl_OF_78 (zb_0 I) (zs_0 I) (congrArg ov_r e2) ?_
      refine ov_getf (v := ov_i (h 58 11)) d_122_10 fl_OF_292 (zb_58 I) (zs_58 I) rfl ?_
      have g3 := rg_58_11 I
      refine ov_blk (ls2 := [(0, ov_r 0), (1, ov_i g)]) (st2 := [ov_i (4 + (h 58 11)), ov_i g]) (pc2 := 14) b_122_13_1 rfl rfl ?_
      refine ov_icge (tgt := 21) d_122_14 (by decide) (by omega) (by omega) (fun c4 => ?_) (fun c4 => ?_)
      · skip
        refine ov_blk (ls2 := [(0, ov_r 0), (1, ov_i g)]) (st2 := [ov_i 0]) (pc2 := 22) b_122_21_1 rfl rfl ?_
        exact ov_retz (st := []) d_122_22 rfl (by omega) ⟨_, rfl, rfl, rfl, (by show (0 = 0 ∨ 0 = 1) ∧ (0 = 1 → 0 ≤ g ∧ g ≤ 7); omega)⟩
      · skip
        refine ov_blk (ls2 := [(0, ov_r 0), (1, ov_i g)]) (st2 := [ov_i 1]) (pc2 := 18) b_122_17_1 rfl rfl ?_
        refine ov_goto (tgt := 22) d_122_18 (by decide) ?_
        exact ov_retz (st := []) d_122_22 rfl (by omega) ⟨_, rfl, rfl, rfl, (by show (1 = 0 ∨ 1 = 1) ∧ (1 = 1 → 0 ≤ g ∧ g ≤ 7); omega)⟩
    · skip
      refine ov_getf (v := ov_r 70) d_122_7 fl_OF_78 (zb_0 I) (zs_0 I) (congrArg ov_r e2) ?_
      refine ov_getf (v := ov_i (h 70 11)) d_122_10 fl_OF_292 (zb_70 I) (zs_70 I) rfl ?_
      have g5 := rg_70_11 I
      refine ov_blk (ls2 := [(0, ov_r 0), (1, ov_i g)]) (st2 := [ov_i (4 + (h 70 11)), ov_i g]) (pc2 := 14) b_122_13_1 rfl rfl ?_
      refine ov_icge (tgt := 21) d_122_14 (by decide) (by omega) (by omega) (fun c6 => ?_) (fun c6 => ?_)
      · skip
        refine ov_blk (ls2 := [(0, ov_r 0), (1, ov_i g)]) (st2 := [ov_i 0]) (pc2 := 22) b_122_21_1 rfl rfl ?_
        exact ov_retz (st := []) d_122_22 rfl (by omega) ⟨_, rfl, rfl, rfl, (by show (0 = 0 ∨ 0 = 1) ∧ (0 = 1 → 0 ≤ g ∧ g ≤ 7); omega)⟩
      · skip
        refine ov_blk (ls2 := [(0, ov_r 0), (1, ov_i g)]) (st2 := [ov_i 1]) (pc2 := 18) b_122_17_1 rfl rfl ?_
        refine ov_goto (tgt := 22) d_122_18 (by decide) ?_
        exact ov_retz (st := []) d_122_22 rfl (by omega) ⟨_, rfl, rfl, rfl, (by show (1 = 0 ∨ 1 = 1) ∧ (1 = 1 → 0 ≤ g ∧ g ≤ 7); omega)⟩
abbrev P_OF_runsLeft_0 (F : ov_H) (z : ov_Z) (h : ov_H)  : Option ov_V → ov_Z → ov_H → Prop := fun r0 z' h' => ∃ r : Int, r0 = some (ov_i r) ∧ z = z' ∧ h = h' ∧ (-2147483648 ≤ r ∧ r ≤ 2147483647)
set_option maxHeartbeats 4000000 in
theorem c_OF_runsLeft_0 {u : ov_U} {F : ov_H} {z : ov_Z} {h : ov_H} (d : Nat) (hd : 0 ≤ d) (U : ov_cap u) (I : ov_I F z h) : ov_T u d ov_m103 [ov_r 0] z h (P_OF_runsLeft_0 F z h) := by
  refine ov_en rfl (Nat.le_of_ble_eq_true rfl) ?_
  show ov_R u d ov_m103 0 [(0, ov_r 0)] [] z h (P_OF_runsLeft_0 F z h)
  refine ov_blk (ls2 := [(0, ov_r 0)]) (st2 := [ov_r 0]) (pc2 := 1) b_103_0_1 rfl rfl ?_
  rcases rg_0_10 I with e1 | e1
  · skip
    refine ov_getf (v := ov_r 58) d_103_1 fl_OF_78 (zb_0 I) (zs_0 I) (congrArg ov_r e1) ?_
    refine ov_getf (v := ov_i (h 58 8)) d_103_4 fl_OF_188 (zb_58 I) (zs_58 I) rfl ?_
    have g2 := rg_58_8 I
    refine ov_ifeq (tgt := 14) d_103_7 (by decide) (by omega) (fun c3 => ?_) (fun c3 => ?_)
    · skip
      refine ov_blk (ls2 := [(0, ov_r 0)]) (st2 := [ov_r 0]) (pc2 := 15) b_103_14_1 rfl rfl ?_
      refine ov_getf (v := ov_r 58) d_103_15 fl_OF_78 (zb_0 I) (zs_0 I) (congrArg ov_r e1) ?_
      refine ov_getf (v := ov_r 64) d_103_18 fl_OF_176 (zb_58 I) (zs_58 I) (congrArg ov_r (rg_58_7 I)) ?_
      refine ov_blk (ls2 := [(0, ov_r 0)]) (st2 := [ov_i 3, ov_r 64]) (pc2 := 22) b_103_21_1 rfl rfl ?_
      refine ov_iald d_103_22 (zb_64 I) (zs_64 I) (by omega) ?_
      have g4 := ra_64 I 3
      refine ov_blk (ls2 := [(0, ov_r 0)]) (st2 := [ov_r 0, ov_i (h 64 3)]) (pc2 := 24) b_103_23_1 rfl rfl ?_
      refine ov_getf (v := ov_r 4) d_103_24 fl_OF_28 (zb_0 I) (zs_0 I) (congrArg ov_r (rg_0_2 I)) ?_
      refine ov_getf (v := ov_i (h 4 2)) d_103_27 fl_OF_185 (zb_4 I) (zs_4 I) rfl ?_
      have g5 := rg_4_2 I
      refine ov_blk (ls2 := [(0, ov_r 0)]) (st2 := [ov_i ((h 64 3) - (h 4 2))]) (pc2 := 31) b_103_30_1 rfl rfl ?_
      refine ov_havw (fun w6 gw6 qw6 => ?_)
      exact ov_reti (st := []) d_103_31 rfl ⟨_, rfl, rfl, rfl, (by show -2147483648 ≤ w6 ∧ w6 ≤ 2147483647; omega)⟩
    · skip
      refine ov_blk (ls2 := [(0, ov_r 0)]) (st2 := [ov_i 0]) (pc2 := 11) b_103_10_1 rfl rfl ?_
      refine ov_goto (tgt := 31) d_103_11 (by decide) ?_
      exact ov_reti (st := []) d_103_31 rfl ⟨_, rfl, rfl, rfl, (by show -2147483648 ≤ 0 ∧ 0 ≤ 2147483647; omega)⟩
  · skip
    refine ov_getf (v := ov_r 70) d_103_1 fl_OF_78 (zb_0 I) (zs_0 I) (congrArg ov_r e1) ?_
    refine ov_getf (v := ov_i (h 70 8)) d_103_4 fl_OF_188 (zb_70 I) (zs_70 I) rfl ?_
    have g7 := rg_70_8 I
    refine ov_ifeq (tgt := 14) d_103_7 (by decide) (by omega) (fun c8 => ?_) (fun c8 => ?_)
    · skip
      refine ov_blk (ls2 := [(0, ov_r 0)]) (st2 := [ov_r 0]) (pc2 := 15) b_103_14_1 rfl rfl ?_
      refine ov_getf (v := ov_r 70) d_103_15 fl_OF_78 (zb_0 I) (zs_0 I) (congrArg ov_r e1) ?_
      refine ov_getf (v := ov_r 76) d_103_18 fl_OF_176 (zb_70 I) (zs_70 I) (congrArg ov_r (rg_70_7 I)) ?_
      refine ov_blk (ls2 := [(0, ov_r 0)]) (st2 := [ov_i 3, ov_r 76]) (pc2 := 22) b_103_21_1 rfl rfl ?_
      refine ov_iald d_103_22 (zb_76 I) (zs_76 I) (by omega) ?_
      have g9 := ra_76 I 3
      refine ov_blk (ls2 := [(0, ov_r 0)]) (st2 := [ov_r 0, ov_i (h 76 3)]) (pc2 := 24) b_103_23_1 rfl rfl ?_
      refine ov_getf (v := ov_r 4) d_103_24 fl_OF_28 (zb_0 I) (zs_0 I) (congrArg ov_r (rg_0_2 I)) ?_
      refine ov_getf (v := ov_i (h 4 2)) d_103_27 fl_OF_185 (zb_4 I) (zs_4 I) rfl ?_
      have g10 := rg_4_2 I
      refine ov_blk (ls2 := [(0, ov_r 0)]) (st2 := [ov_i ((h 76 3) - (h 4 2))]) (pc2 := 31) b_103_30_1 rfl rfl ?_
      refine ov_havw (fun w11 gw11 qw11 => ?_)
      exact ov_reti (st := []) d_103_31 rfl ⟨_, rfl, rfl, rfl, (by show -2147483648 ≤ w11 ∧ w11 ≤ 2147483647; omega)⟩
    · skip
      refine ov_blk (ls2 := [(0, ov_r 0)]) (st2 := [ov_i 0]) (pc2 := 11) b_103_10_1 rfl rfl ?_
      refine ov_goto (tgt := 31) d_103_11 (by decide) ?_
      exact ov_reti (st := []) d_103_31 rfl ⟨_, rfl, rfl, rfl, (by show -2147483648 ≤ 0 ∧ 0 ≤ 2147483647; omega)⟩
abbrev P_OF_hiddenLeft_0 (F : ov_H) (z : ov_Z) (h : ov_H)  : Option ov_V → ov_Z → ov_H → Prop := fun r0 z' h' => ∃ r : Int, r0 = some (ov_i r) ∧ z = z' ∧ h = h' ∧ (-2147483648 ≤ r ∧ r ≤ 2147483647)
set_option maxHeartbeats 4000000 in
theorem c_OF_hiddenLeft_0 {u : ov_U} {F : ov_H} {z : ov_Z} {h : ov_H} (d : Nat) (hd : 1 ≤ d) (U : ov_cap u) (I : ov_I F z h) : ov_T u d ov_m199 [ov_r 0] z h (P_OF_hiddenLeft_0 F z h) := by
  refine ov_en rfl (Nat.le_of_ble_eq_true rfl) ?_
  show ov_R u d ov_m199 0 [(0, ov_r 0)] [] z h (P_OF_hiddenLeft_0 F z h)
  refine ov_blk (ls2 := [(0, ov_r 0), (1, ov_i 0), (2, ov_i 0)]) (st2 := []) (pc2 := 4) b_199_0_4 rfl rfl ?_
  have L4 : ∀ (n1 : Nat) (x1 : Int) (x2 : Int) (q3 : 0 ≤ x1 ∧ x1 ≤ x2 ∧ 0 ≤ x2 ∧ x2 ≤ 54), 54 - x2 < (n1 : Int) → ov_R u d ov_m199 4 [(0, ov_r 0), (1, ov_i x1), (2, ov_i x2)] [] z h (P_OF_hiddenLeft_0 F z h) := by
    intro n1
    induction n1 with
    | zero =>
      intro x1 x2 q3 hn5
      exact absurd hn5 (by omega)
    | succ n1 ih2 =>
      intro x1 x2 q3 hn5
      refine ov_blk (ls2 := [(0, ov_r 0), (1, ov_i x1), (2, ov_i x2)]) (st2 := [ov_i 54, ov_i x2]) (pc2 := 7) b_199_4_2 rfl rfl ?_
      refine ov_icge (tgt := 43) d_199_7 (by decide) (by omega) (by omega) (fun c6 => ?_) (fun c6 => ?_)
      · skip
        refine ov_blk (ls2 := [(0, ov_r 0), (1, ov_i x1), (2, ov_i x2)]) (st2 := [ov_i x1]) (pc2 := 44) b_199_43_1 rfl rfl ?_
        exact ov_reti (st := []) d_199_44 rfl ⟨_, rfl, rfl, rfl, (by show -2147483648 ≤ x1 ∧ x1 ≤ 2147483647; omega)⟩
      · skip
        refine ov_blk (ls2 := [(0, ov_r 0), (1, ov_i x1), (2, ov_i x2)]) (st2 := [ov_r 0]) (pc2 := 11) b_199_10_1 rfl rfl ?_
        rcases rg_0_10 I with e7 | e7
        · skip
          refine ov_getf (v := ov_r 58) d_199_11 fl_OF_78 (zb_0 I) (zs_0 I) (congrArg ov_r e7) ?_
          refine ov_getf (v := ov_r 59) d_199_14 fl_OF_139 (zb_58 I) (zs_58 I) (congrArg ov_r (rg_58_2 I)) ?_
          refine ov_blk (ls2 := [(0, ov_r 0), (1, ov_i x1), (2, ov_i x2)]) (st2 := [ov_i x2, ov_r 59]) (pc2 := 18) b_199_17_1 rfl rfl ?_
          refine ov_iald d_199_18 (zb_59 I) (zs_59 I) (by omega) ?_
          have g8 := ra_59 I x2
          refine ov_blk (ls2 := [(0, ov_r 0), (1, ov_i x1), (2, ov_i x2)]) (st2 := [ov_i 1, ov_i (h 59 x2)]) (pc2 := 20) b_199_19_1 rfl rfl ?_
          refine ov_icne (tgt := 37) d_199_20 (by decide) (by omega) (by omega) (fun c9 => ?_) (fun c9 => ?_)
          · skip
            refine ov_blk (ls2 := [(0, ov_r 0), (1, ov_i x1), (2, ov_i (x2 + 1))]) (st2 := []) (pc2 := 40) b_199_37_1 rfl rfl ?_
            refine ov_goto (tgt := 4) d_199_40 (by decide) ?_
            exact ih2 x1 (x2 + 1) (by show 0 ≤ x1 ∧ x1 ≤ (x2 + 1) ∧ 0 ≤ (x2 + 1) ∧ (x2 + 1) ≤ 54; omega) (by omega)
          · skip
            refine ov_blk (ls2 := [(0, ov_r 0), (1, ov_i x1), (2, ov_i x2)]) (st2 := [ov_r 0]) (pc2 := 24) b_199_23_1 rfl rfl ?_
            refine ov_getf (v := ov_r 4) d_199_24 fl_OF_28 (zb_0 I) (zs_0 I) (congrArg ov_r (rg_0_2 I)) ?_
            refine ov_blk (ls2 := [(0, ov_r 0), (1, ov_i x1), (2, ov_i x2)]) (st2 := [ov_i x2, ov_r 4]) (pc2 := 28) b_199_27_1 rfl rfl ?_
            refine ov_cV (as := [ov_i x2]) (st := []) (d2 := d - 1) d_199_28 lk_OF_151 rfl (Nat.le_of_ble_eq_true rfl) (c := 7) (zb_4 I) (zs_4 I) ⟨by decide, rfl⟩ (by omega) (c_State_knows_4 (d - 1) (by omega) U I x2 (by omega)) ?_
            rintro _ _ _ ⟨v11, rfl, rfl, rfl, f10⟩
            show ov_R u d ov_m199 31 [(0, ov_r 0), (1, ov_i x1), (2, ov_i x2)] [ov_i v11] z h (P_OF_hiddenLeft_0 F z h)
            have f12 : (v11 = 0 ∨ v11 = 1) := f10
            clear f10
            refine ov_ifne (tgt := 37) d_199_31 (by decide) (by omega) (fun c13 => ?_) (fun c13 => ?_)
            · skip
              refine ov_blk (ls2 := [(0, ov_r 0), (1, ov_i x1), (2, ov_i (x2 + 1))]) (st2 := []) (pc2 := 40) b_199_37_1 rfl rfl ?_
              refine ov_goto (tgt := 4) d_199_40 (by decide) ?_
              exact ih2 x1 (x2 + 1) (by show 0 ≤ x1 ∧ x1 ≤ (x2 + 1) ∧ 0 ≤ (x2 + 1) ∧ (x2 + 1) ≤ 54; omega) (by omega)
            · skip
              refine ov_blk (ls2 := [(0, ov_r 0), (1, ov_i (x1 + 1)), (2, ov_i (x2 + 1))]) (st2 := []) (pc2 := 40) b_199_34_2 rfl rfl ?_
              refine ov_goto (tgt := 4) d_199_40 (by decide) ?_
              exact ih2 (x1 + 1) (x2 + 1) (by show 0 ≤ (x1 + 1) ∧ (x1 + 1) ≤ (x2 + 1) ∧ 0 ≤ (x2 + 1) ∧ (x2 + 1) ≤ 54; omega) (by omega)
        · skip
          refine ov_getf (v := ov_r 70) d_199_11 fl_OF_78 (zb_0 I) (zs_0 I) (congrArg ov_r e7) ?_
          refine ov_getf (v := ov_r 71) d_199_14 fl_OF_139 (zb_70 I) (zs_70 I) (congrArg ov_r (rg_70_2 I)) ?_
          refine ov_blk (ls2 := [(0, ov_r 0), (1, ov_i x1), (2, ov_i x2)]) (st2 := [ov_i x2, ov_r 71]) (pc2 := 18) b_199_17_1 rfl rfl ?_
          refine ov_iald d_199_18 (zb_71 I) (zs_71 I) (by omega) ?_
          have g14 := ra_71 I x2
          refine ov_blk (ls2 := [(0, ov_r 0), (1, ov_i x1), (2, ov_i x2)]) (st2 := [ov_i 1, ov_i (h 71 x2)]) (pc2 := 20) b_199_19_1 rfl rfl ?_
          refine ov_icne (tgt := 37) d_199_20 (by decide) (by omega) (by omega) (fun c15 => ?_) (fun c15 => ?_)
          · skip
            refine ov_blk (ls2 := [(0, ov_r 0), (1, ov_i x1), (2, ov_i (x2 + 1))]) (st2 := []) (pc2 := 40) b_199_37_1 rfl rfl ?_
            refine ov_goto (tgt := 4) d_199_40 (by decide) ?_
            exact ih2 x1 (x2 + 1) (by show 0 ≤ x1 ∧ x1 ≤ (x2 + 1) ∧ 0 ≤ (x2 + 1) ∧ (x2 + 1) ≤ 54; omega) (by omega)
          · skip
            refine ov_blk (ls2 := [(0, ov_r 0), (1, ov_i x1), (2, ov_i x2)]) (st2 := [ov_r 0]) (pc2 := 24) b_199_23_1 rfl rfl ?_
            refine ov_getf (v := ov_r 4) d_199_24 fl_OF_28 (zb_0 I) (zs_0 I) (congrArg ov_r (rg_0_2 I)) ?_
            refine ov_blk (ls2 := [(0, ov_r 0), (1, ov_i x1), (2, ov_i x2)]) (st2 := [ov_i x2, ov_r 4]) (pc2 := 28) b_199_27_1 rfl rfl ?_
            refine ov_cV (as := [ov_i x2]) (st := []) (d2 := d - 1) d_199_28 lk_OF_151 rfl (Nat.le_of_ble_eq_true rfl) (c := 7) (zb_4 I) (zs_4 I) ⟨by decide, rfl⟩ (by omega) (c_State_knows_4 (d - 1) (by omega) U I x2 (by omega)) ?_
            rintro _ _ _ ⟨v17, rfl, rfl, rfl, f16⟩
            show ov_R u d ov_m199 31 [(0, ov_r 0), (1, ov_i x1), (2, ov_i x2)] [ov_i v17] z h (P_OF_hiddenLeft_0 F z h)
            have f18 : (v17 = 0 ∨ v17 = 1) := f16
            clear f16
            refine ov_ifne (tgt := 37) d_199_31 (by decide) (by omega) (fun c19 => ?_) (fun c19 => ?_)
            · skip
              refine ov_blk (ls2 := [(0, ov_r 0), (1, ov_i x1), (2, ov_i (x2 + 1))]) (st2 := []) (pc2 := 40) b_199_37_1 rfl rfl ?_
              refine ov_goto (tgt := 4) d_199_40 (by decide) ?_
              exact ih2 x1 (x2 + 1) (by show 0 ≤ x1 ∧ x1 ≤ (x2 + 1) ∧ 0 ≤ (x2 + 1) ∧ (x2 + 1) ≤ 54; omega) (by omega)
            · skip
              refine ov_blk (ls2 := [(0, ov_r 0), (1, ov_i (x1 + 1)), (2, ov_i (x2 + 1))]) (st2 := []) (pc2 := 40) b_199_34_2 rfl rfl ?_
              refine ov_goto (tgt := 4) d_199_40 (by decide) ?_
              exact ih2 (x1 + 1) (x2 + 1) (by show 0 ≤ (x1 + 1) ∧ (x1 + 1) ≤ (x2 + 1) ∧ 0 ≤ (x2 + 1) ∧ (x2 + 1) ≤ 54; omega) (by omega)
  exact L4 55 0 0 (by show 0 ≤ 0 ∧ 0 ≤ 0 ∧ 0 ≤ 0 ∧ 0 ≤ 54; omega) (by omega)
abbrev P_OF_forgetMarks_0 (F : ov_H) (z : ov_Z) (h : ov_H)  : Option ov_V → ov_Z → ov_H → Prop := fun r0 z' h' => r0 = none ∧ ov_I F z' h' ∧ ((h' 36 7) = (h 36 7) ∧ (h' 1 1) = (h 1 1) ∧ (h' 90 2) = (h 90 2) ∧ (h' 0 10) = (h 0 10) ∧ (h' 0 11) = (h 0 11) ∧ (h' 0 12) = (h 0 12) ∧ (h' 0 13) = (h 0 13) ∧ (h' 3 1) = (h 3 1) ∧ (h' 36 8) = (h 36 8) ∧ (h' 46 3) = (h 46 3) ∧ (h' 46 4) = (h 46 4) ∧ (h' 49 4) = (h 49 4) ∧ (h' 49 5) = (h 49 5) ∧ (h' 64 0) = (h 64 0) ∧ (h' 76 0) = (h 76 0))
set_option maxHeartbeats 4000000 in
theorem c_OF_forgetMarks_0 {u : ov_U} {F : ov_H} {z : ov_Z} {h : ov_H} (d : Nat) (hd : 0 ≤ d) (U : ov_cap u) (I : ov_I F z h) : ov_T u d ov_m83 [ov_r 0] z h (P_OF_forgetMarks_0 F z h) := by
  refine ov_en rfl (Nat.le_of_ble_eq_true rfl) ?_
  show ov_R u d ov_m83 0 [(0, ov_r 0)] [] z h (P_OF_forgetMarks_0 F z h)
  refine ov_blk (ls2 := [(0, ov_r 0), (1, ov_i 0)]) (st2 := []) (pc2 := 2) b_83_0_2 rfl rfl ?_
  have L4 : ∀ (n1 : Nat) (x1 : Int) (z5 : ov_Z) (h6 : ov_H) (I7 : ov_I F z5 h6) (q3 : 0 ≤ x1 ∧ x1 ≤ 4 ∧ (h6 36 7) = (h 36 7) ∧ (h6 1 1) = (h 1 1) ∧ (h6 90 2) = (h 90 2) ∧ (h6 0 10) = (h 0 10) ∧ (h6 0 11) = (h 0 11) ∧ (h6 0 12) = (h 0 12) ∧ (h6 0 13) = (h 0 13) ∧ (h6 3 1) = (h 3 1) ∧ (h6 36 8) = (h 36 8) ∧ (h6 46 3) = (h 46 3) ∧ (h6 46 4) = (h 46 4) ∧ (h6 49 4) = (h 49 4) ∧ (h6 49 5) = (h 49 5) ∧ (h6 64 0) = (h 64 0) ∧ (h6 76 0) = (h 76 0)), 4 - x1 < (n1 : Int) → ov_R u d ov_m83 2 [(0, ov_r 0), (1, ov_i x1)] [] z5 h6 (P_OF_forgetMarks_0 F z h) := by
    intro n1
    induction n1 with
    | zero =>
      intro x1 z5 h6 I7 q3 hn8
      exact absurd hn8 (by omega)
    | succ n1 ih2 =>
      intro x1 z5 h6 I7 q3 hn8
      refine ov_blk (ls2 := [(0, ov_r 0), (1, ov_i x1)]) (st2 := [ov_r 0, ov_i x1]) (pc2 := 4) b_83_2_2 rfl rfl ?_
      refine ov_getf (v := ov_r 35) d_83_4 fl_OF_43 (zb_0 I7) (zs_0 I7) (congrArg ov_r (rg_0_5 I7)) ?_
      refine ov_alen d_83_7 (zb_35 I7) (zs_35 I7) (by decide) ?_
      show ov_R u d ov_m83 8 [(0, ov_r 0), (1, ov_i x1)] [ov_i 4, ov_i x1] z5 h6 (P_OF_forgetMarks_0 F z h)
      refine ov_icge (tgt := 24) d_83_8 (by decide) (by omega) (by omega) (fun c9 => ?_) (fun c9 => ?_)
      · skip
        exact ov_retv (st := []) d_83_24 rfl ⟨rfl, I7, (by show (h6 36 7) = (h 36 7) ∧ (h6 1 1) = (h 1 1) ∧ (h6 90 2) = (h 90 2) ∧ (h6 0 10) = (h 0 10) ∧ (h6 0 11) = (h 0 11) ∧ (h6 0 12) = (h 0 12) ∧ (h6 0 13) = (h 0 13) ∧ (h6 3 1) = (h 3 1) ∧ (h6 36 8) = (h 36 8) ∧ (h6 46 3) = (h 46 3) ∧ (h6 46 4) = (h 46 4) ∧ (h6 49 4) = (h 49 4) ∧ (h6 49 5) = (h 49 5) ∧ (h6 64 0) = (h 64 0) ∧ (h6 76 0) = (h 76 0); omega)⟩
      · skip
        refine ov_blk (ls2 := [(0, ov_r 0), (1, ov_i x1)]) (st2 := [ov_r 0]) (pc2 := 12) b_83_11_1 rfl rfl ?_
        refine ov_getf (v := ov_r 35) d_83_12 fl_OF_43 (zb_0 I7) (zs_0 I7) (congrArg ov_r (rg_0_5 I7)) ?_
        refine ov_blk (ls2 := [(0, ov_r 0), (1, ov_i x1)]) (st2 := [ov_i 0, ov_i x1, ov_r 35]) (pc2 := 17) b_83_15_2 rfl rfl ?_
        refine ov_zast d_83_17 (zb_35 I7) (zs_35 I7) (by omega) (by omega) ?_
        have I10 := ua_35 (k := x1) (x := 0) I7 (by omega)
        refine ov_blk (ls2 := [(0, ov_r 0), (1, ov_i (x1 + 1))]) (st2 := []) (pc2 := 21) b_83_18_1 rfl rfl ?_
        refine ov_goto (tgt := 2) d_83_21 (by decide) ?_
        exact ih2 (x1 + 1) _ _ I10 (by show 0 ≤ (x1 + 1) ∧ (x1 + 1) ≤ 4 ∧ (h6 36 7) = (h 36 7) ∧ (h6 1 1) = (h 1 1) ∧ (h6 90 2) = (h 90 2) ∧ (h6 0 10) = (h 0 10) ∧ (h6 0 11) = (h 0 11) ∧ (h6 0 12) = (h 0 12) ∧ (h6 0 13) = (h 0 13) ∧ (h6 3 1) = (h 3 1) ∧ (h6 36 8) = (h 36 8) ∧ (h6 46 3) = (h 46 3) ∧ (h6 46 4) = (h 46 4) ∧ (h6 49 4) = (h 49 4) ∧ (h6 49 5) = (h 49 5) ∧ (h6 64 0) = (h 64 0) ∧ (h6 76 0) = (h 76 0); omega) (by omega)
  exact L4 5 0 _ _ I (by show 0 ≤ 0 ∧ 0 ≤ 4 ∧ (h 36 7) = (h 36 7) ∧ (h 1 1) = (h 1 1) ∧ (h 90 2) = (h 90 2) ∧ (h 0 10) = (h 0 10) ∧ (h 0 11) = (h 0 11) ∧ (h 0 12) = (h 0 12) ∧ (h 0 13) = (h 0 13) ∧ (h 3 1) = (h 3 1) ∧ (h 36 8) = (h 36 8) ∧ (h 46 3) = (h 46 3) ∧ (h 46 4) = (h 46 4) ∧ (h 49 4) = (h 49 4) ∧ (h 49 5) = (h 49 5) ∧ (h 64 0) = (h 64 0) ∧ (h 76 0) = (h 76 0); omega) (by omega)
abbrev P_OF_forgetReckonings_0 (F : ov_H) (z : ov_Z) (h : ov_H)  : Option ov_V → ov_Z → ov_H → Prop := fun r0 z' h' => r0 = none ∧ ov_I F z' h' ∧ ((h' 36 7) = 0 ∧ (h' 1 1) = (h 1 1) ∧ (h' 90 2) = (h 90 2) ∧ (h' 0 10) = (h 0 10) ∧ (h' 0 11) = (h 0 11) ∧ (h' 0 12) = (h 0 12) ∧ (h' 0 13) = (h 0 13) ∧ (h' 3 1) = (h 3 1) ∧ (h' 36 8) = (h 36 8) ∧ (h' 46 3) = (h 46 3) ∧ (h' 46 4) = (h 46 4) ∧ (h' 49 4) = (h 49 4) ∧ (h' 49 5) = (h 49 5) ∧ (h' 64 0) = (h 64 0) ∧ (h' 76 0) = (h 76 0))
set_option maxHeartbeats 4000000 in
theorem c_OF_forgetReckonings_0 {u : ov_U} {F : ov_H} {z : ov_Z} {h : ov_H} (d : Nat) (hd : 1 ≤ d) (U : ov_cap u) (I : ov_I F z h) : ov_T u d ov_m84 [ov_r 0] z h (P_OF_forgetReckonings_0 F z h) := by
  refine ov_en rfl (Nat.le_of_ble_eq_true rfl) ?_
  show ov_R u d ov_m84 0 [(0, ov_r 0)] [] z h (P_OF_forgetReckonings_0 F z h)
  refine ov_blk (ls2 := [(0, ov_r 0)]) (st2 := [ov_r 0]) (pc2 := 1) b_84_0_1 rfl rfl ?_
  refine ov_getf (v := ov_r 36) d_84_1 fl_OF_50 (zb_0 I) (zs_0 I) (congrArg ov_r (rg_0_6 I)) ?_
  refine ov_cV (as := []) (st := []) (d2 := d - 1) d_84_4 lk_OF_129 rfl (Nat.le_of_ble_eq_true rfl) (c := 2) (zb_36 I) (zs_36 I) ⟨by decide, rfl⟩ (by omega) (c_Goers_forget_36 (d - 1) (by omega) U I) ?_
  rintro _ z2 h3 ⟨rfl, I4, f1⟩
  show ov_R u d ov_m84 7 [(0, ov_r 0)] [] z2 h3 (P_OF_forgetReckonings_0 F z h)
  have f5 : (h3 36 7) = 0 ∧ (h3 1 1) = (h 1 1) ∧ (h3 90 2) = (h 90 2) ∧ (h3 0 10) = (h 0 10) ∧ (h3 0 11) = (h 0 11) ∧ (h3 0 12) = (h 0 12) ∧ (h3 0 13) = (h 0 13) ∧ (h3 3 1) = (h 3 1) ∧ (h3 36 8) = (h 36 8) ∧ (h3 46 3) = (h 46 3) ∧ (h3 46 4) = (h 46 4) ∧ (h3 49 4) = (h 49 4) ∧ (h3 49 5) = (h 49 5) ∧ (h3 64 0) = (h 64 0) ∧ (h3 76 0) = (h 76 0) := f1
  clear f1
  refine ov_blk (ls2 := [(0, ov_r 0)]) (st2 := [ov_r 0]) (pc2 := 8) b_84_7_1 rfl rfl ?_
  refine ov_getf (v := ov_r 49) d_84_8 fl_OF_64 (zb_0 I4) (zs_0 I4) (congrArg ov_r (rg_0_8 I4)) ?_
  refine ov_cV (as := []) (st := []) (d2 := d - 1) d_84_11 lk_OF_126 rfl (Nat.le_of_ble_eq_true rfl) (c := 5) (zb_49 I4) (zs_49 I4) ⟨by decide, rfl⟩ (by omega) (c_Pace_forget_49 (d - 1) (by omega) U I4) ?_
  rintro _ z7 h8 ⟨rfl, I9, f6⟩
  show ov_R u d ov_m84 14 [(0, ov_r 0)] [] z7 h8 (P_OF_forgetReckonings_0 F z h)
  have f10 : (h8 36 7) = (h3 36 7) ∧ (h8 1 1) = (h3 1 1) ∧ (h8 90 2) = (h3 90 2) ∧ (h8 0 10) = (h3 0 10) ∧ (h8 0 11) = (h3 0 11) ∧ (h8 0 12) = (h3 0 12) ∧ (h8 0 13) = (h3 0 13) ∧ (h8 3 1) = (h3 3 1) ∧ (h8 36 8) = (h3 36 8) ∧ (h8 46 3) = (h3 46 3) ∧ (h8 46 4) = (h3 46 4) ∧ (h8 49 4) = (h3 49 4) ∧ (h8 49 5) = (h3 49 5) ∧ (h8 64 0) = (h3 64 0) ∧ (h8 76 0) = (h3 76 0) := f6
  clear f6
  refine ov_blk (ls2 := [(0, ov_r 0)]) (st2 := [ov_r 0]) (pc2 := 15) b_84_14_1 rfl rfl ?_
  refine ov_getf (v := ov_r 54) d_84_15 fl_OF_71 (zb_0 I9) (zs_0 I9) (congrArg ov_r (rg_0_9 I9)) ?_
  refine ov_cV (as := []) (st := []) (d2 := d - 1) d_84_18 lk_OF_130 rfl (Nat.le_of_ble_eq_true rfl) (c := 11) (zb_54 I9) (zs_54 I9) ⟨by decide, rfl⟩ (by omega) (c_Wave_forget_54 (d - 1) (by omega) U I9) ?_
  rintro _ z12 h13 ⟨rfl, I14, f11⟩
  show ov_R u d ov_m84 21 [(0, ov_r 0)] [] z12 h13 (P_OF_forgetReckonings_0 F z h)
  have f15 : (h13 36 7) = (h8 36 7) ∧ (h13 1 1) = (h8 1 1) ∧ (h13 90 2) = (h8 90 2) ∧ (h13 0 10) = (h8 0 10) ∧ (h13 0 11) = (h8 0 11) ∧ (h13 0 12) = (h8 0 12) ∧ (h13 0 13) = (h8 0 13) ∧ (h13 3 1) = (h8 3 1) ∧ (h13 36 8) = (h8 36 8) ∧ (h13 46 3) = (h8 46 3) ∧ (h13 46 4) = (h8 46 4) ∧ (h13 49 4) = (h8 49 4) ∧ (h13 49 5) = (h8 49 5) ∧ (h13 64 0) = (h8 64 0) ∧ (h13 76 0) = (h8 76 0) := f11
  clear f11
  exact ov_retv (st := []) d_84_21 rfl ⟨rfl, I14, (by show (h13 36 7) = 0 ∧ (h13 1 1) = (h 1 1) ∧ (h13 90 2) = (h 90 2) ∧ (h13 0 10) = (h 0 10) ∧ (h13 0 11) = (h 0 11) ∧ (h13 0 12) = (h 0 12) ∧ (h13 0 13) = (h 0 13) ∧ (h13 3 1) = (h 3 1) ∧ (h13 36 8) = (h 36 8) ∧ (h13 46 3) = (h 46 3) ∧ (h13 46 4) = (h 46 4) ∧ (h13 49 4) = (h 49 4) ∧ (h13 49 5) = (h 49 5) ∧ (h13 64 0) = (h 64 0) ∧ (h13 76 0) = (h 76 0); omega)⟩
abbrev P_OF_feed_0 (F : ov_H) (z : ov_Z) (h : ov_H) (a : Int) (b : Int) (c : Int) : Option ov_V → ov_Z → ov_H → Prop := fun r0 z' h' => ∃ r : Int, r0 = some (ov_i r) ∧ ov_I F z' h' ∧ (r = (h' 1 1) ∧ (h' 36 7) = (h 36 7) ∧ (h' 90 2) = (h 90 2) ∧ (h' 0 10) = (h 0 10) ∧ (h' 0 11) = (h 0 11) ∧ (h' 0 12) = (h 0 12) ∧ (h' 0 13) = (h 0 13) ∧ (h' 3 1) = (h 3 1) ∧ (h' 36 8) = (h 36 8) ∧ (h' 46 3) = (h 46 3) ∧ (h' 46 4) = (h 46 4) ∧ (h' 49 4) = (h 49 4) ∧ (h' 49 5) = (h 49 5) ∧ (h' 64 0) = (h 64 0) ∧ (h' 76 0) = (h 76 0))
set_option maxHeartbeats 4000000 in
theorem c_OF_feed_0 {u : ov_U} {F : ov_H} {z : ov_Z} {h : ov_H} (d : Nat) (hd : 1 ≤ d) (U : ov_cap u) (I : ov_I F z h) (a : Int) (b : Int) (c : Int) : ov_T u d ov_m21 [ov_r 0, ov_l a, ov_l b, ov_l c] z h (P_OF_feed_0 F z h a b c) := by
  refine ov_en rfl (Nat.le_of_ble_eq_true rfl) ?_
  show ov_R u d ov_m21 0 [(0, ov_r 0), (1, ov_l a), (3, ov_l b), (5, ov_l c)] [] z h (P_OF_feed_0 F z h a b c)
  refine ov_blk (ls2 := [(0, ov_r 0), (1, ov_l a), (3, ov_l b), (5, ov_l c)]) (st2 := [ov_r 0]) (pc2 := 1) b_21_0_1 rfl rfl ?_
  refine ov_getf (v := ov_r 1) d_21_1 fl_OF_12 (zb_0 I) (zs_0 I) (congrArg ov_r (rg_0_0 I)) ?_
  refine ov_blk (ls2 := [(0, ov_r 0), (1, ov_l a), (3, ov_l b), (5, ov_l c)]) (st2 := [ov_l a, ov_r 1]) (pc2 := 5) b_21_4_1 rfl rfl ?_
  refine ov_cV (as := [ov_l a]) (st := []) (d2 := d - 1) d_21_5 lk_OF_101 rfl (Nat.le_of_ble_eq_true rfl) (c := 8) (zb_1 I) (zs_1 I) ⟨by decide, rfl⟩ (by omega) (c_Tape_append_1 (d - 1) (by omega) U I a) ?_
  rintro _ z2 h3 ⟨rfl, I4, f1⟩
  show ov_R u d ov_m21 8 [(0, ov_r 0), (1, ov_l a), (3, ov_l b), (5, ov_l c)] [] z2 h3 (P_OF_feed_0 F z h a b c)
  have f5 : (h 1 1) ≤ (h3 1 1) ∧ (h3 36 7) = (h 36 7) ∧ (h3 90 2) = (h 90 2) ∧ (h3 0 10) = (h 0 10) ∧ (h3 0 11) = (h 0 11) ∧ (h3 0 12) = (h 0 12) ∧ (h3 0 13) = (h 0 13) ∧ (h3 3 1) = (h 3 1) ∧ (h3 36 8) = (h 36 8) ∧ (h3 46 3) = (h 46 3) ∧ (h3 46 4) = (h 46 4) ∧ (h3 49 4) = (h 49 4) ∧ (h3 49 5) = (h 49 5) ∧ (h3 64 0) = (h 64 0) ∧ (h3 76 0) = (h 76 0) := f1
  clear f1
  refine ov_blk (ls2 := [(0, ov_r 0), (1, ov_l a), (3, ov_l b), (5, ov_l c)]) (st2 := [ov_r 0]) (pc2 := 9) b_21_8_1 rfl rfl ?_
  refine ov_getf (v := ov_r 1) d_21_9 fl_OF_12 (zb_0 I4) (zs_0 I4) (congrArg ov_r (rg_0_0 I4)) ?_
  refine ov_blk (ls2 := [(0, ov_r 0), (1, ov_l a), (3, ov_l b), (5, ov_l c)]) (st2 := [ov_l b, ov_r 1]) (pc2 := 13) b_21_12_1 rfl rfl ?_
  refine ov_cV (as := [ov_l b]) (st := []) (d2 := d - 1) d_21_13 lk_OF_101 rfl (Nat.le_of_ble_eq_true rfl) (c := 8) (zb_1 I4) (zs_1 I4) ⟨by decide, rfl⟩ (by omega) (c_Tape_append_1 (d - 1) (by omega) U I4 b) ?_
  rintro _ z7 h8 ⟨rfl, I9, f6⟩
  show ov_R u d ov_m21 16 [(0, ov_r 0), (1, ov_l a), (3, ov_l b), (5, ov_l c)] [] z7 h8 (P_OF_feed_0 F z h a b c)
  have f10 : (h3 1 1) ≤ (h8 1 1) ∧ (h8 36 7) = (h3 36 7) ∧ (h8 90 2) = (h3 90 2) ∧ (h8 0 10) = (h3 0 10) ∧ (h8 0 11) = (h3 0 11) ∧ (h8 0 12) = (h3 0 12) ∧ (h8 0 13) = (h3 0 13) ∧ (h8 3 1) = (h3 3 1) ∧ (h8 36 8) = (h3 36 8) ∧ (h8 46 3) = (h3 46 3) ∧ (h8 46 4) = (h3 46 4) ∧ (h8 49 4) = (h3 49 4) ∧ (h8 49 5) = (h3 49 5) ∧ (h8 64 0) = (h3 64 0) ∧ (h8 76 0) = (h3 76 0) := f6
  clear f6
  refine ov_blk (ls2 := [(0, ov_r 0), (1, ov_l a), (3, ov_l b), (5, ov_l c)]) (st2 := [ov_r 0]) (pc2 := 17) b_21_16_1 rfl rfl ?_
  refine ov_getf (v := ov_r 1) d_21_17 fl_OF_12 (zb_0 I9) (zs_0 I9) (congrArg ov_r (rg_0_0 I9)) ?_
  refine ov_blk (ls2 := [(0, ov_r 0), (1, ov_l a), (3, ov_l b), (5, ov_l c)]) (st2 := [ov_l c, ov_r 1]) (pc2 := 22) b_21_20_1 rfl rfl ?_
  refine ov_cV (as := [ov_l c]) (st := []) (d2 := d - 1) d_21_22 lk_OF_101 rfl (Nat.le_of_ble_eq_true rfl) (c := 8) (zb_1 I9) (zs_1 I9) ⟨by decide, rfl⟩ (by omega) (c_Tape_append_1 (d - 1) (by omega) U I9 c) ?_
  rintro _ z12 h13 ⟨rfl, I14, f11⟩
  show ov_R u d ov_m21 25 [(0, ov_r 0), (1, ov_l a), (3, ov_l b), (5, ov_l c)] [] z12 h13 (P_OF_feed_0 F z h a b c)
  have f15 : (h8 1 1) ≤ (h13 1 1) ∧ (h13 36 7) = (h8 36 7) ∧ (h13 90 2) = (h8 90 2) ∧ (h13 0 10) = (h8 0 10) ∧ (h13 0 11) = (h8 0 11) ∧ (h13 0 12) = (h8 0 12) ∧ (h13 0 13) = (h8 0 13) ∧ (h13 3 1) = (h8 3 1) ∧ (h13 36 8) = (h8 36 8) ∧ (h13 46 3) = (h8 46 3) ∧ (h13 46 4) = (h8 46 4) ∧ (h13 49 4) = (h8 49 4) ∧ (h13 49 5) = (h8 49 5) ∧ (h13 64 0) = (h8 64 0) ∧ (h13 76 0) = (h8 76 0) := f11
  clear f11
  refine ov_blk (ls2 := [(0, ov_r 0), (1, ov_l a), (3, ov_l b), (5, ov_l c)]) (st2 := [ov_r 0]) (pc2 := 26) b_21_25_1 rfl rfl ?_
  refine ov_getf (v := ov_r 1) d_21_26 fl_OF_12 (zb_0 I14) (zs_0 I14) (congrArg ov_r (rg_0_0 I14)) ?_
  refine ov_getf (v := ov_i (h13 1 1)) d_21_29 fl_OF_105 (zb_1 I14) (zs_1 I14) rfl ?_
  have g16 := rg_1_1 I14
  exact ov_reti (st := []) d_21_32 rfl ⟨_, rfl, I14, (by show (h13 1 1) = (h13 1 1) ∧ (h13 36 7) = (h 36 7) ∧ (h13 90 2) = (h 90 2) ∧ (h13 0 10) = (h 0 10) ∧ (h13 0 11) = (h 0 11) ∧ (h13 0 12) = (h 0 12) ∧ (h13 0 13) = (h 0 13) ∧ (h13 3 1) = (h 3 1) ∧ (h13 36 8) = (h 36 8) ∧ (h13 46 3) = (h 46 3) ∧ (h13 46 4) = (h 46 4) ∧ (h13 49 4) = (h 49 4) ∧ (h13 49 5) = (h 49 5) ∧ (h13 64 0) = (h 64 0) ∧ (h13 76 0) = (h 76 0); omega)⟩
abbrev P_OF_town_0 (F : ov_H) (z : ov_Z) (h : ov_H)  : Option ov_V → ov_Z → ov_H → Prop := fun r0 z' h' => ∃ r : Int, r0 = some (ov_i r) ∧ ov_I F z' h' ∧ ((h' 1 1) = 0 ∧ ((h' 36 7) = 1 → ¬ (h' 36 8) = -1) ∧ ((h' 0 10) = 58 ∧ (h' 0 11) = 70 ∧ 0 ≤ (h' 64 0) ∨ (h' 0 10) = 70 ∧ (h' 0 11) = 58 ∧ 0 ≤ (h' 76 0)) ∧ (h' 90 2) = (h 90 2) ∧ (h' 0 12) = (h 0 12) ∧ (h' 0 13) = (h 0 13) ∧ (h' 46 3) = (h 46 3) ∧ (h' 46 4) = (h 46 4) ∧ (h' 49 4) = (h 49 4) ∧ (h' 49 5) = (h 49 5))
set_option maxHeartbeats 4000000 in
theorem c_OF_town_0 {u : ov_U} {F : ov_H} {z : ov_Z} {h : ov_H} (d : Nat) (hd : 50 ≤ d) (U : ov_cap u) (I : ov_I F z h) (p0 : h 36 7 = 1 → ¬ h 36 8 = -1) (p1 : (h 0 10 = 58 ∧ h 0 11 = 70 ∧ 0 ≤ h 64 0 ∨ h 0 10 = 70 ∧ h 0 11 = 58 ∧ 0 ≤ h 76 0)) : ov_T u d ov_m23 [ov_r 0] z h (P_OF_town_0 F z h) := by
  refine ov_en rfl (Nat.le_of_ble_eq_true rfl) ?_
  show ov_R u d ov_m23 0 [(0, ov_r 0)] [] z h (P_OF_town_0 F z h)
  refine ov_blk (ls2 := [(0, ov_r 0)]) (st2 := [ov_r 0]) (pc2 := 1) b_23_0_1 rfl rfl ?_
  refine ov_getf (v := ov_r 3) d_23_1 fl_OF_21 (zb_0 I) (zs_0 I) (congrArg ov_r (rg_0_1 I)) ?_
  refine ov_blk (ls2 := [(0, ov_r 0)]) (st2 := [ov_r 0, ov_r 3]) (pc2 := 5) b_23_4_1 rfl rfl ?_
  rcases rg_0_11 I with e1 | e1
  · skip
    refine ov_getf (v := ov_r 58) d_23_5 fl_OF_82 (zb_0 I) (zs_0 I) (congrArg ov_r e1) ?_
    refine ov_cV (as := [ov_r 58]) (st := []) (d2 := d - 1) d_23_8 lk_OF_109 rfl (Nat.le_of_ble_eq_true rfl) (c := 6) (zb_3 I) (zs_3 I) ⟨by decide, rfl⟩ (by omega) (c_Reader_readTown_3_58 (d - 1) (by omega) U I) ?_
    rintro _ z4 h5 ⟨v3, rfl, I6, f2⟩
    show ov_R u d ov_m23 11 [(0, ov_r 0)] [ov_i v3] z4 h5 (P_OF_town_0 F z h)
    have f7 : (h5 1 1) = 0 ∧ -2147483648 ≤ v3 ∧ v3 ≤ 2147483647 ∧ (v3 = 0 → 0 ≤ (h5 64 0)) ∧ (h5 36 7) = (h 36 7) ∧ (h5 90 2) = (h 90 2) ∧ (h5 0 10) = (h 0 10) ∧ (h5 0 11) = (h 0 11) ∧ (h5 0 12) = (h 0 12) ∧ (h5 0 13) = (h 0 13) ∧ (h5 36 8) = (h 36 8) ∧ (h5 46 3) = (h 46 3) ∧ (h5 46 4) = (h 46 4) ∧ (h5 49 4) = (h 49 4) ∧ (h5 49 5) = (h 49 5) ∧ (h5 76 0) = (h 76 0) := f2
    clear f2
    have e8 : h5 0 11 = 58 := by omega
    refine ov_blk (ls2 := [(0, ov_r 0), (1, ov_i v3)]) (st2 := [ov_i v3]) (pc2 := 13) b_23_11_2 rfl rfl ?_
    refine ov_ifne (tgt := 63) d_23_13 (by decide) (by omega) (fun c9 => ?_) (fun c9 => ?_)
    · skip
      refine ov_blk (ls2 := [(0, ov_r 0), (1, ov_i v3)]) (st2 := [ov_i v3]) (pc2 := 64) b_23_63_1 rfl rfl ?_
      exact ov_reti (st := []) d_23_64 rfl ⟨_, rfl, I6, (by show (h5 1 1) = 0 ∧ ((h5 36 7) = 1 → ¬ (h5 36 8) = -1) ∧ ((h5 0 10) = 58 ∧ (h5 0 11) = 70 ∧ 0 ≤ (h5 64 0) ∨ (h5 0 10) = 70 ∧ (h5 0 11) = 58 ∧ 0 ≤ (h5 76 0)) ∧ (h5 90 2) = (h 90 2) ∧ (h5 0 12) = (h 0 12) ∧ (h5 0 13) = (h 0 13) ∧ (h5 46 3) = (h 46 3) ∧ (h5 46 4) = (h 46 4) ∧ (h5 49 4) = (h 49 4) ∧ (h5 49 5) = (h 49 5); omega)⟩
    · skip
      refine ov_blk (ls2 := [(0, ov_r 0), (1, ov_i v3)]) (st2 := [ov_r 0]) (pc2 := 17) b_23_16_1 rfl rfl ?_
      rcases rg_0_10 I6 with e10 | e10
      · skip
        refine ov_getf (v := ov_r 58) d_23_17 fl_OF_78 (zb_0 I6) (zs_0 I6) (congrArg ov_r e10) ?_
        refine ov_blk (ls2 := [(0, ov_r 0), (1, ov_i v3), (2, ov_r 58)]) (st2 := [ov_r 0, ov_r 0]) (pc2 := 23) b_23_20_3 rfl rfl ?_
        refine ov_getf (v := ov_r 58) d_23_23 fl_OF_82 (zb_0 I6) (zs_0 I6) (congrArg ov_r e8) ?_
        refine ov_putf (x := 58) d_23_26 fl_OF_78 (zb_0 I6) (zs_0 I6) rfl nk_2 rfl ?_
        have I11 := up_0_10 (x := 58) I6 (by omega)
        refine ov_blk (ls2 := [(0, ov_r 0), (1, ov_i v3), (2, ov_r 58)]) (st2 := [ov_r 58, ov_r 0]) (pc2 := 31) b_23_29_2 rfl rfl ?_
        refine ov_putf (x := 58) d_23_31 fl_OF_82 (zb_0 I11) (zs_0 I11) rfl nk_2 rfl ?_
        have I12 := up_0_11 (x := 58) I11 (by omega)
        refine ov_blk (ls2 := [(0, ov_r 0), (1, ov_i v3), (2, ov_r 58)]) (st2 := [ov_r 0]) (pc2 := 35) b_23_34_1 rfl rfl ?_
        rcases rg_0_12 I6 with e13 | e13
        · skip
          refine ov_getf (v := ov_r 82) d_23_35 fl_OF_88 (zb_0 I12) (zs_0 I12) (congrArg ov_r e13) ?_
          refine ov_cV (as := []) (st := []) (d2 := d - 1) d_23_38 lk_OF_113 rfl (Nat.le_of_ble_eq_true rfl) (c := 10) (zb_82 I12) (zs_82 I12) ⟨by decide, rfl⟩ (by omega) (c_Walk_clear_82 (d - 1) (by omega) U I12) ?_
          rintro _ z15 h16 ⟨rfl, I17, f14⟩
          show ov_R u d ov_m23 41 [(0, ov_r 0), (1, ov_i v3), (2, ov_r 58)] [] z15 h16 (P_OF_town_0 F z h)
          have f18 : (h16 36 7) = (h5 36 7) ∧ (h16 1 1) = (h5 1 1) ∧ (h16 90 2) = (h5 90 2) ∧ (h16 0 10) = 58 ∧ (h16 0 11) = 58 ∧ (h16 0 12) = (h5 0 12) ∧ (h16 0 13) = (h5 0 13) ∧ (h16 3 1) = (h5 3 1) ∧ (h16 36 8) = (h5 36 8) ∧ (h16 46 3) = (h5 46 3) ∧ (h16 46 4) = (h5 46 4) ∧ (h16 49 4) = (h5 49 4) ∧ (h16 49 5) = (h5 49 5) ∧ (h16 64 0) = (h5 64 0) ∧ (h16 76 0) = (h5 76 0) := f14
          clear f14
          have e19 : h16 0 10 = 58 := by omega
          have e20 : h16 0 11 = 58 := by omega
          have e21 : h16 0 12 = 82 := by omega
          refine ov_blk (ls2 := [(0, ov_r 0), (1, ov_i v3), (2, ov_r 58)]) (st2 := [ov_r 0]) (pc2 := 42) b_23_41_1 rfl rfl ?_
          refine ov_getf (v := ov_r 4) d_23_42 fl_OF_28 (zb_0 I17) (zs_0 I17) (congrArg ov_r (rg_0_2 I17)) ?_
          refine ov_cV (as := []) (st := []) (d2 := d - 1) d_23_45 lk_OF_114 rfl (Nat.le_of_ble_eq_true rfl) (c := 7) (zb_4 I17) (zs_4 I17) ⟨by decide, rfl⟩ (by omega) (c_State_clear_4 (d - 1) (by omega) U I17) ?_
          rintro _ z23 h24 ⟨rfl, I25, f22⟩
          show ov_R u d ov_m23 48 [(0, ov_r 0), (1, ov_i v3), (2, ov_r 58)] [] z23 h24 (P_OF_town_0 F z h)
          have f26 : (h24 36 7) = (h16 36 7) ∧ (h24 1 1) = (h16 1 1) ∧ (h24 90 2) = (h16 90 2) ∧ (h24 0 10) = (h16 0 10) ∧ (h24 0 11) = (h16 0 11) ∧ (h24 0 12) = (h16 0 12) ∧ (h24 0 13) = (h16 0 13) ∧ (h24 3 1) = (h16 3 1) ∧ (h24 36 8) = (h16 36 8) ∧ (h24 46 3) = (h16 46 3) ∧ (h24 46 4) = (h16 46 4) ∧ (h24 49 4) = (h16 49 4) ∧ (h24 49 5) = (h16 49 5) ∧ (h24 64 0) = (h16 64 0) ∧ (h24 76 0) = (h16 76 0) := f22
          clear f22
          have e27 : h24 0 10 = 58 := by omega
          have e28 : h24 0 11 = 58 := by omega
          have e29 : h24 0 12 = 82 := by omega
          refine ov_blk (ls2 := [(0, ov_r 0), (1, ov_i v3), (2, ov_r 58)]) (st2 := [ov_r 0]) (pc2 := 49) b_23_48_1 rfl rfl ?_
          refine ov_getf (v := ov_r 9) d_23_49 fl_OF_35 (zb_0 I25) (zs_0 I25) (congrArg ov_r (rg_0_3 I25)) ?_
          refine ov_cV (as := []) (st := []) (d2 := d - 1) d_23_52 lk_OF_115 rfl (Nat.le_of_ble_eq_true rfl) (c := 3) (zb_9 I25) (zs_9 I25) ⟨by decide, rfl⟩ (by omega) (c_History_clear_9 (d - 1) (by omega) U I25) ?_
          rintro _ z31 h32 ⟨rfl, I33, f30⟩
          show ov_R u d ov_m23 55 [(0, ov_r 0), (1, ov_i v3), (2, ov_r 58)] [] z31 h32 (P_OF_town_0 F z h)
          have f34 : (h32 36 7) = (h24 36 7) ∧ (h32 1 1) = (h24 1 1) ∧ (h32 90 2) = (h24 90 2) ∧ (h32 0 10) = (h24 0 10) ∧ (h32 0 11) = (h24 0 11) ∧ (h32 0 12) = (h24 0 12) ∧ (h32 0 13) = (h24 0 13) ∧ (h32 3 1) = (h24 3 1) ∧ (h32 36 8) = (h24 36 8) ∧ (h32 46 3) = (h24 46 3) ∧ (h32 46 4) = (h24 46 4) ∧ (h32 49 4) = (h24 49 4) ∧ (h32 49 5) = (h24 49 5) ∧ (h32 64 0) = (h24 64 0) ∧ (h32 76 0) = (h24 76 0) := f30
          clear f30
          have e35 : h32 0 10 = 58 := by omega
          have e36 : h32 0 11 = 58 := by omega
          have e37 : h32 0 12 = 82 := by omega
          refine ov_blk (ls2 := [(0, ov_r 0), (1, ov_i v3), (2, ov_r 58)]) (st2 := [ov_r 0]) (pc2 := 56) b_23_55_1 rfl rfl ?_
          refine ov_cV (as := []) (st := []) (d2 := d - 1) d_23_56 lk_OF_116 rfl (Nat.le_of_ble_eq_true rfl) (c := 0) (zb_0 I33) (zs_0 I33) ⟨by decide, rfl⟩ (by omega) (c_OF_forgetMarks_0 (d - 1) (by omega) U I33) ?_
          rintro _ z39 h40 ⟨rfl, I41, f38⟩
          show ov_R u d ov_m23 59 [(0, ov_r 0), (1, ov_i v3), (2, ov_r 58)] [] z39 h40 (P_OF_town_0 F z h)
          have f42 : (h40 36 7) = (h32 36 7) ∧ (h40 1 1) = (h32 1 1) ∧ (h40 90 2) = (h32 90 2) ∧ (h40 0 10) = (h32 0 10) ∧ (h40 0 11) = (h32 0 11) ∧ (h40 0 12) = (h32 0 12) ∧ (h40 0 13) = (h32 0 13) ∧ (h40 3 1) = (h32 3 1) ∧ (h40 36 8) = (h32 36 8) ∧ (h40 46 3) = (h32 46 3) ∧ (h40 46 4) = (h32 46 4) ∧ (h40 49 4) = (h32 49 4) ∧ (h40 49 5) = (h32 49 5) ∧ (h40 64 0) = (h32 64 0) ∧ (h40 76 0) = (h32 76 0) := f38
          clear f38
          have e43 : h40 0 10 = 58 := by omega
          have e44 : h40 0 11 = 58 := by omega
          have e45 : h40 0 12 = 82 := by omega
          refine ov_blk (ls2 := [(0, ov_r 0), (1, ov_i v3), (2, ov_r 58)]) (st2 := [ov_r 0]) (pc2 := 60) b_23_59_1 rfl rfl ?_
          refine ov_cV (as := []) (st := []) (d2 := d - 1) d_23_60 lk_OF_119 rfl (Nat.le_of_ble_eq_true rfl) (c := 0) (zb_0 I41) (zs_0 I41) ⟨by decide, rfl⟩ (by omega) (c_OF_forgetReckonings_0 (d - 1) (by omega) U I41) ?_
          rintro _ z47 h48 ⟨rfl, I49, f46⟩
          show ov_R u d ov_m23 63 [(0, ov_r 0), (1, ov_i v3), (2, ov_r 58)] [] z47 h48 (P_OF_town_0 F z h)
          have f50 : (h48 36 7) = 0 ∧ (h48 1 1) = (h40 1 1) ∧ (h48 90 2) = (h40 90 2) ∧ (h48 0 10) = (h40 0 10) ∧ (h48 0 11) = (h40 0 11) ∧ (h48 0 12) = (h40 0 12) ∧ (h48 0 13) = (h40 0 13) ∧ (h48 3 1) = (h40 3 1) ∧ (h48 36 8) = (h40 36 8) ∧ (h48 46 3) = (h40 46 3) ∧ (h48 46 4) = (h40 46 4) ∧ (h48 49 4) = (h40 49 4) ∧ (h48 49 5) = (h40 49 5) ∧ (h48 64 0) = (h40 64 0) ∧ (h48 76 0) = (h40 76 0) := f46
          clear f46
          have e51 : h48 0 10 = 58 := by omega
          have e52 : h48 0 11 = 58 := by omega
          have e53 : h48 0 12 = 82 := by omega
          refine ov_blk (ls2 := [(0, ov_r 0), (1, ov_i v3), (2, ov_r 58)]) (st2 := [ov_i v3]) (pc2 := 64) b_23_63_1 rfl rfl ?_
          exact ov_reti (st := []) d_23_64 rfl ⟨_, rfl, I49, (by show (h48 1 1) = 0 ∧ ((h48 36 7) = 1 → ¬ (h48 36 8) = -1) ∧ ((h48 0 10) = 58 ∧ (h48 0 11) = 70 ∧ 0 ≤ (h48 64 0) ∨ (h48 0 10) = 70 ∧ (h48 0 11) = 58 ∧ 0 ≤ (h48 76 0)) ∧ (h48 90 2) = (h 90 2) ∧ (h48 0 12) = (h 0 12) ∧ (h48 0 13) = (h 0 13) ∧ (h48 46 3) = (h 46 3) ∧ (h48 46 4) = (h 46 4) ∧ (h48 49 4) = (h 49 4) ∧ (h48 49 5) = (h 49 5); omega)⟩
        · skip
          refine ov_getf (v := ov_r 86) d_23_35 fl_OF_88 (zb_0 I12) (zs_0 I12) (congrArg ov_r e13) ?_
          refine ov_cV (as := []) (st := []) (d2 := d - 1) d_23_38 lk_OF_113 rfl (Nat.le_of_ble_eq_true rfl) (c := 10) (zb_86 I12) (zs_86 I12) ⟨by decide, rfl⟩ (by omega) (c_Walk_clear_86 (d - 1) (by omega) U I12) ?_
          rintro _ z55 h56 ⟨rfl, I57, f54⟩
          show ov_R u d ov_m23 41 [(0, ov_r 0), (1, ov_i v3), (2, ov_r 58)] [] z55 h56 (P_OF_town_0 F z h)
          have f58 : (h56 36 7) = (h5 36 7) ∧ (h56 1 1) = (h5 1 1) ∧ (h56 90 2) = (h5 90 2) ∧ (h56 0 10) = 58 ∧ (h56 0 11) = 58 ∧ (h56 0 12) = (h5 0 12) ∧ (h56 0 13) = (h5 0 13) ∧ (h56 3 1) = (h5 3 1) ∧ (h56 36 8) = (h5 36 8) ∧ (h56 46 3) = (h5 46 3) ∧ (h56 46 4) = (h5 46 4) ∧ (h56 49 4) = (h5 49 4) ∧ (h56 49 5) = (h5 49 5) ∧ (h56 64 0) = (h5 64 0) ∧ (h56 76 0) = (h5 76 0) := f54
          clear f54
          have e59 : h56 0 10 = 58 := by omega
          have e60 : h56 0 11 = 58 := by omega
          have e61 : h56 0 12 = 86 := by omega
          refine ov_blk (ls2 := [(0, ov_r 0), (1, ov_i v3), (2, ov_r 58)]) (st2 := [ov_r 0]) (pc2 := 42) b_23_41_1 rfl rfl ?_
          refine ov_getf (v := ov_r 4) d_23_42 fl_OF_28 (zb_0 I57) (zs_0 I57) (congrArg ov_r (rg_0_2 I57)) ?_
          refine ov_cV (as := []) (st := []) (d2 := d - 1) d_23_45 lk_OF_114 rfl (Nat.le_of_ble_eq_true rfl) (c := 7) (zb_4 I57) (zs_4 I57) ⟨by decide, rfl⟩ (by omega) (c_State_clear_4 (d - 1) (by omega) U I57) ?_
          rintro _ z63 h64 ⟨rfl, I65, f62⟩
          show ov_R u d ov_m23 48 [(0, ov_r 0), (1, ov_i v3), (2, ov_r 58)] [] z63 h64 (P_OF_town_0 F z h)
          have f66 : (h64 36 7) = (h56 36 7) ∧ (h64 1 1) = (h56 1 1) ∧ (h64 90 2) = (h56 90 2) ∧ (h64 0 10) = (h56 0 10) ∧ (h64 0 11) = (h56 0 11) ∧ (h64 0 12) = (h56 0 12) ∧ (h64 0 13) = (h56 0 13) ∧ (h64 3 1) = (h56 3 1) ∧ (h64 36 8) = (h56 36 8) ∧ (h64 46 3) = (h56 46 3) ∧ (h64 46 4) = (h56 46 4) ∧ (h64 49 4) = (h56 49 4) ∧ (h64 49 5) = (h56 49 5) ∧ (h64 64 0) = (h56 64 0) ∧ (h64 76 0) = (h56 76 0) := f62
          clear f62
          have e67 : h64 0 10 = 58 := by omega
          have e68 : h64 0 11 = 58 := by omega
          have e69 : h64 0 12 = 86 := by omega
          refine ov_blk (ls2 := [(0, ov_r 0), (1, ov_i v3), (2, ov_r 58)]) (st2 := [ov_r 0]) (pc2 := 49) b_23_48_1 rfl rfl ?_
          refine ov_getf (v := ov_r 9) d_23_49 fl_OF_35 (zb_0 I65) (zs_0 I65) (congrArg ov_r (rg_0_3 I65)) ?_
          refine ov_cV (as := []) (st := []) (d2 := d - 1) d_23_52 lk_OF_115 rfl (Nat.le_of_ble_eq_true rfl) (c := 3) (zb_9 I65) (zs_9 I65) ⟨by decide, rfl⟩ (by omega) (c_History_clear_9 (d - 1) (by omega) U I65) ?_
          rintro _ z71 h72 ⟨rfl, I73, f70⟩
          show ov_R u d ov_m23 55 [(0, ov_r 0), (1, ov_i v3), (2, ov_r 58)] [] z71 h72 (P_OF_town_0 F z h)
          have f74 : (h72 36 7) = (h64 36 7) ∧ (h72 1 1) = (h64 1 1) ∧ (h72 90 2) = (h64 90 2) ∧ (h72 0 10) = (h64 0 10) ∧ (h72 0 11) = (h64 0 11) ∧ (h72 0 12) = (h64 0 12) ∧ (h72 0 13) = (h64 0 13) ∧ (h72 3 1) = (h64 3 1) ∧ (h72 36 8) = (h64 36 8) ∧ (h72 46 3) = (h64 46 3) ∧ (h72 46 4) = (h64 46 4) ∧ (h72 49 4) = (h64 49 4) ∧ (h72 49 5) = (h64 49 5) ∧ (h72 64 0) = (h64 64 0) ∧ (h72 76 0) = (h64 76 0) := f70
          clear f70
          have e75 : h72 0 10 = 58 := by omega
          have e76 : h72 0 11 = 58 := by omega
          have e77 : h72 0 12 = 86 := by omega
          refine ov_blk (ls2 := [(0, ov_r 0), (1, ov_i v3), (2, ov_r 58)]) (st2 := [ov_r 0]) (pc2 := 56) b_23_55_1 rfl rfl ?_
          refine ov_cV (as := []) (st := []) (d2 := d - 1) d_23_56 lk_OF_116 rfl (Nat.le_of_ble_eq_true rfl) (c := 0) (zb_0 I73) (zs_0 I73) ⟨by decide, rfl⟩ (by omega) (c_OF_forgetMarks_0 (d - 1) (by omega) U I73) ?_
          rintro _ z79 h80 ⟨rfl, I81, f78⟩
          show ov_R u d ov_m23 59 [(0, ov_r 0), (1, ov_i v3), (2, ov_r 58)] [] z79 h80 (P_OF_town_0 F z h)
          have f82 : (h80 36 7) = (h72 36 7) ∧ (h80 1 1) = (h72 1 1) ∧ (h80 90 2) = (h72 90 2) ∧ (h80 0 10) = (h72 0 10) ∧ (h80 0 11) = (h72 0 11) ∧ (h80 0 12) = (h72 0 12) ∧ (h80 0 13) = (h72 0 13) ∧ (h80 3 1) = (h72 3 1) ∧ (h80 36 8) = (h72 36 8) ∧ (h80 46 3) = (h72 46 3) ∧ (h80 46 4) = (h72 46 4) ∧ (h80 49 4) = (h72 49 4) ∧ (h80 49 5) = (h72 49 5) ∧ (h80 64 0) = (h72 64 0) ∧ (h80 76 0) = (h72 76 0) := f78
          clear f78
          have e83 : h80 0 10 = 58 := by omega
          have e84 : h80 0 11 = 58 := by omega
          have e85 : h80 0 12 = 86 := by omega
          refine ov_blk (ls2 := [(0, ov_r 0), (1, ov_i v3), (2, ov_r 58)]) (st2 := [ov_r 0]) (pc2 := 60) b_23_59_1 rfl rfl ?_
          refine ov_cV (as := []) (st := []) (d2 := d - 1) d_23_60 lk_OF_119 rfl (Nat.le_of_ble_eq_true rfl) (c := 0) (zb_0 I81) (zs_0 I81) ⟨by decide, rfl⟩ (by omega) (c_OF_forgetReckonings_0 (d - 1) (by omega) U I81) ?_
          rintro _ z87 h88 ⟨rfl, I89, f86⟩
          show ov_R u d ov_m23 63 [(0, ov_r 0), (1, ov_i v3), (2, ov_r 58)] [] z87 h88 (P_OF_town_0 F z h)
          have f90 : (h88 36 7) = 0 ∧ (h88 1 1) = (h80 1 1) ∧ (h88 90 2) = (h80 90 2) ∧ (h88 0 10) = (h80 0 10) ∧ (h88 0 11) = (h80 0 11) ∧ (h88 0 12) = (h80 0 12) ∧ (h88 0 13) = (h80 0 13) ∧ (h88 3 1) = (h80 3 1) ∧ (h88 36 8) = (h80 36 8) ∧ (h88 46 3) = (h80 46 3) ∧ (h88 46 4) = (h80 46 4) ∧ (h88 49 4) = (h80 49 4) ∧ (h88 49 5) = (h80 49 5) ∧ (h88 64 0) = (h80 64 0) ∧ (h88 76 0) = (h80 76 0) := f86
          clear f86
          have e91 : h88 0 10 = 58 := by omega
          have e92 : h88 0 11 = 58 := by omega
          have e93 : h88 0 12 = 86 := by omega
          refine ov_blk (ls2 := [(0, ov_r 0), (1, ov_i v3), (2, ov_r 58)]) (st2 := [ov_i v3]) (pc2 := 64) b_23_63_1 rfl rfl ?_
          exact ov_reti (st := []) d_23_64 rfl ⟨_, rfl, I89, (by show (h88 1 1) = 0 ∧ ((h88 36 7) = 1 → ¬ (h88 36 8) = -1) ∧ ((h88 0 10) = 58 ∧ (h88 0 11) = 70 ∧ 0 ≤ (h88 64 0) ∨ (h88 0 10) = 70 ∧ (h88 0 11) = 58 ∧ 0 ≤ (h88 76 0)) ∧ (h88 90 2) = (h 90 2) ∧ (h88 0 12) = (h 0 12) ∧ (h88 0 13) = (h 0 13) ∧ (h88 46 3) = (h 46 3) ∧ (h88 46 4) = (h 46 4) ∧ (h88 49 4) = (h 49 4) ∧ (h88 49 5) = (h 49 5); omega)⟩
      · skip
        refine ov_getf (v := ov_r 70) d_23_17 fl_OF_78 (zb_0 I6) (zs_0 I6) (congrArg ov_r e10) ?_
        refine ov_blk (ls2 := [(0, ov_r 0), (1, ov_i v3), (2, ov_r 70)]) (st2 := [ov_r 0, ov_r 0]) (pc2 := 23) b_23_20_3 rfl rfl ?_
        refine ov_getf (v := ov_r 58) d_23_23 fl_OF_82 (zb_0 I6) (zs_0 I6) (congrArg ov_r e8) ?_
        refine ov_putf (x := 58) d_23_26 fl_OF_78 (zb_0 I6) (zs_0 I6) rfl nk_2 rfl ?_
        have I94 := up_0_10 (x := 58) I6 (by omega)
        refine ov_blk (ls2 := [(0, ov_r 0), (1, ov_i v3), (2, ov_r 70)]) (st2 := [ov_r 70, ov_r 0]) (pc2 := 31) b_23_29_2 rfl rfl ?_
        refine ov_putf (x := 70) d_23_31 fl_OF_82 (zb_0 I94) (zs_0 I94) rfl nk_2 rfl ?_
        have I95 := up_0_11 (x := 70) I94 (by omega)
        refine ov_blk (ls2 := [(0, ov_r 0), (1, ov_i v3), (2, ov_r 70)]) (st2 := [ov_r 0]) (pc2 := 35) b_23_34_1 rfl rfl ?_
        rcases rg_0_12 I6 with e96 | e96
        · skip
          refine ov_getf (v := ov_r 82) d_23_35 fl_OF_88 (zb_0 I95) (zs_0 I95) (congrArg ov_r e96) ?_
          refine ov_cV (as := []) (st := []) (d2 := d - 1) d_23_38 lk_OF_113 rfl (Nat.le_of_ble_eq_true rfl) (c := 10) (zb_82 I95) (zs_82 I95) ⟨by decide, rfl⟩ (by omega) (c_Walk_clear_82 (d - 1) (by omega) U I95) ?_
          rintro _ z98 h99 ⟨rfl, I100, f97⟩
          show ov_R u d ov_m23 41 [(0, ov_r 0), (1, ov_i v3), (2, ov_r 70)] [] z98 h99 (P_OF_town_0 F z h)
          have f101 : (h99 36 7) = (h5 36 7) ∧ (h99 1 1) = (h5 1 1) ∧ (h99 90 2) = (h5 90 2) ∧ (h99 0 10) = 58 ∧ (h99 0 11) = 70 ∧ (h99 0 12) = (h5 0 12) ∧ (h99 0 13) = (h5 0 13) ∧ (h99 3 1) = (h5 3 1) ∧ (h99 36 8) = (h5 36 8) ∧ (h99 46 3) = (h5 46 3) ∧ (h99 46 4) = (h5 46 4) ∧ (h99 49 4) = (h5 49 4) ∧ (h99 49 5) = (h5 49 5) ∧ (h99 64 0) = (h5 64 0) ∧ (h99 76 0) = (h5 76 0) := f97
          clear f97
          have e102 : h99 0 10 = 58 := by omega
          have e103 : h99 0 11 = 70 := by omega
          have e104 : h99 0 12 = 82 := by omega
          refine ov_blk (ls2 := [(0, ov_r 0), (1, ov_i v3), (2, ov_r 70)]) (st2 := [ov_r 0]) (pc2 := 42) b_23_41_1 rfl rfl ?_
          refine ov_getf (v := ov_r 4) d_23_42 fl_OF_28 (zb_0 I100) (zs_0 I100) (congrArg ov_r (rg_0_2 I100)) ?_
          refine ov_cV (as := []) (st := []) (d2 := d - 1) d_23_45 lk_OF_114 rfl (Nat.le_of_ble_eq_true rfl) (c := 7) (zb_4 I100) (zs_4 I100) ⟨by decide, rfl⟩ (by omega) (c_State_clear_4 (d - 1) (by omega) U I100) ?_
          rintro _ z106 h107 ⟨rfl, I108, f105⟩
          show ov_R u d ov_m23 48 [(0, ov_r 0), (1, ov_i v3), (2, ov_r 70)] [] z106 h107 (P_OF_town_0 F z h)
          have f109 : (h107 36 7) = (h99 36 7) ∧ (h107 1 1) = (h99 1 1) ∧ (h107 90 2) = (h99 90 2) ∧ (h107 0 10) = (h99 0 10) ∧ (h107 0 11) = (h99 0 11) ∧ (h107 0 12) = (h99 0 12) ∧ (h107 0 13) = (h99 0 13) ∧ (h107 3 1) = (h99 3 1) ∧ (h107 36 8) = (h99 36 8) ∧ (h107 46 3) = (h99 46 3) ∧ (h107 46 4) = (h99 46 4) ∧ (h107 49 4) = (h99 49 4) ∧ (h107 49 5) = (h99 49 5) ∧ (h107 64 0) = (h99 64 0) ∧ (h107 76 0) = (h99 76 0) := f105
          clear f105
          have e110 : h107 0 10 = 58 := by omega
          have e111 : h107 0 11 = 70 := by omega
          have e112 : h107 0 12 = 82 := by omega
          refine ov_blk (ls2 := [(0, ov_r 0), (1, ov_i v3), (2, ov_r 70)]) (st2 := [ov_r 0]) (pc2 := 49) b_23_48_1 rfl rfl ?_
          refine ov_getf (v := ov_r 9) d_23_49 fl_OF_35 (zb_0 I108) (zs_0 I108) (congrArg ov_r (rg_0_3 I108)) ?_
          refine ov_cV (as := []) (st := []) (d2 := d - 1) d_23_52 lk_OF_115 rfl (Nat.le_of_ble_eq_true rfl) (c := 3) (zb_9 I108) (zs_9 I108) ⟨by decide, rfl⟩ (by omega) (c_History_clear_9 (d - 1) (by omega) U I108) ?_
          rintro _ z114 h115 ⟨rfl, I116, f113⟩
          show ov_R u d ov_m23 55 [(0, ov_r 0), (1, ov_i v3), (2, ov_r 70)] [] z114 h115 (P_OF_town_0 F z h)
          have f117 : (h115 36 7) = (h107 36 7) ∧ (h115 1 1) = (h107 1 1) ∧ (h115 90 2) = (h107 90 2) ∧ (h115 0 10) = (h107 0 10) ∧ (h115 0 11) = (h107 0 11) ∧ (h115 0 12) = (h107 0 12) ∧ (h115 0 13) = (h107 0 13) ∧ (h115 3 1) = (h107 3 1) ∧ (h115 36 8) = (h107 36 8) ∧ (h115 46 3) = (h107 46 3) ∧ (h115 46 4) = (h107 46 4) ∧ (h115 49 4) = (h107 49 4) ∧ (h115 49 5) = (h107 49 5) ∧ (h115 64 0) = (h107 64 0) ∧ (h115 76 0) = (h107 76 0) := f113
          clear f113
          have e118 : h115 0 10 = 58 := by omega
          have e119 : h115 0 11 = 70 := by omega
          have e120 : h115 0 12 = 82 := by omega
          refine ov_blk (ls2 := [(0, ov_r 0), (1, ov_i v3), (2, ov_r 70)]) (st2 := [ov_r 0]) (pc2 := 56) b_23_55_1 rfl rfl ?_
          refine ov_cV (as := []) (st := []) (d2 := d - 1) d_23_56 lk_OF_116 rfl (Nat.le_of_ble_eq_true rfl) (c := 0) (zb_0 I116) (zs_0 I116) ⟨by decide, rfl⟩ (by omega) (c_OF_forgetMarks_0 (d - 1) (by omega) U I116) ?_
          rintro _ z122 h123 ⟨rfl, I124, f121⟩
          show ov_R u d ov_m23 59 [(0, ov_r 0), (1, ov_i v3), (2, ov_r 70)] [] z122 h123 (P_OF_town_0 F z h)
          have f125 : (h123 36 7) = (h115 36 7) ∧ (h123 1 1) = (h115 1 1) ∧ (h123 90 2) = (h115 90 2) ∧ (h123 0 10) = (h115 0 10) ∧ (h123 0 11) = (h115 0 11) ∧ (h123 0 12) = (h115 0 12) ∧ (h123 0 13) = (h115 0 13) ∧ (h123 3 1) = (h115 3 1) ∧ (h123 36 8) = (h115 36 8) ∧ (h123 46 3) = (h115 46 3) ∧ (h123 46 4) = (h115 46 4) ∧ (h123 49 4) = (h115 49 4) ∧ (h123 49 5) = (h115 49 5) ∧ (h123 64 0) = (h115 64 0) ∧ (h123 76 0) = (h115 76 0) := f121
          clear f121
          have e126 : h123 0 10 = 58 := by omega
          have e127 : h123 0 11 = 70 := by omega
          have e128 : h123 0 12 = 82 := by omega
          refine ov_blk (ls2 := [(0, ov_r 0), (1, ov_i v3), (2, ov_r 70)]) (st2 := [ov_r 0]) (pc2 := 60) b_23_59_1 rfl rfl ?_
          refine ov_cV (as := []) (st := []) (d2 := d - 1) d_23_60 lk_OF_119 rfl (Nat.le_of_ble_eq_true rfl) (c := 0) (zb_0 I124) (zs_0 I124) ⟨by decide, rfl⟩ (by omega) (c_OF_forgetReckonings_0 (d - 1) (by omega) U I124) ?_
          rintro _ z130 h131 ⟨rfl, I132, f129⟩
          show ov_R u d ov_m23 63 [(0, ov_r 0), (1, ov_i v3), (2, ov_r 70)] [] z130 h131 (P_OF_town_0 F z h)
          have f133 : (h131 36 7) = 0 ∧ (h131 1 1) = (h123 1 1) ∧ (h131 90 2) = (h123 90 2) ∧ (h131 0 10) = (h123 0 10) ∧ (h131 0 11) = (h123 0 11) ∧ (h131 0 12) = (h123 0 12) ∧ (h131 0 13) = (h123 0 13) ∧ (h131 3 1) = (h123 3 1) ∧ (h131 36 8) = (h123 36 8) ∧ (h131 46 3) = (h123 46 3) ∧ (h131 46 4) = (h123 46 4) ∧ (h131 49 4) = (h123 49 4) ∧ (h131 49 5) = (h123 49 5) ∧ (h131 64 0) = (h123 64 0) ∧ (h131 76 0) = (h123 76 0) := f129
          clear f129
          have e134 : h131 0 10 = 58 := by omega
          have e135 : h131 0 11 = 70 := by omega
          have e136 : h131 0 12 = 82 := by omega
          refine ov_blk (ls2 := [(0, ov_r 0), (1, ov_i v3), (2, ov_r 70)]) (st2 := [ov_i v3]) (pc2 := 64) b_23_63_1 rfl rfl ?_
          exact ov_reti (st := []) d_23_64 rfl ⟨_, rfl, I132, (by show (h131 1 1) = 0 ∧ ((h131 36 7) = 1 → ¬ (h131 36 8) = -1) ∧ ((h131 0 10) = 58 ∧ (h131 0 11) = 70 ∧ 0 ≤ (h131 64 0) ∨ (h131 0 10) = 70 ∧ (h131 0 11) = 58 ∧ 0 ≤ (h131 76 0)) ∧ (h131 90 2) = (h 90 2) ∧ (h131 0 12) = (h 0 12) ∧ (h131 0 13) = (h 0 13) ∧ (h131 46 3) = (h 46 3) ∧ (h131 46 4) = (h 46 4) ∧ (h131 49 4) = (h 49 4) ∧ (h131 49 5) = (h 49 5); omega)⟩
        · skip
          refine ov_getf (v := ov_r 86) d_23_35 fl_OF_88 (zb_0 I95) (zs_0 I95) (congrArg ov_r e96) ?_
          refine ov_cV (as := []) (st := []) (d2 := d - 1) d_23_38 lk_OF_113 rfl (Nat.le_of_ble_eq_true rfl) (c := 10) (zb_86 I95) (zs_86 I95) ⟨by decide, rfl⟩ (by omega) (c_Walk_clear_86 (d - 1) (by omega) U I95) ?_
          rintro _ z138 h139 ⟨rfl, I140, f137⟩
          show ov_R u d ov_m23 41 [(0, ov_r 0), (1, ov_i v3), (2, ov_r 70)] [] z138 h139 (P_OF_town_0 F z h)
          have f141 : (h139 36 7) = (h5 36 7) ∧ (h139 1 1) = (h5 1 1) ∧ (h139 90 2) = (h5 90 2) ∧ (h139 0 10) = 58 ∧ (h139 0 11) = 70 ∧ (h139 0 12) = (h5 0 12) ∧ (h139 0 13) = (h5 0 13) ∧ (h139 3 1) = (h5 3 1) ∧ (h139 36 8) = (h5 36 8) ∧ (h139 46 3) = (h5 46 3) ∧ (h139 46 4) = (h5 46 4) ∧ (h139 49 4) = (h5 49 4) ∧ (h139 49 5) = (h5 49 5) ∧ (h139 64 0) = (h5 64 0) ∧ (h139 76 0) = (h5 76 0) := f137
          clear f137
          have e142 : h139 0 10 = 58 := by omega
          have e143 : h139 0 11 = 70 := by omega
          have e144 : h139 0 12 = 86 := by omega
          refine ov_blk (ls2 := [(0, ov_r 0), (1, ov_i v3), (2, ov_r 70)]) (st2 := [ov_r 0]) (pc2 := 42) b_23_41_1 rfl rfl ?_
          refine ov_getf (v := ov_r 4) d_23_42 fl_OF_28 (zb_0 I140) (zs_0 I140) (congrArg ov_r (rg_0_2 I140)) ?_
          refine ov_cV (as := []) (st := []) (d2 := d - 1) d_23_45 lk_OF_114 rfl (Nat.le_of_ble_eq_true rfl) (c := 7) (zb_4 I140) (zs_4 I140) ⟨by decide, rfl⟩ (by omega) (c_State_clear_4 (d - 1) (by omega) U I140) ?_
          rintro _ z146 h147 ⟨rfl, I148, f145⟩
          show ov_R u d ov_m23 48 [(0, ov_r 0), (1, ov_i v3), (2, ov_r 70)] [] z146 h147 (P_OF_town_0 F z h)
          have f149 : (h147 36 7) = (h139 36 7) ∧ (h147 1 1) = (h139 1 1) ∧ (h147 90 2) = (h139 90 2) ∧ (h147 0 10) = (h139 0 10) ∧ (h147 0 11) = (h139 0 11) ∧ (h147 0 12) = (h139 0 12) ∧ (h147 0 13) = (h139 0 13) ∧ (h147 3 1) = (h139 3 1) ∧ (h147 36 8) = (h139 36 8) ∧ (h147 46 3) = (h139 46 3) ∧ (h147 46 4) = (h139 46 4) ∧ (h147 49 4) = (h139 49 4) ∧ (h147 49 5) = (h139 49 5) ∧ (h147 64 0) = (h139 64 0) ∧ (h147 76 0) = (h139 76 0) := f145
          clear f145
          have e150 : h147 0 10 = 58 := by omega
          have e151 : h147 0 11 = 70 := by omega
          have e152 : h147 0 12 = 86 := by omega
          refine ov_blk (ls2 := [(0, ov_r 0), (1, ov_i v3), (2, ov_r 70)]) (st2 := [ov_r 0]) (pc2 := 49) b_23_48_1 rfl rfl ?_
          refine ov_getf (v := ov_r 9) d_23_49 fl_OF_35 (zb_0 I148) (zs_0 I148) (congrArg ov_r (rg_0_3 I148)) ?_
          refine ov_cV (as := []) (st := []) (d2 := d - 1) d_23_52 lk_OF_115 rfl (Nat.le_of_ble_eq_true rfl) (c := 3) (zb_9 I148) (zs_9 I148) ⟨by decide, rfl⟩ (by omega) (c_History_clear_9 (d - 1) (by omega) U I148) ?_
          rintro _ z154 h155 ⟨rfl, I156, f153⟩
          show ov_R u d ov_m23 55 [(0, ov_r 0), (1, ov_i v3), (2, ov_r 70)] [] z154 h155 (P_OF_town_0 F z h)
          have f157 : (h155 36 7) = (h147 36 7) ∧ (h155 1 1) = (h147 1 1) ∧ (h155 90 2) = (h147 90 2) ∧ (h155 0 10) = (h147 0 10) ∧ (h155 0 11) = (h147 0 11) ∧ (h155 0 12) = (h147 0 12) ∧ (h155 0 13) = (h147 0 13) ∧ (h155 3 1) = (h147 3 1) ∧ (h155 36 8) = (h147 36 8) ∧ (h155 46 3) = (h147 46 3) ∧ (h155 46 4) = (h147 46 4) ∧ (h155 49 4) = (h147 49 4) ∧ (h155 49 5) = (h147 49 5) ∧ (h155 64 0) = (h147 64 0) ∧ (h155 76 0) = (h147 76 0) := f153
          clear f153
          have e158 : h155 0 10 = 58 := by omega
          have e159 : h155 0 11 = 70 := by omega
          have e160 : h155 0 12 = 86 := by omega
          refine ov_blk (ls2 := [(0, ov_r 0), (1, ov_i v3), (2, ov_r 70)]) (st2 := [ov_r 0]) (pc2 := 56) b_23_55_1 rfl rfl ?_
          refine ov_cV (as := []) (st := []) (d2 := d - 1) d_23_56 lk_OF_116 rfl (Nat.le_of_ble_eq_true rfl) (c := 0) (zb_0 I156) (zs_0 I156) ⟨by decide, rfl⟩ (by omega) (c_OF_forgetMarks_0 (d - 1) (by omega) U I156) ?_
          rintro _ z162 h163 ⟨rfl, I164, f161⟩
          show ov_R u d ov_m23 59 [(0, ov_r 0), (1, ov_i v3), (2, ov_r 70)] [] z162 h163 (P_OF_town_0 F z h)
          have f165 : (h163 36 7) = (h155 36 7) ∧ (h163 1 1) = (h155 1 1) ∧ (h163 90 2) = (h155 90 2) ∧ (h163 0 10) = (h155 0 10) ∧ (h163 0 11) = (h155 0 11) ∧ (h163 0 12) = (h155 0 12) ∧ (h163 0 13) = (h155 0 13) ∧ (h163 3 1) = (h155 3 1) ∧ (h163 36 8) = (h155 36 8) ∧ (h163 46 3) = (h155 46 3) ∧ (h163 46 4) = (h155 46 4) ∧ (h163 49 4) = (h155 49 4) ∧ (h163 49 5) = (h155 49 5) ∧ (h163 64 0) = (h155 64 0) ∧ (h163 76 0) = (h155 76 0) := f161
          clear f161
          have e166 : h163 0 10 = 58 := by omega
          have e167 : h163 0 11 = 70 := by omega
          have e168 : h163 0 12 = 86 := by omega
          refine ov_blk (ls2 := [(0, ov_r 0), (1, ov_i v3), (2, ov_r 70)]) (st2 := [ov_r 0]) (pc2 := 60) b_23_59_1 rfl rfl ?_
          refine ov_cV (as := []) (st := []) (d2 := d - 1) d_23_60 lk_OF_119 rfl (Nat.le_of_ble_eq_true rfl) (c := 0) (zb_0 I164) (zs_0 I164) ⟨by decide, rfl⟩ (by omega) (c_OF_forgetReckonings_0 (d - 1) (by omega) U I164) ?_
          rintro _ z170 h171 ⟨rfl, I172, f169⟩
          show ov_R u d ov_m23 63 [(0, ov_r 0), (1, ov_i v3), (2, ov_r 70)] [] z170 h171 (P_OF_town_0 F z h)
          have f173 : (h171 36 7) = 0 ∧ (h171 1 1) = (h163 1 1) ∧ (h171 90 2) = (h163 90 2) ∧ (h171 0 10) = (h163 0 10) ∧ (h171 0 11) = (h163 0 11) ∧ (h171 0 12) = (h163 0 12) ∧ (h171 0 13) = (h163 0 13) ∧ (h171 3 1) = (h163 3 1) ∧ (h171 36 8) = (h163 36 8) ∧ (h171 46 3) = (h163 46 3) ∧ (h171 46 4) = (h163 46 4) ∧ (h171 49 4) = (h163 49 4) ∧ (h171 49 5) = (h163 49 5) ∧ (h171 64 0) = (h163 64 0) ∧ (h171 76 0) = (h163 76 0) := f169
          clear f169
          have e174 : h171 0 10 = 58 := by omega
          have e175 : h171 0 11 = 70 := by omega
          have e176 : h171 0 12 = 86 := by omega
          refine ov_blk (ls2 := [(0, ov_r 0), (1, ov_i v3), (2, ov_r 70)]) (st2 := [ov_i v3]) (pc2 := 64) b_23_63_1 rfl rfl ?_
          exact ov_reti (st := []) d_23_64 rfl ⟨_, rfl, I172, (by show (h171 1 1) = 0 ∧ ((h171 36 7) = 1 → ¬ (h171 36 8) = -1) ∧ ((h171 0 10) = 58 ∧ (h171 0 11) = 70 ∧ 0 ≤ (h171 64 0) ∨ (h171 0 10) = 70 ∧ (h171 0 11) = 58 ∧ 0 ≤ (h171 76 0)) ∧ (h171 90 2) = (h 90 2) ∧ (h171 0 12) = (h 0 12) ∧ (h171 0 13) = (h 0 13) ∧ (h171 46 3) = (h 46 3) ∧ (h171 46 4) = (h 46 4) ∧ (h171 49 4) = (h 49 4) ∧ (h171 49 5) = (h 49 5); omega)⟩
  · skip
    refine ov_getf (v := ov_r 70) d_23_5 fl_OF_82 (zb_0 I) (zs_0 I) (congrArg ov_r e1) ?_
    refine ov_cV (as := [ov_r 70]) (st := []) (d2 := d - 1) d_23_8 lk_OF_109 rfl (Nat.le_of_ble_eq_true rfl) (c := 6) (zb_3 I) (zs_3 I) ⟨by decide, rfl⟩ (by omega) (c_Reader_readTown_3_70 (d - 1) (by omega) U I) ?_
    rintro _ z179 h180 ⟨v178, rfl, I181, f177⟩
    show ov_R u d ov_m23 11 [(0, ov_r 0)] [ov_i v178] z179 h180 (P_OF_town_0 F z h)
    have f182 : (h180 1 1) = 0 ∧ -2147483648 ≤ v178 ∧ v178 ≤ 2147483647 ∧ (v178 = 0 → 0 ≤ (h180 76 0)) ∧ (h180 36 7) = (h 36 7) ∧ (h180 90 2) = (h 90 2) ∧ (h180 0 10) = (h 0 10) ∧ (h180 0 11) = (h 0 11) ∧ (h180 0 12) = (h 0 12) ∧ (h180 0 13) = (h 0 13) ∧ (h180 36 8) = (h 36 8) ∧ (h180 46 3) = (h 46 3) ∧ (h180 46 4) = (h 46 4) ∧ (h180 49 4) = (h 49 4) ∧ (h180 49 5) = (h 49 5) ∧ (h180 64 0) = (h 64 0) := f177
    clear f177
    have e183 : h180 0 11 = 70 := by omega
    refine ov_blk (ls2 := [(0, ov_r 0), (1, ov_i v178)]) (st2 := [ov_i v178]) (pc2 := 13) b_23_11_2 rfl rfl ?_
    refine ov_ifne (tgt := 63) d_23_13 (by decide) (by omega) (fun c184 => ?_) (fun c184 => ?_)
    · skip
      refine ov_blk (ls2 := [(0, ov_r 0), (1, ov_i v178)]) (st2 := [ov_i v178]) (pc2 := 64) b_23_63_1 rfl rfl ?_
      exact ov_reti (st := []) d_23_64 rfl ⟨_, rfl, I181, (by show (h180 1 1) = 0 ∧ ((h180 36 7) = 1 → ¬ (h180 36 8) = -1) ∧ ((h180 0 10) = 58 ∧ (h180 0 11) = 70 ∧ 0 ≤ (h180 64 0) ∨ (h180 0 10) = 70 ∧ (h180 0 11) = 58 ∧ 0 ≤ (h180 76 0)) ∧ (h180 90 2) = (h 90 2) ∧ (h180 0 12) = (h 0 12) ∧ (h180 0 13) = (h 0 13) ∧ (h180 46 3) = (h 46 3) ∧ (h180 46 4) = (h 46 4) ∧ (h180 49 4) = (h 49 4) ∧ (h180 49 5) = (h 49 5); omega)⟩
    · skip
      refine ov_blk (ls2 := [(0, ov_r 0), (1, ov_i v178)]) (st2 := [ov_r 0]) (pc2 := 17) b_23_16_1 rfl rfl ?_
      rcases rg_0_10 I181 with e185 | e185
      · skip
        refine ov_getf (v := ov_r 58) d_23_17 fl_OF_78 (zb_0 I181) (zs_0 I181) (congrArg ov_r e185) ?_
        refine ov_blk (ls2 := [(0, ov_r 0), (1, ov_i v178), (2, ov_r 58)]) (st2 := [ov_r 0, ov_r 0]) (pc2 := 23) b_23_20_3 rfl rfl ?_
        refine ov_getf (v := ov_r 70) d_23_23 fl_OF_82 (zb_0 I181) (zs_0 I181) (congrArg ov_r e183) ?_
        refine ov_putf (x := 70) d_23_26 fl_OF_78 (zb_0 I181) (zs_0 I181) rfl nk_2 rfl ?_
        have I186 := up_0_10 (x := 70) I181 (by omega)
        refine ov_blk (ls2 := [(0, ov_r 0), (1, ov_i v178), (2, ov_r 58)]) (st2 := [ov_r 58, ov_r 0]) (pc2 := 31) b_23_29_2 rfl rfl ?_
        refine ov_putf (x := 58) d_23_31 fl_OF_82 (zb_0 I186) (zs_0 I186) rfl nk_2 rfl ?_
        have I187 := up_0_11 (x := 58) I186 (by omega)
        refine ov_blk (ls2 := [(0, ov_r 0), (1, ov_i v178), (2, ov_r 58)]) (st2 := [ov_r 0]) (pc2 := 35) b_23_34_1 rfl rfl ?_
        rcases rg_0_12 I181 with e188 | e188
        · skip
          refine ov_getf (v := ov_r 82) d_23_35 fl_OF_88 (zb_0 I187) (zs_0 I187) (congrArg ov_r e188) ?_
          refine ov_cV (as := []) (st := []) (d2 := d - 1) d_23_38 lk_OF_113 rfl (Nat.le_of_ble_eq_true rfl) (c := 10) (zb_82 I187) (zs_82 I187) ⟨by decide, rfl⟩ (by omega) (c_Walk_clear_82 (d - 1) (by omega) U I187) ?_
          rintro _ z190 h191 ⟨rfl, I192, f189⟩
          show ov_R u d ov_m23 41 [(0, ov_r 0), (1, ov_i v178), (2, ov_r 58)] [] z190 h191 (P_OF_town_0 F z h)
          have f193 : (h191 36 7) = (h180 36 7) ∧ (h191 1 1) = (h180 1 1) ∧ (h191 90 2) = (h180 90 2) ∧ (h191 0 10) = 70 ∧ (h191 0 11) = 58 ∧ (h191 0 12) = (h180 0 12) ∧ (h191 0 13) = (h180 0 13) ∧ (h191 3 1) = (h180 3 1) ∧ (h191 36 8) = (h180 36 8) ∧ (h191 46 3) = (h180 46 3) ∧ (h191 46 4) = (h180 46 4) ∧ (h191 49 4) = (h180 49 4) ∧ (h191 49 5) = (h180 49 5) ∧ (h191 64 0) = (h180 64 0) ∧ (h191 76 0) = (h180 76 0) := f189
          clear f189
          have e194 : h191 0 10 = 70 := by omega
          have e195 : h191 0 11 = 58 := by omega
          have e196 : h191 0 12 = 82 := by omega
          refine ov_blk (ls2 := [(0, ov_r 0), (1, ov_i v178), (2, ov_r 58)]) (st2 := [ov_r 0]) (pc2 := 42) b_23_41_1 rfl rfl ?_
          refine ov_getf (v := ov_r 4) d_23_42 fl_OF_28 (zb_0 I192) (zs_0 I192) (congrArg ov_r (rg_0_2 I192)) ?_
          refine ov_cV (as := []) (st := []) (d2 := d - 1) d_23_45 lk_OF_114 rfl (Nat.le_of_ble_eq_true rfl) (c := 7) (zb_4 I192) (zs_4 I192) ⟨by decide, rfl⟩ (by omega) (c_State_clear_4 (d - 1) (by omega) U I192) ?_
          rintro _ z198 h199 ⟨rfl, I200, f197⟩
          show ov_R u d ov_m23 48 [(0, ov_r 0), (1, ov_i v178), (2, ov_r 58)] [] z198 h199 (P_OF_town_0 F z h)
          have f201 : (h199 36 7) = (h191 36 7) ∧ (h199 1 1) = (h191 1 1) ∧ (h199 90 2) = (h191 90 2) ∧ (h199 0 10) = (h191 0 10) ∧ (h199 0 11) = (h191 0 11) ∧ (h199 0 12) = (h191 0 12) ∧ (h199 0 13) = (h191 0 13) ∧ (h199 3 1) = (h191 3 1) ∧ (h199 36 8) = (h191 36 8) ∧ (h199 46 3) = (h191 46 3) ∧ (h199 46 4) = (h191 46 4) ∧ (h199 49 4) = (h191 49 4) ∧ (h199 49 5) = (h191 49 5) ∧ (h199 64 0) = (h191 64 0) ∧ (h199 76 0) = (h191 76 0) := f197
          clear f197
          have e202 : h199 0 10 = 70 := by omega
          have e203 : h199 0 11 = 58 := by omega
          have e204 : h199 0 12 = 82 := by omega
          refine ov_blk (ls2 := [(0, ov_r 0), (1, ov_i v178), (2, ov_r 58)]) (st2 := [ov_r 0]) (pc2 := 49) b_23_48_1 rfl rfl ?_
          refine ov_getf (v := ov_r 9) d_23_49 fl_OF_35 (zb_0 I200) (zs_0 I200) (congrArg ov_r (rg_0_3 I200)) ?_
          refine ov_cV (as := []) (st := []) (d2 := d - 1) d_23_52 lk_OF_115 rfl (Nat.le_of_ble_eq_true rfl) (c := 3) (zb_9 I200) (zs_9 I200) ⟨by decide, rfl⟩ (by omega) (c_History_clear_9 (d - 1) (by omega) U I200) ?_
          rintro _ z206 h207 ⟨rfl, I208, f205⟩
          show ov_R u d ov_m23 55 [(0, ov_r 0), (1, ov_i v178), (2, ov_r 58)] [] z206 h207 (P_OF_town_0 F z h)
          have f209 : (h207 36 7) = (h199 36 7) ∧ (h207 1 1) = (h199 1 1) ∧ (h207 90 2) = (h199 90 2) ∧ (h207 0 10) = (h199 0 10) ∧ (h207 0 11) = (h199 0 11) ∧ (h207 0 12) = (h199 0 12) ∧ (h207 0 13) = (h199 0 13) ∧ (h207 3 1) = (h199 3 1) ∧ (h207 36 8) = (h199 36 8) ∧ (h207 46 3) = (h199 46 3) ∧ (h207 46 4) = (h199 46 4) ∧ (h207 49 4) = (h199 49 4) ∧ (h207 49 5) = (h199 49 5) ∧ (h207 64 0) = (h199 64 0) ∧ (h207 76 0) = (h199 76 0) := f205
          clear f205
          have e210 : h207 0 10 = 70 := by omega
          have e211 : h207 0 11 = 58 := by omega
          have e212 : h207 0 12 = 82 := by omega
          refine ov_blk (ls2 := [(0, ov_r 0), (1, ov_i v178), (2, ov_r 58)]) (st2 := [ov_r 0]) (pc2 := 56) b_23_55_1 rfl rfl ?_
          refine ov_cV (as := []) (st := []) (d2 := d - 1) d_23_56 lk_OF_116 rfl (Nat.le_of_ble_eq_true rfl) (c := 0) (zb_0 I208) (zs_0 I208) ⟨by decide, rfl⟩ (by omega) (c_OF_forgetMarks_0 (d - 1) (by omega) U I208) ?_
          rintro _ z214 h215 ⟨rfl, I216, f213⟩
          show ov_R u d ov_m23 59 [(0, ov_r 0), (1, ov_i v178), (2, ov_r 58)] [] z214 h215 (P_OF_town_0 F z h)
          have f217 : (h215 36 7) = (h207 36 7) ∧ (h215 1 1) = (h207 1 1) ∧ (h215 90 2) = (h207 90 2) ∧ (h215 0 10) = (h207 0 10) ∧ (h215 0 11) = (h207 0 11) ∧ (h215 0 12) = (h207 0 12) ∧ (h215 0 13) = (h207 0 13) ∧ (h215 3 1) = (h207 3 1) ∧ (h215 36 8) = (h207 36 8) ∧ (h215 46 3) = (h207 46 3) ∧ (h215 46 4) = (h207 46 4) ∧ (h215 49 4) = (h207 49 4) ∧ (h215 49 5) = (h207 49 5) ∧ (h215 64 0) = (h207 64 0) ∧ (h215 76 0) = (h207 76 0) := f213
          clear f213
          have e218 : h215 0 10 = 70 := by omega
          have e219 : h215 0 11 = 58 := by omega
          have e220 : h215 0 12 = 82 := by omega
          refine ov_blk (ls2 := [(0, ov_r 0), (1, ov_i v178), (2, ov_r 58)]) (st2 := [ov_r 0]) (pc2 := 60) b_23_59_1 rfl rfl ?_
          refine ov_cV (as := []) (st := []) (d2 := d - 1) d_23_60 lk_OF_119 rfl (Nat.le_of_ble_eq_true rfl) (c := 0) (zb_0 I216) (zs_0 I216) ⟨by decide, rfl⟩ (by omega) (c_OF_forgetReckonings_0 (d - 1) (by omega) U I216) ?_
          rintro _ z222 h223 ⟨rfl, I224, f221⟩
          show ov_R u d ov_m23 63 [(0, ov_r 0), (1, ov_i v178), (2, ov_r 58)] [] z222 h223 (P_OF_town_0 F z h)
          have f225 : (h223 36 7) = 0 ∧ (h223 1 1) = (h215 1 1) ∧ (h223 90 2) = (h215 90 2) ∧ (h223 0 10) = (h215 0 10) ∧ (h223 0 11) = (h215 0 11) ∧ (h223 0 12) = (h215 0 12) ∧ (h223 0 13) = (h215 0 13) ∧ (h223 3 1) = (h215 3 1) ∧ (h223 36 8) = (h215 36 8) ∧ (h223 46 3) = (h215 46 3) ∧ (h223 46 4) = (h215 46 4) ∧ (h223 49 4) = (h215 49 4) ∧ (h223 49 5) = (h215 49 5) ∧ (h223 64 0) = (h215 64 0) ∧ (h223 76 0) = (h215 76 0) := f221
          clear f221
          have e226 : h223 0 10 = 70 := by omega
          have e227 : h223 0 11 = 58 := by omega
          have e228 : h223 0 12 = 82 := by omega
          refine ov_blk (ls2 := [(0, ov_r 0), (1, ov_i v178), (2, ov_r 58)]) (st2 := [ov_i v178]) (pc2 := 64) b_23_63_1 rfl rfl ?_
          exact ov_reti (st := []) d_23_64 rfl ⟨_, rfl, I224, (by show (h223 1 1) = 0 ∧ ((h223 36 7) = 1 → ¬ (h223 36 8) = -1) ∧ ((h223 0 10) = 58 ∧ (h223 0 11) = 70 ∧ 0 ≤ (h223 64 0) ∨ (h223 0 10) = 70 ∧ (h223 0 11) = 58 ∧ 0 ≤ (h223 76 0)) ∧ (h223 90 2) = (h 90 2) ∧ (h223 0 12) = (h 0 12) ∧ (h223 0 13) = (h 0 13) ∧ (h223 46 3) = (h 46 3) ∧ (h223 46 4) = (h 46 4) ∧ (h223 49 4) = (h 49 4) ∧ (h223 49 5) = (h 49 5); omega)⟩
        · skip
          refine ov_getf (v := ov_r 86) d_23_35 fl_OF_88 (zb_0 I187) (zs_0 I187) (congrArg ov_r e188) ?_
          refine ov_cV (as := []) (st := []) (d2 := d - 1) d_23_38 lk_OF_113 rfl (Nat.le_of_ble_eq_true rfl) (c := 10) (zb_86 I187) (zs_86 I187) ⟨by decide, rfl⟩ (by omega) (c_Walk_clear_86 (d - 1) (by omega) U I187) ?_
          rintro _ z230 h231 ⟨rfl, I232, f229⟩
          show ov_R u d ov_m23 41 [(0, ov_r 0), (1, ov_i v178), (2, ov_r 58)] [] z230 h231 (P_OF_town_0 F z h)
          have f233 : (h231 36 7) = (h180 36 7) ∧ (h231 1 1) = (h180 1 1) ∧ (h231 90 2) = (h180 90 2) ∧ (h231 0 10) = 70 ∧ (h231 0 11) = 58 ∧ (h231 0 12) = (h180 0 12) ∧ (h231 0 13) = (h180 0 13) ∧ (h231 3 1) = (h180 3 1) ∧ (h231 36 8) = (h180 36 8) ∧ (h231 46 3) = (h180 46 3) ∧ (h231 46 4) = (h180 46 4) ∧ (h231 49 4) = (h180 49 4) ∧ (h231 49 5) = (h180 49 5) ∧ (h231 64 0) = (h180 64 0) ∧ (h231 76 0) = (h180 76 0) := f229
          clear f229
          have e234 : h231 0 10 = 70 := by omega
          have e235 : h231 0 11 = 58 := by omega
          have e236 : h231 0 12 = 86 := by omega
          refine ov_blk (ls2 := [(0, ov_r 0), (1, ov_i v178), (2, ov_r 58)]) (st2 := [ov_r 0]) (pc2 := 42) b_23_41_1 rfl rfl ?_
          refine ov_getf (v := ov_r 4) d_23_42 fl_OF_28 (zb_0 I232) (zs_0 I232) (congrArg ov_r (rg_0_2 I232)) ?_
          refine ov_cV (as := []) (st := []) (d2 := d - 1) d_23_45 lk_OF_114 rfl (Nat.le_of_ble_eq_true rfl) (c := 7) (zb_4 I232) (zs_4 I232) ⟨by decide, rfl⟩ (by omega) (c_State_clear_4 (d - 1) (by omega) U I232) ?_
          rintro _ z238 h239 ⟨rfl, I240, f237⟩
          show ov_R u d ov_m23 48 [(0, ov_r 0), (1, ov_i v178), (2, ov_r 58)] [] z238 h239 (P_OF_town_0 F z h)
          have f241 : (h239 36 7) = (h231 36 7) ∧ (h239 1 1) = (h231 1 1) ∧ (h239 90 2) = (h231 90 2) ∧ (h239 0 10) = (h231 0 10) ∧ (h239 0 11) = (h231 0 11) ∧ (h239 0 12) = (h231 0 12) ∧ (h239 0 13) = (h231 0 13) ∧ (h239 3 1) = (h231 3 1) ∧ (h239 36 8) = (h231 36 8) ∧ (h239 46 3) = (h231 46 3) ∧ (h239 46 4) = (h231 46 4) ∧ (h239 49 4) = (h231 49 4) ∧ (h239 49 5) = (h231 49 5) ∧ (h239 64 0) = (h231 64 0) ∧ (h239 76 0) = (h231 76 0) := f237
          clear f237
          have e242 : h239 0 10 = 70 := by omega
          have e243 : h239 0 11 = 58 := by omega
          have e244 : h239 0 12 = 86 := by omega
          refine ov_blk (ls2 := [(0, ov_r 0), (1, ov_i v178), (2, ov_r 58)]) (st2 := [ov_r 0]) (pc2 := 49) b_23_48_1 rfl rfl ?_
          refine ov_getf (v := ov_r 9) d_23_49 fl_OF_35 (zb_0 I240) (zs_0 I240) (congrArg ov_r (rg_0_3 I240)) ?_
          refine ov_cV (as := []) (st := []) (d2 := d - 1) d_23_52 lk_OF_115 rfl (Nat.le_of_ble_eq_true rfl) (c := 3) (zb_9 I240) (zs_9 I240) ⟨by decide, rfl⟩ (by omega) (c_History_clear_9 (d - 1) (by omega) U I240) ?_
          rintro _ z246 h247 ⟨rfl, I248, f245⟩
          show ov_R u d ov_m23 55 [(0, ov_r 0), (1, ov_i v178), (2, ov_r 58)] [] z246 h247 (P_OF_town_0 F z h)
          have f249 : (h247 36 7) = (h239 36 7) ∧ (h247 1 1) = (h239 1 1) ∧ (h247 90 2) = (h239 90 2) ∧ (h247 0 10) = (h239 0 10) ∧ (h247 0 11) = (h239 0 11) ∧ (h247 0 12) = (h239 0 12) ∧ (h247 0 13) = (h239 0 13) ∧ (h247 3 1) = (h239 3 1) ∧ (h247 36 8) = (h239 36 8) ∧ (h247 46 3) = (h239 46 3) ∧ (h247 46 4) = (h239 46 4) ∧ (h247 49 4) = (h239 49 4) ∧ (h247 49 5) = (h239 49 5) ∧ (h247 64 0) = (h239 64 0) ∧ (h247 76 0) = (h239 76 0) := f245
          clear f245
          have e250 : h247 0 10 = 70 := by omega
          have e251 : h247 0 11 = 58 := by omega
          have e252 : h247 0 12 = 86 := by omega
          refine ov_blk (ls2 := [(0, ov_r 0), (1, ov_i v178), (2, ov_r 58)]) (st2 := [ov_r 0]) (pc2 := 56) b_23_55_1 rfl rfl ?_
          refine ov_cV (as := []) (st := []) (d2 := d - 1) d_23_56 lk_OF_116 rfl (Nat.le_of_ble_eq_true rfl) (c := 0) (zb_0 I248) (zs_0 I248) ⟨by decide, rfl⟩ (by omega) (c_OF_forgetMarks_0 (d - 1) (by omega) U I248) ?_
          rintro _ z254 h255 ⟨rfl, I256, f253⟩
          show ov_R u d ov_m23 59 [(0, ov_r 0), (1, ov_i v178), (2, ov_r 58)] [] z254 h255 (P_OF_town_0 F z h)
          have f257 : (h255 36 7) = (h247 36 7) ∧ (h255 1 1) = (h247 1 1) ∧ (h255 90 2) = (h247 90 2) ∧ (h255 0 10) = (h247 0 10) ∧ (h255 0 11) = (h247 0 11) ∧ (h255 0 12) = (h247 0 12) ∧ (h255 0 13) = (h247 0 13) ∧ (h255 3 1) = (h247 3 1) ∧ (h255 36 8) = (h247 36 8) ∧ (h255 46 3) = (h247 46 3) ∧ (h255 46 4) = (h247 46 4) ∧ (h255 49 4) = (h247 49 4) ∧ (h255 49 5) = (h247 49 5) ∧ (h255 64 0) = (h247 64 0) ∧ (h255 76 0) = (h247 76 0) := f253
          clear f253
          have e258 : h255 0 10 = 70 := by omega
          have e259 : h255 0 11 = 58 := by omega
          have e260 : h255 0 12 = 86 := by omega
          refine ov_blk (ls2 := [(0, ov_r 0), (1, ov_i v178), (2, ov_r 58)]) (st2 := [ov_r 0]) (pc2 := 60) b_23_59_1 rfl rfl ?_
          refine ov_cV (as := []) (st := []) (d2 := d - 1) d_23_60 lk_OF_119 rfl (Nat.le_of_ble_eq_true rfl) (c := 0) (zb_0 I256) (zs_0 I256) ⟨by decide, rfl⟩ (by omega) (c_OF_forgetReckonings_0 (d - 1) (by omega) U I256) ?_
          rintro _ z262 h263 ⟨rfl, I264, f261⟩
          show ov_R u d ov_m23 63 [(0, ov_r 0), (1, ov_i v178), (2, ov_r 58)] [] z262 h263 (P_OF_town_0 F z h)
          have f265 : (h263 36 7) = 0 ∧ (h263 1 1) = (h255 1 1) ∧ (h263 90 2) = (h255 90 2) ∧ (h263 0 10) = (h255 0 10) ∧ (h263 0 11) = (h255 0 11) ∧ (h263 0 12) = (h255 0 12) ∧ (h263 0 13) = (h255 0 13) ∧ (h263 3 1) = (h255 3 1) ∧ (h263 36 8) = (h255 36 8) ∧ (h263 46 3) = (h255 46 3) ∧ (h263 46 4) = (h255 46 4) ∧ (h263 49 4) = (h255 49 4) ∧ (h263 49 5) = (h255 49 5) ∧ (h263 64 0) = (h255 64 0) ∧ (h263 76 0) = (h255 76 0) := f261
          clear f261
          have e266 : h263 0 10 = 70 := by omega
          have e267 : h263 0 11 = 58 := by omega
          have e268 : h263 0 12 = 86 := by omega
          refine ov_blk (ls2 := [(0, ov_r 0), (1, ov_i v178), (2, ov_r 58)]) (st2 := [ov_i v178]) (pc2 := 64) b_23_63_1 rfl rfl ?_
          exact ov_reti (st := []) d_23_64 rfl ⟨_, rfl, I264, (by show (h263 1 1) = 0 ∧ ((h263 36 7) = 1 → ¬ (h263 36 8) = -1) ∧ ((h263 0 10) = 58 ∧ (h263 0 11) = 70 ∧ 0 ≤ (h263 64 0) ∨ (h263 0 10) = 70 ∧ (h263 0 11) = 58 ∧ 0 ≤ (h263 76 0)) ∧ (h263 90 2) = (h 90 2) ∧ (h263 0 12) = (h 0 12) ∧ (h263 0 13) = (h 0 13) ∧ (h263 46 3) = (h 46 3) ∧ (h263 46 4) = (h 46 4) ∧ (h263 49 4) = (h 49 4) ∧ (h263 49 5) = (h 49 5); omega)⟩
      · skip
        refine ov_getf (v := ov_r 70) d_23_17 fl_OF_78 (zb_0 I181) (zs_0 I181) (congrArg ov_r e185) ?_
        refine ov_blk (ls2 := [(0, ov_r 0), (1, ov_i v178), (2, ov_r 70)]) (st2 := [ov_r 0, ov_r 0]) (pc2 := 23) b_23_20_3 rfl rfl ?_
        refine ov_getf (v := ov_r 70) d_23_23 fl_OF_82 (zb_0 I181) (zs_0 I181) (congrArg ov_r e183) ?_
        refine ov_putf (x := 70) d_23_26 fl_OF_78 (zb_0 I181) (zs_0 I181) rfl nk_2 rfl ?_
        have I269 := up_0_10 (x := 70) I181 (by omega)
        refine ov_blk (ls2 := [(0, ov_r 0), (1, ov_i v178), (2, ov_r 70)]) (st2 := [ov_r 70, ov_r 0]) (pc2 := 31) b_23_29_2 rfl rfl ?_
        refine ov_putf (x := 70) d_23_31 fl_OF_82 (zb_0 I269) (zs_0 I269) rfl nk_2 rfl ?_
        have I270 := up_0_11 (x := 70) I269 (by omega)
        refine ov_blk (ls2 := [(0, ov_r 0), (1, ov_i v178), (2, ov_r 70)]) (st2 := [ov_r 0]) (pc2 := 35) b_23_34_1 rfl rfl ?_
        rcases rg_0_12 I181 with e271 | e271
        · skip
          refine ov_getf (v := ov_r 82) d_23_35 fl_OF_88 (zb_0 I270) (zs_0 I270) (congrArg ov_r e271) ?_
          refine ov_cV (as := []) (st := []) (d2 := d - 1) d_23_38 lk_OF_113 rfl (Nat.le_of_ble_eq_true rfl) (c := 10) (zb_82 I270) (zs_82 I270) ⟨by decide, rfl⟩ (by omega) (c_Walk_clear_82 (d - 1) (by omega) U I270) ?_
          rintro _ z273 h274 ⟨rfl, I275, f272⟩
          show ov_R u d ov_m23 41 [(0, ov_r 0), (1, ov_i v178), (2, ov_r 70)] [] z273 h274 (P_OF_town_0 F z h)
          have f276 : (h274 36 7) = (h180 36 7) ∧ (h274 1 1) = (h180 1 1) ∧ (h274 90 2) = (h180 90 2) ∧ (h274 0 10) = 70 ∧ (h274 0 11) = 70 ∧ (h274 0 12) = (h180 0 12) ∧ (h274 0 13) = (h180 0 13) ∧ (h274 3 1) = (h180 3 1) ∧ (h274 36 8) = (h180 36 8) ∧ (h274 46 3) = (h180 46 3) ∧ (h274 46 4) = (h180 46 4) ∧ (h274 49 4) = (h180 49 4) ∧ (h274 49 5) = (h180 49 5) ∧ (h274 64 0) = (h180 64 0) ∧ (h274 76 0) = (h180 76 0) := f272
          clear f272
          have e277 : h274 0 10 = 70 := by omega
          have e278 : h274 0 11 = 70 := by omega
          have e279 : h274 0 12 = 82 := by omega
          refine ov_blk (ls2 := [(0, ov_r 0), (1, ov_i v178), (2, ov_r 70)]) (st2 := [ov_r 0]) (pc2 := 42) b_23_41_1 rfl rfl ?_
          refine ov_getf (v := ov_r 4) d_23_42 fl_OF_28 (zb_0 I275) (zs_0 I275) (congrArg ov_r (rg_0_2 I275)) ?_
          refine ov_cV (as := []) (st := []) (d2 := d - 1) d_23_45 lk_OF_114 rfl (Nat.le_of_ble_eq_true rfl) (c := 7) (zb_4 I275) (zs_4 I275) ⟨by decide, rfl⟩ (by omega) (c_State_clear_4 (d - 1) (by omega) U I275) ?_
          rintro _ z281 h282 ⟨rfl, I283, f280⟩
          show ov_R u d ov_m23 48 [(0, ov_r 0), (1, ov_i v178), (2, ov_r 70)] [] z281 h282 (P_OF_town_0 F z h)
          have f284 : (h282 36 7) = (h274 36 7) ∧ (h282 1 1) = (h274 1 1) ∧ (h282 90 2) = (h274 90 2) ∧ (h282 0 10) = (h274 0 10) ∧ (h282 0 11) = (h274 0 11) ∧ (h282 0 12) = (h274 0 12) ∧ (h282 0 13) = (h274 0 13) ∧ (h282 3 1) = (h274 3 1) ∧ (h282 36 8) = (h274 36 8) ∧ (h282 46 3) = (h274 46 3) ∧ (h282 46 4) = (h274 46 4) ∧ (h282 49 4) = (h274 49 4) ∧ (h282 49 5) = (h274 49 5) ∧ (h282 64 0) = (h274 64 0) ∧ (h282 76 0) = (h274 76 0) := f280
          clear f280
          have e285 : h282 0 10 = 70 := by omega
          have e286 : h282 0 11 = 70 := by omega
          have e287 : h282 0 12 = 82 := by omega
          refine ov_blk (ls2 := [(0, ov_r 0), (1, ov_i v178), (2, ov_r 70)]) (st2 := [ov_r 0]) (pc2 := 49) b_23_48_1 rfl rfl ?_
          refine ov_getf (v := ov_r 9) d_23_49 fl_OF_35 (zb_0 I283) (zs_0 I283) (congrArg ov_r (rg_0_3 I283)) ?_
          refine ov_cV (as := []) (st := []) (d2 := d - 1) d_23_52 lk_OF_115 rfl (Nat.le_of_ble_eq_true rfl) (c := 3) (zb_9 I283) (zs_9 I283) ⟨by decide, rfl⟩ (by omega) (c_History_clear_9 (d - 1) (by omega) U I283) ?_
          rintro _ z289 h290 ⟨rfl, I291, f288⟩
          show ov_R u d ov_m23 55 [(0, ov_r 0), (1, ov_i v178), (2, ov_r 70)] [] z289 h290 (P_OF_town_0 F z h)
          have f292 : (h290 36 7) = (h282 36 7) ∧ (h290 1 1) = (h282 1 1) ∧ (h290 90 2) = (h282 90 2) ∧ (h290 0 10) = (h282 0 10) ∧ (h290 0 11) = (h282 0 11) ∧ (h290 0 12) = (h282 0 12) ∧ (h290 0 13) = (h282 0 13) ∧ (h290 3 1) = (h282 3 1) ∧ (h290 36 8) = (h282 36 8) ∧ (h290 46 3) = (h282 46 3) ∧ (h290 46 4) = (h282 46 4) ∧ (h290 49 4) = (h282 49 4) ∧ (h290 49 5) = (h282 49 5) ∧ (h290 64 0) = (h282 64 0) ∧ (h290 76 0) = (h282 76 0) := f288
          clear f288
          have e293 : h290 0 10 = 70 := by omega
          have e294 : h290 0 11 = 70 := by omega
          have e295 : h290 0 12 = 82 := by omega
          refine ov_blk (ls2 := [(0, ov_r 0), (1, ov_i v178), (2, ov_r 70)]) (st2 := [ov_r 0]) (pc2 := 56) b_23_55_1 rfl rfl ?_
          refine ov_cV (as := []) (st := []) (d2 := d - 1) d_23_56 lk_OF_116 rfl (Nat.le_of_ble_eq_true rfl) (c := 0) (zb_0 I291) (zs_0 I291) ⟨by decide, rfl⟩ (by omega) (c_OF_forgetMarks_0 (d - 1) (by omega) U I291) ?_
          rintro _ z297 h298 ⟨rfl, I299, f296⟩
          show ov_R u d ov_m23 59 [(0, ov_r 0), (1, ov_i v178), (2, ov_r 70)] [] z297 h298 (P_OF_town_0 F z h)
          have f300 : (h298 36 7) = (h290 36 7) ∧ (h298 1 1) = (h290 1 1) ∧ (h298 90 2) = (h290 90 2) ∧ (h298 0 10) = (h290 0 10) ∧ (h298 0 11) = (h290 0 11) ∧ (h298 0 12) = (h290 0 12) ∧ (h298 0 13) = (h290 0 13) ∧ (h298 3 1) = (h290 3 1) ∧ (h298 36 8) = (h290 36 8) ∧ (h298 46 3) = (h290 46 3) ∧ (h298 46 4) = (h290 46 4) ∧ (h298 49 4) = (h290 49 4) ∧ (h298 49 5) = (h290 49 5) ∧ (h298 64 0) = (h290 64 0) ∧ (h298 76 0) = (h290 76 0) := f296
          clear f296
          have e301 : h298 0 10 = 70 := by omega
          have e302 : h298 0 11 = 70 := by omega
          have e303 : h298 0 12 = 82 := by omega
          refine ov_blk (ls2 := [(0, ov_r 0), (1, ov_i v178), (2, ov_r 70)]) (st2 := [ov_r 0]) (pc2 := 60) b_23_59_1 rfl rfl ?_
          refine ov_cV (as := []) (st := []) (d2 := d - 1) d_23_60 lk_OF_119 rfl (Nat.le_of_ble_eq_true rfl) (c := 0) (zb_0 I299) (zs_0 I299) ⟨by decide, rfl⟩ (by omega) (c_OF_forgetReckonings_0 (d - 1) (by omega) U I299) ?_
          rintro _ z305 h306 ⟨rfl, I307, f304⟩
          show ov_R u d ov_m23 63 [(0, ov_r 0), (1, ov_i v178), (2, ov_r 70)] [] z305 h306 (P_OF_town_0 F z h)
          have f308 : (h306 36 7) = 0 ∧ (h306 1 1) = (h298 1 1) ∧ (h306 90 2) = (h298 90 2) ∧ (h306 0 10) = (h298 0 10) ∧ (h306 0 11) = (h298 0 11) ∧ (h306 0 12) = (h298 0 12) ∧ (h306 0 13) = (h298 0 13) ∧ (h306 3 1) = (h298 3 1) ∧ (h306 36 8) = (h298 36 8) ∧ (h306 46 3) = (h298 46 3) ∧ (h306 46 4) = (h298 46 4) ∧ (h306 49 4) = (h298 49 4) ∧ (h306 49 5) = (h298 49 5) ∧ (h306 64 0) = (h298 64 0) ∧ (h306 76 0) = (h298 76 0) := f304
          clear f304
          have e309 : h306 0 10 = 70 := by omega
          have e310 : h306 0 11 = 70 := by omega
          have e311 : h306 0 12 = 82 := by omega
          refine ov_blk (ls2 := [(0, ov_r 0), (1, ov_i v178), (2, ov_r 70)]) (st2 := [ov_i v178]) (pc2 := 64) b_23_63_1 rfl rfl ?_
          exact ov_reti (st := []) d_23_64 rfl ⟨_, rfl, I307, (by show (h306 1 1) = 0 ∧ ((h306 36 7) = 1 → ¬ (h306 36 8) = -1) ∧ ((h306 0 10) = 58 ∧ (h306 0 11) = 70 ∧ 0 ≤ (h306 64 0) ∨ (h306 0 10) = 70 ∧ (h306 0 11) = 58 ∧ 0 ≤ (h306 76 0)) ∧ (h306 90 2) = (h 90 2) ∧ (h306 0 12) = (h 0 12) ∧ (h306 0 13) = (h 0 13) ∧ (h306 46 3) = (h 46 3) ∧ (h306 46 4) = (h 46 4) ∧ (h306 49 4) = (h 49 4) ∧ (h306 49 5) = (h 49 5); omega)⟩
        · skip
          refine ov_getf (v := ov_r 86) d_23_35 fl_OF_88 (zb_0 I270) (zs_0 I270) (congrArg ov_r e271) ?_
          refine ov_cV (as := []) (st := []) (d2 := d - 1) d_23_38 lk_OF_113 rfl (Nat.le_of_ble_eq_true rfl) (c := 10) (zb_86 I270) (zs_86 I270) ⟨by decide, rfl⟩ (by omega) (c_Walk_clear_86 (d - 1) (by omega) U I270) ?_
          rintro _ z313 h314 ⟨rfl, I315, f312⟩
          show ov_R u d ov_m23 41 [(0, ov_r 0), (1, ov_i v178), (2, ov_r 70)] [] z313 h314 (P_OF_town_0 F z h)
          have f316 : (h314 36 7) = (h180 36 7) ∧ (h314 1 1) = (h180 1 1) ∧ (h314 90 2) = (h180 90 2) ∧ (h314 0 10) = 70 ∧ (h314 0 11) = 70 ∧ (h314 0 12) = (h180 0 12) ∧ (h314 0 13) = (h180 0 13) ∧ (h314 3 1) = (h180 3 1) ∧ (h314 36 8) = (h180 36 8) ∧ (h314 46 3) = (h180 46 3) ∧ (h314 46 4) = (h180 46 4) ∧ (h314 49 4) = (h180 49 4) ∧ (h314 49 5) = (h180 49 5) ∧ (h314 64 0) = (h180 64 0) ∧ (h314 76 0) = (h180 76 0) := f312
          clear f312
          have e317 : h314 0 10 = 70 := by omega
          have e318 : h314 0 11 = 70 := by omega
          have e319 : h314 0 12 = 86 := by omega
          refine ov_blk (ls2 := [(0, ov_r 0), (1, ov_i v178), (2, ov_r 70)]) (st2 := [ov_r 0]) (pc2 := 42) b_23_41_1 rfl rfl ?_
          refine ov_getf (v := ov_r 4) d_23_42 fl_OF_28 (zb_0 I315) (zs_0 I315) (congrArg ov_r (rg_0_2 I315)) ?_
          refine ov_cV (as := []) (st := []) (d2 := d - 1) d_23_45 lk_OF_114 rfl (Nat.le_of_ble_eq_true rfl) (c := 7) (zb_4 I315) (zs_4 I315) ⟨by decide, rfl⟩ (by omega) (c_State_clear_4 (d - 1) (by omega) U I315) ?_
          rintro _ z321 h322 ⟨rfl, I323, f320⟩
          show ov_R u d ov_m23 48 [(0, ov_r 0), (1, ov_i v178), (2, ov_r 70)] [] z321 h322 (P_OF_town_0 F z h)
          have f324 : (h322 36 7) = (h314 36 7) ∧ (h322 1 1) = (h314 1 1) ∧ (h322 90 2) = (h314 90 2) ∧ (h322 0 10) = (h314 0 10) ∧ (h322 0 11) = (h314 0 11) ∧ (h322 0 12) = (h314 0 12) ∧ (h322 0 13) = (h314 0 13) ∧ (h322 3 1) = (h314 3 1) ∧ (h322 36 8) = (h314 36 8) ∧ (h322 46 3) = (h314 46 3) ∧ (h322 46 4) = (h314 46 4) ∧ (h322 49 4) = (h314 49 4) ∧ (h322 49 5) = (h314 49 5) ∧ (h322 64 0) = (h314 64 0) ∧ (h322 76 0) = (h314 76 0) := f320
          clear f320
          have e325 : h322 0 10 = 70 := by omega
          have e326 : h322 0 11 = 70 := by omega
          have e327 : h322 0 12 = 86 := by omega
          refine ov_blk (ls2 := [(0, ov_r 0), (1, ov_i v178), (2, ov_r 70)]) (st2 := [ov_r 0]) (pc2 := 49) b_23_48_1 rfl rfl ?_
          refine ov_getf (v := ov_r 9) d_23_49 fl_OF_35 (zb_0 I323) (zs_0 I323) (congrArg ov_r (rg_0_3 I323)) ?_
          refine ov_cV (as := []) (st := []) (d2 := d - 1) d_23_52 lk_OF_115 rfl (Nat.le_of_ble_eq_true rfl) (c := 3) (zb_9 I323) (zs_9 I323) ⟨by decide, rfl⟩ (by omega) (c_History_clear_9 (d - 1) (by omega) U I323) ?_
          rintro _ z329 h330 ⟨rfl, I331, f328⟩
          show ov_R u d ov_m23 55 [(0, ov_r 0), (1, ov_i v178), (2, ov_r 70)] [] z329 h330 (P_OF_town_0 F z h)
          have f332 : (h330 36 7) = (h322 36 7) ∧ (h330 1 1) = (h322 1 1) ∧ (h330 90 2) = (h322 90 2) ∧ (h330 0 10) = (h322 0 10) ∧ (h330 0 11) = (h322 0 11) ∧ (h330 0 12) = (h322 0 12) ∧ (h330 0 13) = (h322 0 13) ∧ (h330 3 1) = (h322 3 1) ∧ (h330 36 8) = (h322 36 8) ∧ (h330 46 3) = (h322 46 3) ∧ (h330 46 4) = (h322 46 4) ∧ (h330 49 4) = (h322 49 4) ∧ (h330 49 5) = (h322 49 5) ∧ (h330 64 0) = (h322 64 0) ∧ (h330 76 0) = (h322 76 0) := f328
          clear f328
          have e333 : h330 0 10 = 70 := by omega
          have e334 : h330 0 11 = 70 := by omega
          have e335 : h330 0 12 = 86 := by omega
          refine ov_blk (ls2 := [(0, ov_r 0), (1, ov_i v178), (2, ov_r 70)]) (st2 := [ov_r 0]) (pc2 := 56) b_23_55_1 rfl rfl ?_
          refine ov_cV (as := []) (st := []) (d2 := d - 1) d_23_56 lk_OF_116 rfl (Nat.le_of_ble_eq_true rfl) (c := 0) (zb_0 I331) (zs_0 I331) ⟨by decide, rfl⟩ (by omega) (c_OF_forgetMarks_0 (d - 1) (by omega) U I331) ?_
          rintro _ z337 h338 ⟨rfl, I339, f336⟩
          show ov_R u d ov_m23 59 [(0, ov_r 0), (1, ov_i v178), (2, ov_r 70)] [] z337 h338 (P_OF_town_0 F z h)
          have f340 : (h338 36 7) = (h330 36 7) ∧ (h338 1 1) = (h330 1 1) ∧ (h338 90 2) = (h330 90 2) ∧ (h338 0 10) = (h330 0 10) ∧ (h338 0 11) = (h330 0 11) ∧ (h338 0 12) = (h330 0 12) ∧ (h338 0 13) = (h330 0 13) ∧ (h338 3 1) = (h330 3 1) ∧ (h338 36 8) = (h330 36 8) ∧ (h338 46 3) = (h330 46 3) ∧ (h338 46 4) = (h330 46 4) ∧ (h338 49 4) = (h330 49 4) ∧ (h338 49 5) = (h330 49 5) ∧ (h338 64 0) = (h330 64 0) ∧ (h338 76 0) = (h330 76 0) := f336
          clear f336
          have e341 : h338 0 10 = 70 := by omega
          have e342 : h338 0 11 = 70 := by omega
          have e343 : h338 0 12 = 86 := by omega
          refine ov_blk (ls2 := [(0, ov_r 0), (1, ov_i v178), (2, ov_r 70)]) (st2 := [ov_r 0]) (pc2 := 60) b_23_59_1 rfl rfl ?_
          refine ov_cV (as := []) (st := []) (d2 := d - 1) d_23_60 lk_OF_119 rfl (Nat.le_of_ble_eq_true rfl) (c := 0) (zb_0 I339) (zs_0 I339) ⟨by decide, rfl⟩ (by omega) (c_OF_forgetReckonings_0 (d - 1) (by omega) U I339) ?_
          rintro _ z345 h346 ⟨rfl, I347, f344⟩
          show ov_R u d ov_m23 63 [(0, ov_r 0), (1, ov_i v178), (2, ov_r 70)] [] z345 h346 (P_OF_town_0 F z h)
          have f348 : (h346 36 7) = 0 ∧ (h346 1 1) = (h338 1 1) ∧ (h346 90 2) = (h338 90 2) ∧ (h346 0 10) = (h338 0 10) ∧ (h346 0 11) = (h338 0 11) ∧ (h346 0 12) = (h338 0 12) ∧ (h346 0 13) = (h338 0 13) ∧ (h346 3 1) = (h338 3 1) ∧ (h346 36 8) = (h338 36 8) ∧ (h346 46 3) = (h338 46 3) ∧ (h346 46 4) = (h338 46 4) ∧ (h346 49 4) = (h338 49 4) ∧ (h346 49 5) = (h338 49 5) ∧ (h346 64 0) = (h338 64 0) ∧ (h346 76 0) = (h338 76 0) := f344
          clear f344
          have e349 : h346 0 10 = 70 := by omega
          have e350 : h346 0 11 = 70 := by omega
          have e351 : h346 0 12 = 86 := by omega
          refine ov_blk (ls2 := [(0, ov_r 0), (1, ov_i v178), (2, ov_r 70)]) (st2 := [ov_i v178]) (pc2 := 64) b_23_63_1 rfl rfl ?_
          exact ov_reti (st := []) d_23_64 rfl ⟨_, rfl, I347, (by show (h346 1 1) = 0 ∧ ((h346 36 7) = 1 → ¬ (h346 36 8) = -1) ∧ ((h346 0 10) = 58 ∧ (h346 0 11) = 70 ∧ 0 ≤ (h346 64 0) ∨ (h346 0 10) = 70 ∧ (h346 0 11) = 58 ∧ 0 ≤ (h346 76 0)) ∧ (h346 90 2) = (h 90 2) ∧ (h346 0 12) = (h 0 12) ∧ (h346 0 13) = (h 0 13) ∧ (h346 46 3) = (h 46 3) ∧ (h346 46 4) = (h 46 4) ∧ (h346 49 4) = (h 49 4) ∧ (h346 49 5) = (h 49 5); omega)⟩
abbrev P_OF_walk_0 (F : ov_H) (z : ov_Z) (h : ov_H)  : Option ov_V → ov_Z → ov_H → Prop := fun r0 z' h' => ∃ r : Int, r0 = some (ov_i r) ∧ ov_I F z' h' ∧ ((h' 1 1) = 0 ∧ (h' 36 7) = (h 36 7) ∧ (h' 90 2) = (h 90 2) ∧ (h' 0 10) = (h 0 10) ∧ (h' 0 11) = (h 0 11) ∧ (h' 36 8) = (h 36 8) ∧ (h' 46 3) = (h 46 3) ∧ (h' 46 4) = (h 46 4) ∧ (h' 49 4) = (h 49 4) ∧ (h' 49 5) = (h 49 5) ∧ (h' 64 0) = (h 64 0) ∧ (h' 76 0) = (h 76 0))
set_option maxHeartbeats 4000000 in
theorem c_OF_walk_0 {u : ov_U} {F : ov_H} {z : ov_Z} {h : ov_H} (d : Nat) (hd : 50 ≤ d) (U : ov_cap u) (I : ov_I F z h) : ov_T u d ov_m88 [ov_r 0] z h (P_OF_walk_0 F z h) := by
  refine ov_en rfl (Nat.le_of_ble_eq_true rfl) ?_
  show ov_R u d ov_m88 0 [(0, ov_r 0)] [] z h (P_OF_walk_0 F z h)
  refine ov_blk (ls2 := [(0, ov_r 0)]) (st2 := [ov_r 0]) (pc2 := 1) b_88_0_1 rfl rfl ?_
  refine ov_getf (v := ov_r 3) d_88_1 fl_OF_21 (zb_0 I) (zs_0 I) (congrArg ov_r (rg_0_1 I)) ?_
  refine ov_blk (ls2 := [(0, ov_r 0)]) (st2 := [ov_r 0, ov_r 3]) (pc2 := 5) b_88_4_1 rfl rfl ?_
  rcases rg_0_10 I with e1 | e1
  · skip
    refine ov_getf (v := ov_r 58) d_88_5 fl_OF_78 (zb_0 I) (zs_0 I) (congrArg ov_r e1) ?_
    refine ov_blk (ls2 := [(0, ov_r 0)]) (st2 := [ov_r 0, ov_r 58, ov_r 3]) (pc2 := 9) b_88_8_1 rfl rfl ?_
    rcases rg_0_13 I with e2 | e2
    · skip
      refine ov_getf (v := ov_r 82) d_88_9 fl_OF_92 (zb_0 I) (zs_0 I) (congrArg ov_r e2) ?_
      refine ov_cV (as := [ov_r 58, ov_r 82]) (st := []) (d2 := d - 1) d_88_12 lk_OF_122 rfl (Nat.le_of_ble_eq_true rfl) (c := 6) (zb_3 I) (zs_3 I) ⟨by decide, rfl⟩ (by omega) (c_Reader_readWalk_3_58_82 (d - 1) (by omega) U I) ?_
      rintro _ z5 h6 ⟨v4, rfl, I7, f3⟩
      show ov_R u d ov_m88 15 [(0, ov_r 0)] [ov_i v4] z5 h6 (P_OF_walk_0 F z h)
      have f8 : (h6 1 1) = 0 ∧ (h6 36 7) = (h 36 7) ∧ (h6 90 2) = (h 90 2) ∧ (h6 0 10) = (h 0 10) ∧ (h6 0 11) = (h 0 11) ∧ (h6 0 12) = (h 0 12) ∧ (h6 0 13) = (h 0 13) ∧ (h6 36 8) = (h 36 8) ∧ (h6 46 3) = (h 46 3) ∧ (h6 46 4) = (h 46 4) ∧ (h6 49 4) = (h 49 4) ∧ (h6 49 5) = (h 49 5) ∧ (h6 64 0) = (h 64 0) ∧ (h6 76 0) = (h 76 0) := f3
      clear f3
      have e9 : h6 0 10 = 58 := by omega
      have e10 : h6 0 13 = 82 := by omega
      refine ov_havw (fun w11 gw11 qw11 => ?_)
      refine ov_blk (ls2 := [(0, ov_r 0), (1, ov_i w11)]) (st2 := [ov_i w11]) (pc2 := 17) b_88_15_2 rfl rfl ?_
      refine ov_ifne (tgt := 45) d_88_17 (by decide) (by omega) (fun c12 => ?_) (fun c12 => ?_)
      · skip
        refine ov_blk (ls2 := [(0, ov_r 0), (1, ov_i w11)]) (st2 := [ov_i w11]) (pc2 := 46) b_88_45_1 rfl rfl ?_
        exact ov_reti (st := []) d_88_46 rfl ⟨_, rfl, I7, (by show (h6 1 1) = 0 ∧ (h6 36 7) = (h 36 7) ∧ (h6 90 2) = (h 90 2) ∧ (h6 0 10) = (h 0 10) ∧ (h6 0 11) = (h 0 11) ∧ (h6 36 8) = (h 36 8) ∧ (h6 46 3) = (h 46 3) ∧ (h6 46 4) = (h 46 4) ∧ (h6 49 4) = (h 49 4) ∧ (h6 49 5) = (h 49 5) ∧ (h6 64 0) = (h 64 0) ∧ (h6 76 0) = (h 76 0); omega)⟩
      · skip
        refine ov_blk (ls2 := [(0, ov_r 0), (1, ov_i w11)]) (st2 := [ov_r 0]) (pc2 := 21) b_88_20_1 rfl rfl ?_
        rcases rg_0_12 I7 with e13 | e13
        · skip
          refine ov_getf (v := ov_r 82) d_88_21 fl_OF_88 (zb_0 I7) (zs_0 I7) (congrArg ov_r e13) ?_
          refine ov_blk (ls2 := [(0, ov_r 0), (1, ov_i w11), (2, ov_r 82)]) (st2 := [ov_r 0, ov_r 0]) (pc2 := 27) b_88_24_3 rfl rfl ?_
          refine ov_getf (v := ov_r 82) d_88_27 fl_OF_92 (zb_0 I7) (zs_0 I7) (congrArg ov_r e10) ?_
          refine ov_putf (x := 82) d_88_30 fl_OF_88 (zb_0 I7) (zs_0 I7) rfl nk_2 rfl ?_
          have I14 := up_0_12 (x := 82) I7 (by omega)
          refine ov_blk (ls2 := [(0, ov_r 0), (1, ov_i w11), (2, ov_r 82)]) (st2 := [ov_r 82, ov_r 0]) (pc2 := 35) b_88_33_2 rfl rfl ?_
          refine ov_putf (x := 82) d_88_35 fl_OF_92 (zb_0 I14) (zs_0 I14) rfl nk_2 rfl ?_
          have I15 := up_0_13 (x := 82) I14 (by omega)
          refine ov_blk (ls2 := [(0, ov_r 0), (1, ov_i w11), (2, ov_r 82)]) (st2 := [ov_r 0]) (pc2 := 39) b_88_38_1 rfl rfl ?_
          refine ov_getf (v := ov_r 49) d_88_39 fl_OF_64 (zb_0 I15) (zs_0 I15) (congrArg ov_r (rg_0_8 I15)) ?_
          refine ov_cV (as := []) (st := []) (d2 := d - 1) d_88_42 lk_OF_126 rfl (Nat.le_of_ble_eq_true rfl) (c := 5) (zb_49 I15) (zs_49 I15) ⟨by decide, rfl⟩ (by omega) (c_Pace_forget_49 (d - 1) (by omega) U I15) ?_
          rintro _ z17 h18 ⟨rfl, I19, f16⟩
          show ov_R u d ov_m88 45 [(0, ov_r 0), (1, ov_i w11), (2, ov_r 82)] [] z17 h18 (P_OF_walk_0 F z h)
          have f20 : (h18 36 7) = (h6 36 7) ∧ (h18 1 1) = (h6 1 1) ∧ (h18 90 2) = (h6 90 2) ∧ (h18 0 10) = (h6 0 10) ∧ (h18 0 11) = (h6 0 11) ∧ (h18 0 12) = 82 ∧ (h18 0 13) = 82 ∧ (h18 3 1) = (h6 3 1) ∧ (h18 36 8) = (h6 36 8) ∧ (h18 46 3) = (h6 46 3) ∧ (h18 46 4) = (h6 46 4) ∧ (h18 49 4) = (h6 49 4) ∧ (h18 49 5) = (h6 49 5) ∧ (h18 64 0) = (h6 64 0) ∧ (h18 76 0) = (h6 76 0) := f16
          clear f16
          have e21 : h18 0 10 = 58 := by omega
          have e22 : h18 0 12 = 82 := by omega
          have e23 : h18 0 13 = 82 := by omega
          refine ov_blk (ls2 := [(0, ov_r 0), (1, ov_i w11), (2, ov_r 82)]) (st2 := [ov_i w11]) (pc2 := 46) b_88_45_1 rfl rfl ?_
          exact ov_reti (st := []) d_88_46 rfl ⟨_, rfl, I19, (by show (h18 1 1) = 0 ∧ (h18 36 7) = (h 36 7) ∧ (h18 90 2) = (h 90 2) ∧ (h18 0 10) = (h 0 10) ∧ (h18 0 11) = (h 0 11) ∧ (h18 36 8) = (h 36 8) ∧ (h18 46 3) = (h 46 3) ∧ (h18 46 4) = (h 46 4) ∧ (h18 49 4) = (h 49 4) ∧ (h18 49 5) = (h 49 5) ∧ (h18 64 0) = (h 64 0) ∧ (h18 76 0) = (h 76 0); omega)⟩
        · skip
          refine ov_getf (v := ov_r 86) d_88_21 fl_OF_88 (zb_0 I7) (zs_0 I7) (congrArg ov_r e13) ?_
          refine ov_blk (ls2 := [(0, ov_r 0), (1, ov_i w11), (2, ov_r 86)]) (st2 := [ov_r 0, ov_r 0]) (pc2 := 27) b_88_24_3 rfl rfl ?_
          refine ov_getf (v := ov_r 82) d_88_27 fl_OF_92 (zb_0 I7) (zs_0 I7) (congrArg ov_r e10) ?_
          refine ov_putf (x := 82) d_88_30 fl_OF_88 (zb_0 I7) (zs_0 I7) rfl nk_2 rfl ?_
          have I24 := up_0_12 (x := 82) I7 (by omega)
          refine ov_blk (ls2 := [(0, ov_r 0), (1, ov_i w11), (2, ov_r 86)]) (st2 := [ov_r 86, ov_r 0]) (pc2 := 35) b_88_33_2 rfl rfl ?_
          refine ov_putf (x := 86) d_88_35 fl_OF_92 (zb_0 I24) (zs_0 I24) rfl nk_2 rfl ?_
          have I25 := up_0_13 (x := 86) I24 (by omega)
          refine ov_blk (ls2 := [(0, ov_r 0), (1, ov_i w11), (2, ov_r 86)]) (st2 := [ov_r 0]) (pc2 := 39) b_88_38_1 rfl rfl ?_
          refine ov_getf (v := ov_r 49) d_88_39 fl_OF_64 (zb_0 I25) (zs_0 I25) (congrArg ov_r (rg_0_8 I25)) ?_
          refine ov_cV (as := []) (st := []) (d2 := d - 1) d_88_42 lk_OF_126 rfl (Nat.le_of_ble_eq_true rfl) (c := 5) (zb_49 I25) (zs_49 I25) ⟨by decide, rfl⟩ (by omega) (c_Pace_forget_49 (d - 1) (by omega) U I25) ?_
          rintro _ z27 h28 ⟨rfl, I29, f26⟩
          show ov_R u d ov_m88 45 [(0, ov_r 0), (1, ov_i w11), (2, ov_r 86)] [] z27 h28 (P_OF_walk_0 F z h)
          have f30 : (h28 36 7) = (h6 36 7) ∧ (h28 1 1) = (h6 1 1) ∧ (h28 90 2) = (h6 90 2) ∧ (h28 0 10) = (h6 0 10) ∧ (h28 0 11) = (h6 0 11) ∧ (h28 0 12) = 82 ∧ (h28 0 13) = 86 ∧ (h28 3 1) = (h6 3 1) ∧ (h28 36 8) = (h6 36 8) ∧ (h28 46 3) = (h6 46 3) ∧ (h28 46 4) = (h6 46 4) ∧ (h28 49 4) = (h6 49 4) ∧ (h28 49 5) = (h6 49 5) ∧ (h28 64 0) = (h6 64 0) ∧ (h28 76 0) = (h6 76 0) := f26
          clear f26
          have e31 : h28 0 10 = 58 := by omega
          have e32 : h28 0 12 = 82 := by omega
          have e33 : h28 0 13 = 86 := by omega
          refine ov_blk (ls2 := [(0, ov_r 0), (1, ov_i w11), (2, ov_r 86)]) (st2 := [ov_i w11]) (pc2 := 46) b_88_45_1 rfl rfl ?_
          exact ov_reti (st := []) d_88_46 rfl ⟨_, rfl, I29, (by show (h28 1 1) = 0 ∧ (h28 36 7) = (h 36 7) ∧ (h28 90 2) = (h 90 2) ∧ (h28 0 10) = (h 0 10) ∧ (h28 0 11) = (h 0 11) ∧ (h28 36 8) = (h 36 8) ∧ (h28 46 3) = (h 46 3) ∧ (h28 46 4) = (h 46 4) ∧ (h28 49 4) = (h 49 4) ∧ (h28 49 5) = (h 49 5) ∧ (h28 64 0) = (h 64 0) ∧ (h28 76 0) = (h 76 0); omega)⟩
    · skip
      refine ov_getf (v := ov_r 86) d_88_9 fl_OF_92 (zb_0 I) (zs_0 I) (congrArg ov_r e2) ?_
      refine ov_cV (as := [ov_r 58, ov_r 86]) (st := []) (d2 := d - 1) d_88_12 lk_OF_122 rfl (Nat.le_of_ble_eq_true rfl) (c := 6) (zb_3 I) (zs_3 I) ⟨by decide, rfl⟩ (by omega) (c_Reader_readWalk_3_58_86 (d - 1) (by omega) U I) ?_
      rintro _ z36 h37 ⟨v35, rfl, I38, f34⟩
      show ov_R u d ov_m88 15 [(0, ov_r 0)] [ov_i v35] z36 h37 (P_OF_walk_0 F z h)
      have f39 : (h37 1 1) = 0 ∧ (h37 36 7) = (h 36 7) ∧ (h37 90 2) = (h 90 2) ∧ (h37 0 10) = (h 0 10) ∧ (h37 0 11) = (h 0 11) ∧ (h37 0 12) = (h 0 12) ∧ (h37 0 13) = (h 0 13) ∧ (h37 36 8) = (h 36 8) ∧ (h37 46 3) = (h 46 3) ∧ (h37 46 4) = (h 46 4) ∧ (h37 49 4) = (h 49 4) ∧ (h37 49 5) = (h 49 5) ∧ (h37 64 0) = (h 64 0) ∧ (h37 76 0) = (h 76 0) := f34
      clear f34
      have e40 : h37 0 10 = 58 := by omega
      have e41 : h37 0 13 = 86 := by omega
      refine ov_havw (fun w42 gw42 qw42 => ?_)
      refine ov_blk (ls2 := [(0, ov_r 0), (1, ov_i w42)]) (st2 := [ov_i w42]) (pc2 := 17) b_88_15_2 rfl rfl ?_
      refine ov_ifne (tgt := 45) d_88_17 (by decide) (by omega) (fun c43 => ?_) (fun c43 => ?_)
      · skip
        refine ov_blk (ls2 := [(0, ov_r 0), (1, ov_i w42)]) (st2 := [ov_i w42]) (pc2 := 46) b_88_45_1 rfl rfl ?_
        exact ov_reti (st := []) d_88_46 rfl ⟨_, rfl, I38, (by show (h37 1 1) = 0 ∧ (h37 36 7) = (h 36 7) ∧ (h37 90 2) = (h 90 2) ∧ (h37 0 10) = (h 0 10) ∧ (h37 0 11) = (h 0 11) ∧ (h37 36 8) = (h 36 8) ∧ (h37 46 3) = (h 46 3) ∧ (h37 46 4) = (h 46 4) ∧ (h37 49 4) = (h 49 4) ∧ (h37 49 5) = (h 49 5) ∧ (h37 64 0) = (h 64 0) ∧ (h37 76 0) = (h 76 0); omega)⟩
      · skip
        refine ov_blk (ls2 := [(0, ov_r 0), (1, ov_i w42)]) (st2 := [ov_r 0]) (pc2 := 21) b_88_20_1 rfl rfl ?_
        rcases rg_0_12 I38 with e44 | e44
        · skip
          refine ov_getf (v := ov_r 82) d_88_21 fl_OF_88 (zb_0 I38) (zs_0 I38) (congrArg ov_r e44) ?_
          refine ov_blk (ls2 := [(0, ov_r 0), (1, ov_i w42), (2, ov_r 82)]) (st2 := [ov_r 0, ov_r 0]) (pc2 := 27) b_88_24_3 rfl rfl ?_
          refine ov_getf (v := ov_r 86) d_88_27 fl_OF_92 (zb_0 I38) (zs_0 I38) (congrArg ov_r e41) ?_
          refine ov_putf (x := 86) d_88_30 fl_OF_88 (zb_0 I38) (zs_0 I38) rfl nk_2 rfl ?_
          have I45 := up_0_12 (x := 86) I38 (by omega)
          refine ov_blk (ls2 := [(0, ov_r 0), (1, ov_i w42), (2, ov_r 82)]) (st2 := [ov_r 82, ov_r 0]) (pc2 := 35) b_88_33_2 rfl rfl ?_
          refine ov_putf (x := 82) d_88_35 fl_OF_92 (zb_0 I45) (zs_0 I45) rfl nk_2 rfl ?_
          have I46 := up_0_13 (x := 82) I45 (by omega)
          refine ov_blk (ls2 := [(0, ov_r 0), (1, ov_i w42), (2, ov_r 82)]) (st2 := [ov_r 0]) (pc2 := 39) b_88_38_1 rfl rfl ?_
          refine ov_getf (v := ov_r 49) d_88_39 fl_OF_64 (zb_0 I46) (zs_0 I46) (congrArg ov_r (rg_0_8 I46)) ?_
          refine ov_cV (as := []) (st := []) (d2 := d - 1) d_88_42 lk_OF_126 rfl (Nat.le_of_ble_eq_true rfl) (c := 5) (zb_49 I46) (zs_49 I46) ⟨by decide, rfl⟩ (by omega) (c_Pace_forget_49 (d - 1) (by omega) U I46) ?_
          rintro _ z48 h49 ⟨rfl, I50, f47⟩
          show ov_R u d ov_m88 45 [(0, ov_r 0), (1, ov_i w42), (2, ov_r 82)] [] z48 h49 (P_OF_walk_0 F z h)
          have f51 : (h49 36 7) = (h37 36 7) ∧ (h49 1 1) = (h37 1 1) ∧ (h49 90 2) = (h37 90 2) ∧ (h49 0 10) = (h37 0 10) ∧ (h49 0 11) = (h37 0 11) ∧ (h49 0 12) = 86 ∧ (h49 0 13) = 82 ∧ (h49 3 1) = (h37 3 1) ∧ (h49 36 8) = (h37 36 8) ∧ (h49 46 3) = (h37 46 3) ∧ (h49 46 4) = (h37 46 4) ∧ (h49 49 4) = (h37 49 4) ∧ (h49 49 5) = (h37 49 5) ∧ (h49 64 0) = (h37 64 0) ∧ (h49 76 0) = (h37 76 0) := f47
          clear f47
          have e52 : h49 0 10 = 58 := by omega
          have e53 : h49 0 12 = 86 := by omega
          have e54 : h49 0 13 = 82 := by omega
          refine ov_blk (ls2 := [(0, ov_r 0), (1, ov_i w42), (2, ov_r 82)]) (st2 := [ov_i w42]) (pc2 := 46) b_88_45_1 rfl rfl ?_
          exact ov_reti (st := []) d_88_46 rfl ⟨_, rfl, I50, (by show (h49 1 1) = 0 ∧ (h49 36 7) = (h 36 7) ∧ (h49 90 2) = (h 90 2) ∧ (h49 0 10) = (h 0 10) ∧ (h49 0 11) = (h 0 11) ∧ (h49 36 8) = (h 36 8) ∧ (h49 46 3) = (h 46 3) ∧ (h49 46 4) = (h 46 4) ∧ (h49 49 4) = (h 49 4) ∧ (h49 49 5) = (h 49 5) ∧ (h49 64 0) = (h 64 0) ∧ (h49 76 0) = (h 76 0); omega)⟩
        · skip
          refine ov_getf (v := ov_r 86) d_88_21 fl_OF_88 (zb_0 I38) (zs_0 I38) (congrArg ov_r e44) ?_
          refine ov_blk (ls2 := [(0, ov_r 0), (1, ov_i w42), (2, ov_r 86)]) (st2 := [ov_r 0, ov_r 0]) (pc2 := 27) b_88_24_3 rfl rfl ?_
          refine ov_getf (v := ov_r 86) d_88_27 fl_OF_92 (zb_0 I38) (zs_0 I38) (congrArg ov_r e41) ?_
          refine ov_putf (x := 86) d_88_30 fl_OF_88 (zb_0 I38) (zs_0 I38) rfl nk_2 rfl ?_
          have I55 := up_0_12 (x := 86) I38 (by omega)
          refine ov_blk (ls2 := [(0, ov_r 0), (1, ov_i w42), (2, ov_r 86)]) (st2 := [ov_r 86, ov_r 0]) (pc2 := 35) b_88_33_2 rfl rfl ?_
          refine ov_putf (x := 86) d_88_35 fl_OF_92 (zb_0 I55) (zs_0 I55) rfl nk_2 rfl ?_
          have I56 := up_0_13 (x := 86) I55 (by omega)
          refine ov_blk (ls2 := [(0, ov_r 0), (1, ov_i w42), (2, ov_r 86)]) (st2 := [ov_r 0]) (pc2 := 39) b_88_38_1 rfl rfl ?_
          refine ov_getf (v := ov_r 49) d_88_39 fl_OF_64 (zb_0 I56) (zs_0 I56) (congrArg ov_r (rg_0_8 I56)) ?_
          refine ov_cV (as := []) (st := []) (d2 := d - 1) d_88_42 lk_OF_126 rfl (Nat.le_of_ble_eq_true rfl) (c := 5) (zb_49 I56) (zs_49 I56) ⟨by decide, rfl⟩ (by omega) (c_Pace_forget_49 (d - 1) (by omega) U I56) ?_
          rintro _ z58 h59 ⟨rfl, I60, f57⟩
          show ov_R u d ov_m88 45 [(0, ov_r 0), (1, ov_i w42), (2, ov_r 86)] [] z58 h59 (P_OF_walk_0 F z h)
          have f61 : (h59 36 7) = (h37 36 7) ∧ (h59 1 1) = (h37 1 1) ∧ (h59 90 2) = (h37 90 2) ∧ (h59 0 10) = (h37 0 10) ∧ (h59 0 11) = (h37 0 11) ∧ (h59 0 12) = 86 ∧ (h59 0 13) = 86 ∧ (h59 3 1) = (h37 3 1) ∧ (h59 36 8) = (h37 36 8) ∧ (h59 46 3) = (h37 46 3) ∧ (h59 46 4) = (h37 46 4) ∧ (h59 49 4) = (h37 49 4) ∧ (h59 49 5) = (h37 49 5) ∧ (h59 64 0) = (h37 64 0) ∧ (h59 76 0) = (h37 76 0) := f57
          clear f57
          have e62 : h59 0 10 = 58 := by omega
          have e63 : h59 0 12 = 86 := by omega
          have e64 : h59 0 13 = 86 := by omega
          refine ov_blk (ls2 := [(0, ov_r 0), (1, ov_i w42), (2, ov_r 86)]) (st2 := [ov_i w42]) (pc2 := 46) b_88_45_1 rfl rfl ?_
          exact ov_reti (st := []) d_88_46 rfl ⟨_, rfl, I60, (by show (h59 1 1) = 0 ∧ (h59 36 7) = (h 36 7) ∧ (h59 90 2) = (h 90 2) ∧ (h59 0 10) = (h 0 10) ∧ (h59 0 11) = (h 0 11) ∧ (h59 36 8) = (h 36 8) ∧ (h59 46 3) = (h 46 3) ∧ (h59 46 4) = (h 46 4) ∧ (h59 49 4) = (h 49 4) ∧ (h59 49 5) = (h 49 5) ∧ (h59 64 0) = (h 64 0) ∧ (h59 76 0) = (h 76 0); omega)⟩
  · skip
    refine ov_getf (v := ov_r 70) d_88_5 fl_OF_78 (zb_0 I) (zs_0 I) (congrArg ov_r e1) ?_
    refine ov_blk (ls2 := [(0, ov_r 0)]) (st2 := [ov_r 0, ov_r 70, ov_r 3]) (pc2 := 9) b_88_8_1 rfl rfl ?_
    rcases rg_0_13 I with e65 | e65
    · skip
      refine ov_getf (v := ov_r 82) d_88_9 fl_OF_92 (zb_0 I) (zs_0 I) (congrArg ov_r e65) ?_
      refine ov_cV (as := [ov_r 70, ov_r 82]) (st := []) (d2 := d - 1) d_88_12 lk_OF_122 rfl (Nat.le_of_ble_eq_true rfl) (c := 6) (zb_3 I) (zs_3 I) ⟨by decide, rfl⟩ (by omega) (c_Reader_readWalk_3_70_82 (d - 1) (by omega) U I) ?_
      rintro _ z68 h69 ⟨v67, rfl, I70, f66⟩
      show ov_R u d ov_m88 15 [(0, ov_r 0)] [ov_i v67] z68 h69 (P_OF_walk_0 F z h)
      have f71 : (h69 1 1) = 0 ∧ (h69 36 7) = (h 36 7) ∧ (h69 90 2) = (h 90 2) ∧ (h69 0 10) = (h 0 10) ∧ (h69 0 11) = (h 0 11) ∧ (h69 0 12) = (h 0 12) ∧ (h69 0 13) = (h 0 13) ∧ (h69 36 8) = (h 36 8) ∧ (h69 46 3) = (h 46 3) ∧ (h69 46 4) = (h 46 4) ∧ (h69 49 4) = (h 49 4) ∧ (h69 49 5) = (h 49 5) ∧ (h69 64 0) = (h 64 0) ∧ (h69 76 0) = (h 76 0) := f66
      clear f66
      have e72 : h69 0 10 = 70 := by omega
      have e73 : h69 0 13 = 82 := by omega
      refine ov_havw (fun w74 gw74 qw74 => ?_)
      refine ov_blk (ls2 := [(0, ov_r 0), (1, ov_i w74)]) (st2 := [ov_i w74]) (pc2 := 17) b_88_15_2 rfl rfl ?_
      refine ov_ifne (tgt := 45) d_88_17 (by decide) (by omega) (fun c75 => ?_) (fun c75 => ?_)
      · skip
        refine ov_blk (ls2 := [(0, ov_r 0), (1, ov_i w74)]) (st2 := [ov_i w74]) (pc2 := 46) b_88_45_1 rfl rfl ?_
        exact ov_reti (st := []) d_88_46 rfl ⟨_, rfl, I70, (by show (h69 1 1) = 0 ∧ (h69 36 7) = (h 36 7) ∧ (h69 90 2) = (h 90 2) ∧ (h69 0 10) = (h 0 10) ∧ (h69 0 11) = (h 0 11) ∧ (h69 36 8) = (h 36 8) ∧ (h69 46 3) = (h 46 3) ∧ (h69 46 4) = (h 46 4) ∧ (h69 49 4) = (h 49 4) ∧ (h69 49 5) = (h 49 5) ∧ (h69 64 0) = (h 64 0) ∧ (h69 76 0) = (h 76 0); omega)⟩
      · skip
        refine ov_blk (ls2 := [(0, ov_r 0), (1, ov_i w74)]) (st2 := [ov_r 0]) (pc2 := 21) b_88_20_1 rfl rfl ?_
        rcases rg_0_12 I70 with e76 | e76
        · skip
          refine ov_getf (v := ov_r 82) d_88_21 fl_OF_88 (zb_0 I70) (zs_0 I70) (congrArg ov_r e76) ?_
          refine ov_blk (ls2 := [(0, ov_r 0), (1, ov_i w74), (2, ov_r 82)]) (st2 := [ov_r 0, ov_r 0]) (pc2 := 27) b_88_24_3 rfl rfl ?_
          refine ov_getf (v := ov_r 82) d_88_27 fl_OF_92 (zb_0 I70) (zs_0 I70) (congrArg ov_r e73) ?_
          refine ov_putf (x := 82) d_88_30 fl_OF_88 (zb_0 I70) (zs_0 I70) rfl nk_2 rfl ?_
          have I77 := up_0_12 (x := 82) I70 (by omega)
          refine ov_blk (ls2 := [(0, ov_r 0), (1, ov_i w74), (2, ov_r 82)]) (st2 := [ov_r 82, ov_r 0]) (pc2 := 35) b_88_33_2 rfl rfl ?_
          refine ov_putf (x := 82) d_88_35 fl_OF_92 (zb_0 I77) (zs_0 I77) rfl nk_2 rfl ?_
          have I78 := up_0_13 (x := 82) I77 (by omega)
          refine ov_blk (ls2 := [(0, ov_r 0), (1, ov_i w74), (2, ov_r 82)]) (st2 := [ov_r 0]) (pc2 := 39) b_88_38_1 rfl rfl ?_
          refine ov_getf (v := ov_r 49) d_88_39 fl_OF_64 (zb_0 I78) (zs_0 I78) (congrArg ov_r (rg_0_8 I78)) ?_
          refine ov_cV (as := []) (st := []) (d2 := d - 1) d_88_42 lk_OF_126 rfl (Nat.le_of_ble_eq_true rfl) (c := 5) (zb_49 I78) (zs_49 I78) ⟨by decide, rfl⟩ (by omega) (c_Pace_forget_49 (d - 1) (by omega) U I78) ?_
          rintro _ z80 h81 ⟨rfl, I82, f79⟩
          show ov_R u d ov_m88 45 [(0, ov_r 0), (1, ov_i w74), (2, ov_r 82)] [] z80 h81 (P_OF_walk_0 F z h)
          have f83 : (h81 36 7) = (h69 36 7) ∧ (h81 1 1) = (h69 1 1) ∧ (h81 90 2) = (h69 90 2) ∧ (h81 0 10) = (h69 0 10) ∧ (h81 0 11) = (h69 0 11) ∧ (h81 0 12) = 82 ∧ (h81 0 13) = 82 ∧ (h81 3 1) = (h69 3 1) ∧ (h81 36 8) = (h69 36 8) ∧ (h81 46 3) = (h69 46 3) ∧ (h81 46 4) = (h69 46 4) ∧ (h81 49 4) = (h69 49 4) ∧ (h81 49 5) = (h69 49 5) ∧ (h81 64 0) = (h69 64 0) ∧ (h81 76 0) = (h69 76 0) := f79
          clear f79
          have e84 : h81 0 10 = 70 := by omega
          have e85 : h81 0 12 = 82 := by omega
          have e86 : h81 0 13 = 82 := by omega
          refine ov_blk (ls2 := [(0, ov_r 0), (1, ov_i w74), (2, ov_r 82)]) (st2 := [ov_i w74]) (pc2 := 46) b_88_45_1 rfl rfl ?_
          exact ov_reti (st := []) d_88_46 rfl ⟨_, rfl, I82, (by show (h81 1 1) = 0 ∧ (h81 36 7) = (h 36 7) ∧ (h81 90 2) = (h 90 2) ∧ (h81 0 10) = (h 0 10) ∧ (h81 0 11) = (h 0 11) ∧ (h81 36 8) = (h 36 8) ∧ (h81 46 3) = (h 46 3) ∧ (h81 46 4) = (h 46 4) ∧ (h81 49 4) = (h 49 4) ∧ (h81 49 5) = (h 49 5) ∧ (h81 64 0) = (h 64 0) ∧ (h81 76 0) = (h 76 0); omega)⟩
        · skip
          refine ov_getf (v := ov_r 86) d_88_21 fl_OF_88 (zb_0 I70) (zs_0 I70) (congrArg ov_r e76) ?_
          refine ov_blk (ls2 := [(0, ov_r 0), (1, ov_i w74), (2, ov_r 86)]) (st2 := [ov_r 0, ov_r 0]) (pc2 := 27) b_88_24_3 rfl rfl ?_
          refine ov_getf (v := ov_r 82) d_88_27 fl_OF_92 (zb_0 I70) (zs_0 I70) (congrArg ov_r e73) ?_
          refine ov_putf (x := 82) d_88_30 fl_OF_88 (zb_0 I70) (zs_0 I70) rfl nk_2 rfl ?_
          have I87 := up_0_12 (x := 82) I70 (by omega)
          refine ov_blk (ls2 := [(0, ov_r 0), (1, ov_i w74), (2, ov_r 86)]) (st2 := [ov_r 86, ov_r 0]) (pc2 := 35) b_88_33_2 rfl rfl ?_
          refine ov_putf (x := 86) d_88_35 fl_OF_92 (zb_0 I87) (zs_0 I87) rfl nk_2 rfl ?_
          have I88 := up_0_13 (x := 86) I87 (by omega)
          refine ov_blk (ls2 := [(0, ov_r 0), (1, ov_i w74), (2, ov_r 86)]) (st2 := [ov_r 0]) (pc2 := 39) b_88_38_1 rfl rfl ?_
          refine ov_getf (v := ov_r 49) d_88_39 fl_OF_64 (zb_0 I88) (zs_0 I88) (congrArg ov_r (rg_0_8 I88)) ?_
          refine ov_cV (as := []) (st := []) (d2 := d - 1) d_88_42 lk_OF_126 rfl (Nat.le_of_ble_eq_true rfl) (c := 5) (zb_49 I88) (zs_49 I88) ⟨by decide, rfl⟩ (by omega) (c_Pace_forget_49 (d - 1) (by omega) U I88) ?_
          rintro _ z90 h91 ⟨rfl, I92, f89⟩
          show ov_R u d ov_m88 45 [(0, ov_r 0), (1, ov_i w74), (2, ov_r 86)] [] z90 h91 (P_OF_walk_0 F z h)
          have f93 : (h91 36 7) = (h69 36 7) ∧ (h91 1 1) = (h69 1 1) ∧ (h91 90 2) = (h69 90 2) ∧ (h91 0 10) = (h69 0 10) ∧ (h91 0 11) = (h69 0 11) ∧ (h91 0 12) = 82 ∧ (h91 0 13) = 86 ∧ (h91 3 1) = (h69 3 1) ∧ (h91 36 8) = (h69 36 8) ∧ (h91 46 3) = (h69 46 3) ∧ (h91 46 4) = (h69 46 4) ∧ (h91 49 4) = (h69 49 4) ∧ (h91 49 5) = (h69 49 5) ∧ (h91 64 0) = (h69 64 0) ∧ (h91 76 0) = (h69 76 0) := f89
          clear f89
          have e94 : h91 0 10 = 70 := by omega
          have e95 : h91 0 12 = 82 := by omega
          have e96 : h91 0 13 = 86 := by omega
          refine ov_blk (ls2 := [(0, ov_r 0), (1, ov_i w74), (2, ov_r 86)]) (st2 := [ov_i w74]) (pc2 := 46) b_88_45_1 rfl rfl ?_
          exact ov_reti (st := []) d_88_46 rfl ⟨_, rfl, I92, (by show (h91 1 1) = 0 ∧ (h91 36 7) = (h 36 7) ∧ (h91 90 2) = (h 90 2) ∧ (h91 0 10) = (h 0 10) ∧ (h91 0 11) = (h 0 11) ∧ (h91 36 8) = (h 36 8) ∧ (h91 46 3) = (h 46 3) ∧ (h91 46 4) = (h 46 4) ∧ (h91 49 4) = (h 49 4) ∧ (h91 49 5) = (h 49 5) ∧ (h91 64 0) = (h 64 0) ∧ (h91 76 0) = (h 76 0); omega)⟩
    · skip
      refine ov_getf (v := ov_r 86) d_88_9 fl_OF_92 (zb_0 I) (zs_0 I) (congrArg ov_r e65) ?_
      refine ov_cV (as := [ov_r 70, ov_r 86]) (st := []) (d2 := d - 1) d_88_12 lk_OF_122 rfl (Nat.le_of_ble_eq_true rfl) (c := 6) (zb_3 I) (zs_3 I) ⟨by decide, rfl⟩ (by omega) (c_Reader_readWalk_3_70_86 (d - 1) (by omega) U I) ?_
      rintro _ z99 h100 ⟨v98, rfl, I101, f97⟩
      show ov_R u d ov_m88 15 [(0, ov_r 0)] [ov_i v98] z99 h100 (P_OF_walk_0 F z h)
      have f102 : (h100 1 1) = 0 ∧ (h100 36 7) = (h 36 7) ∧ (h100 90 2) = (h 90 2) ∧ (h100 0 10) = (h 0 10) ∧ (h100 0 11) = (h 0 11) ∧ (h100 0 12) = (h 0 12) ∧ (h100 0 13) = (h 0 13) ∧ (h100 36 8) = (h 36 8) ∧ (h100 46 3) = (h 46 3) ∧ (h100 46 4) = (h 46 4) ∧ (h100 49 4) = (h 49 4) ∧ (h100 49 5) = (h 49 5) ∧ (h100 64 0) = (h 64 0) ∧ (h100 76 0) = (h 76 0) := f97
      clear f97
      have e103 : h100 0 10 = 70 := by omega
      have e104 : h100 0 13 = 86 := by omega
      refine ov_havw (fun w105 gw105 qw105 => ?_)
      refine ov_blk (ls2 := [(0, ov_r 0), (1, ov_i w105)]) (st2 := [ov_i w105]) (pc2 := 17) b_88_15_2 rfl rfl ?_
      refine ov_ifne (tgt := 45) d_88_17 (by decide) (by omega) (fun c106 => ?_) (fun c106 => ?_)
      · skip
        refine ov_blk (ls2 := [(0, ov_r 0), (1, ov_i w105)]) (st2 := [ov_i w105]) (pc2 := 46) b_88_45_1 rfl rfl ?_
        exact ov_reti (st := []) d_88_46 rfl ⟨_, rfl, I101, (by show (h100 1 1) = 0 ∧ (h100 36 7) = (h 36 7) ∧ (h100 90 2) = (h 90 2) ∧ (h100 0 10) = (h 0 10) ∧ (h100 0 11) = (h 0 11) ∧ (h100 36 8) = (h 36 8) ∧ (h100 46 3) = (h 46 3) ∧ (h100 46 4) = (h 46 4) ∧ (h100 49 4) = (h 49 4) ∧ (h100 49 5) = (h 49 5) ∧ (h100 64 0) = (h 64 0) ∧ (h100 76 0) = (h 76 0); omega)⟩
      · skip
        refine ov_blk (ls2 := [(0, ov_r 0), (1, ov_i w105)]) (st2 := [ov_r 0]) (pc2 := 21) b_88_20_1 rfl rfl ?_
        rcases rg_0_12 I101 with e107 | e107
        · skip
          refine ov_getf (v := ov_r 82) d_88_21 fl_OF_88 (zb_0 I101) (zs_0 I101) (congrArg ov_r e107) ?_
          refine ov_blk (ls2 := [(0, ov_r 0), (1, ov_i w105), (2, ov_r 82)]) (st2 := [ov_r 0, ov_r 0]) (pc2 := 27) b_88_24_3 rfl rfl ?_
          refine ov_getf (v := ov_r 86) d_88_27 fl_OF_92 (zb_0 I101) (zs_0 I101) (congrArg ov_r e104) ?_
          refine ov_putf (x := 86) d_88_30 fl_OF_88 (zb_0 I101) (zs_0 I101) rfl nk_2 rfl ?_
          have I108 := up_0_12 (x := 86) I101 (by omega)
          refine ov_blk (ls2 := [(0, ov_r 0), (1, ov_i w105), (2, ov_r 82)]) (st2 := [ov_r 82, ov_r 0]) (pc2 := 35) b_88_33_2 rfl rfl ?_
          refine ov_putf (x := 82) d_88_35 fl_OF_92 (zb_0 I108) (zs_0 I108) rfl nk_2 rfl ?_
          have I109 := up_0_13 (x := 82) I108 (by omega)
          refine ov_blk (ls2 := [(0, ov_r 0), (1, ov_i w105), (2, ov_r 82)]) (st2 := [ov_r 0]) (pc2 := 39) b_88_38_1 rfl rfl ?_
          refine ov_getf (v := ov_r 49) d_88_39 fl_OF_64 (zb_0 I109) (zs_0 I109) (congrArg ov_r (rg_0_8 I109)) ?_
          refine ov_cV (as := []) (st := []) (d2 := d - 1) d_88_42 lk_OF_126 rfl (Nat.le_of_ble_eq_true rfl) (c := 5) (zb_49 I109) (zs_49 I109) ⟨by decide, rfl⟩ (by omega) (c_Pace_forget_49 (d - 1) (by omega) U I109) ?_
          rintro _ z111 h112 ⟨rfl, I113, f110⟩
          show ov_R u d ov_m88 45 [(0, ov_r 0), (1, ov_i w105), (2, ov_r 82)] [] z111 h112 (P_OF_walk_0 F z h)
          have f114 : (h112 36 7) = (h100 36 7) ∧ (h112 1 1) = (h100 1 1) ∧ (h112 90 2) = (h100 90 2) ∧ (h112 0 10) = (h100 0 10) ∧ (h112 0 11) = (h100 0 11) ∧ (h112 0 12) = 86 ∧ (h112 0 13) = 82 ∧ (h112 3 1) = (h100 3 1) ∧ (h112 36 8) = (h100 36 8) ∧ (h112 46 3) = (h100 46 3) ∧ (h112 46 4) = (h100 46 4) ∧ (h112 49 4) = (h100 49 4) ∧ (h112 49 5) = (h100 49 5) ∧ (h112 64 0) = (h100 64 0) ∧ (h112 76 0) = (h100 76 0) := f110
          clear f110
          have e115 : h112 0 10 = 70 := by omega
          have e116 : h112 0 12 = 86 := by omega
          have e117 : h112 0 13 = 82 := by omega
          refine ov_blk (ls2 := [(0, ov_r 0), (1, ov_i w105), (2, ov_r 82)]) (st2 := [ov_i w105]) (pc2 := 46) b_88_45_1 rfl rfl ?_
          exact ov_reti (st := []) d_88_46 rfl ⟨_, rfl, I113, (by show (h112 1 1) = 0 ∧ (h112 36 7) = (h 36 7) ∧ (h112 90 2) = (h 90 2) ∧ (h112 0 10) = (h 0 10) ∧ (h112 0 11) = (h 0 11) ∧ (h112 36 8) = (h 36 8) ∧ (h112 46 3) = (h 46 3) ∧ (h112 46 4) = (h 46 4) ∧ (h112 49 4) = (h 49 4) ∧ (h112 49 5) = (h 49 5) ∧ (h112 64 0) = (h 64 0) ∧ (h112 76 0) = (h 76 0); omega)⟩
        · skip
          refine ov_getf (v := ov_r 86) d_88_21 fl_OF_88 (zb_0 I101) (zs_0 I101) (congrArg ov_r e107) ?_
          refine ov_blk (ls2 := [(0, ov_r 0), (1, ov_i w105), (2, ov_r 86)]) (st2 := [ov_r 0, ov_r 0]) (pc2 := 27) b_88_24_3 rfl rfl ?_
          refine ov_getf (v := ov_r 86) d_88_27 fl_OF_92 (zb_0 I101) (zs_0 I101) (congrArg ov_r e104) ?_
          refine ov_putf (x := 86) d_88_30 fl_OF_88 (zb_0 I101) (zs_0 I101) rfl nk_2 rfl ?_
          have I118 := up_0_12 (x := 86) I101 (by omega)
          refine ov_blk (ls2 := [(0, ov_r 0), (1, ov_i w105), (2, ov_r 86)]) (st2 := [ov_r 86, ov_r 0]) (pc2 := 35) b_88_33_2 rfl rfl ?_
          refine ov_putf (x := 86) d_88_35 fl_OF_92 (zb_0 I118) (zs_0 I118) rfl nk_2 rfl ?_
          have I119 := up_0_13 (x := 86) I118 (by omega)
          refine ov_blk (ls2 := [(0, ov_r 0), (1, ov_i w105), (2, ov_r 86)]) (st2 := [ov_r 0]) (pc2 := 39) b_88_38_1 rfl rfl ?_
          refine ov_getf (v := ov_r 49) d_88_39 fl_OF_64 (zb_0 I119) (zs_0 I119) (congrArg ov_r (rg_0_8 I119)) ?_
          refine ov_cV (as := []) (st := []) (d2 := d - 1) d_88_42 lk_OF_126 rfl (Nat.le_of_ble_eq_true rfl) (c := 5) (zb_49 I119) (zs_49 I119) ⟨by decide, rfl⟩ (by omega) (c_Pace_forget_49 (d - 1) (by omega) U I119) ?_
          rintro _ z121 h122 ⟨rfl, I123, f120⟩
          show ov_R u d ov_m88 45 [(0, ov_r 0), (1, ov_i w105), (2, ov_r 86)] [] z121 h122 (P_OF_walk_0 F z h)
          have f124 : (h122 36 7) = (h100 36 7) ∧ (h122 1 1) = (h100 1 1) ∧ (h122 90 2) = (h100 90 2) ∧ (h122 0 10) = (h100 0 10) ∧ (h122 0 11) = (h100 0 11) ∧ (h122 0 12) = 86 ∧ (h122 0 13) = 86 ∧ (h122 3 1) = (h100 3 1) ∧ (h122 36 8) = (h100 36 8) ∧ (h122 46 3) = (h100 46 3) ∧ (h122 46 4) = (h100 46 4) ∧ (h122 49 4) = (h100 49 4) ∧ (h122 49 5) = (h100 49 5) ∧ (h122 64 0) = (h100 64 0) ∧ (h122 76 0) = (h100 76 0) := f120
          clear f120
          have e125 : h122 0 10 = 70 := by omega
          have e126 : h122 0 12 = 86 := by omega
          have e127 : h122 0 13 = 86 := by omega
          refine ov_blk (ls2 := [(0, ov_r 0), (1, ov_i w105), (2, ov_r 86)]) (st2 := [ov_i w105]) (pc2 := 46) b_88_45_1 rfl rfl ?_
          exact ov_reti (st := []) d_88_46 rfl ⟨_, rfl, I123, (by show (h122 1 1) = 0 ∧ (h122 36 7) = (h 36 7) ∧ (h122 90 2) = (h 90 2) ∧ (h122 0 10) = (h 0 10) ∧ (h122 0 11) = (h 0 11) ∧ (h122 36 8) = (h 36 8) ∧ (h122 46 3) = (h 46 3) ∧ (h122 46 4) = (h 46 4) ∧ (h122 49 4) = (h 49 4) ∧ (h122 49 5) = (h 49 5) ∧ (h122 64 0) = (h 64 0) ∧ (h122 76 0) = (h 76 0); omega)⟩
abbrev P_OF_light_0 (F : ov_H) (z : ov_Z) (h : ov_H) (x : Int) (y : Int) (w : Int) : Option ov_V → ov_Z → ov_H → Prop := fun r0 z' h' => ∃ r : Int, r0 = some (ov_i r) ∧ z = z' ∧ h = h' ∧ (True)
set_option maxHeartbeats 4000000 in
theorem c_OF_light_0 {u : ov_U} {F : ov_H} {z : ov_Z} {h : ov_H} (d : Nat) (hd : 1 ≤ d) (U : ov_cap u) (I : ov_I F z h) (x : Int) (y : Int) (w : Int) (g_x : ov_g x) (g_y : ov_g y) (g_w : ov_g w) : ov_T u d ov_m93 [ov_r 0, ov_i x, ov_i y, ov_i w] z h (P_OF_light_0 F z h x y w) := by
  refine ov_en rfl (Nat.le_of_ble_eq_true rfl) ?_
  show ov_R u d ov_m93 0 [(0, ov_r 0), (1, ov_i x), (2, ov_i y), (3, ov_i w)] [] z h (P_OF_light_0 F z h x y w)
  refine ov_blk (ls2 := [(0, ov_r 0), (1, ov_i x), (2, ov_i y), (3, ov_i w)]) (st2 := [ov_r 0]) (pc2 := 1) b_93_0_1 rfl rfl ?_
  rcases rg_0_10 I with e1 | e1
  · skip
    refine ov_getf (v := ov_r 58) d_93_1 fl_OF_78 (zb_0 I) (zs_0 I) (congrArg ov_r e1) ?_
    refine ov_blk (ls2 := [(0, ov_r 0), (1, ov_i x), (2, ov_i y), (3, ov_i w)]) (st2 := [ov_i y, ov_i x, ov_r 58]) (pc2 := 6) b_93_4_2 rfl rfl ?_
    refine ov_cV (as := [ov_i x, ov_i y]) (st := []) (d2 := d - 1) d_93_6 lk_OF_131 rfl (Nat.le_of_ble_eq_true rfl) (c := 9) (zb_58 I) (zs_58 I) ⟨by decide, rfl⟩ (by omega) (c_Town_corner_58 (d - 1) (by omega) U I x y (by omega) (by omega)) ?_
    rintro _ _ _ ⟨v3, rfl, rfl, rfl, f2⟩
    show ov_R u d ov_m93 9 [(0, ov_r 0), (1, ov_i x), (2, ov_i y), (3, ov_i w)] [ov_i v3] z h (P_OF_light_0 F z h x y w)
    have f4 : v3 = -1 ∨ (0 ≤ x ∧ x < (h 58 0) ∧ 0 ≤ y ∧ y < (h 58 1) ∧ v3 = y * 6 + x ∧ (h 58 0) ≤ 6 ∧ (h 58 1) ≤ 9) := f2
    clear f2
    refine ov_blk (ls2 := [(0, ov_r 0), (1, ov_i x), (2, ov_i y), (3, ov_i w), (4, ov_i v3)]) (st2 := [ov_i (-1), ov_i v3]) (pc2 := 14) b_93_9_3 rfl rfl ?_
    refine ov_icne (tgt := 19) d_93_14 (by decide) (by omega) (by omega) (fun c5 => ?_) (fun c5 => ?_)
    · skip
      refine ov_blk (ls2 := [(0, ov_r 0), (1, ov_i x), (2, ov_i y), (3, ov_i w), (4, ov_i v3)]) (st2 := [ov_i 5, ov_i w]) (pc2 := 21) b_93_19_2 rfl rfl ?_
      refine ov_icne (tgt := 35) d_93_21 (by decide) (by omega) (by omega) (fun c6 => ?_) (fun c6 => ?_)
      · skip
        refine ov_blk (ls2 := [(0, ov_r 0), (1, ov_i x), (2, ov_i y), (3, ov_i w), (4, ov_i v3)]) (st2 := [ov_r 0]) (pc2 := 36) b_93_35_1 rfl rfl ?_
        refine ov_getf (v := ov_r 58) d_93_36 fl_OF_78 (zb_0 I) (zs_0 I) (congrArg ov_r e1) ?_
        refine ov_getf (v := ov_r 59) d_93_39 fl_OF_139 (zb_58 I) (zs_58 I) (congrArg ov_r (rg_58_2 I)) ?_
        refine ov_blk (ls2 := [(0, ov_r 0), (1, ov_i x), (2, ov_i y), (3, ov_i w), (4, ov_i v3)]) (st2 := [ov_i v3, ov_r 59]) (pc2 := 44) b_93_42_1 rfl rfl ?_
        refine ov_iald d_93_44 (zb_59 I) (zs_59 I) (by omega) ?_
        have g7 := ra_59 I v3
        refine ov_blk (ls2 := [(0, ov_r 0), (1, ov_i x), (2, ov_i y), (3, ov_i w), (4, ov_i v3)]) (st2 := [ov_i (-1), ov_i (h 59 v3)]) (pc2 := 46) b_93_45_1 rfl rfl ?_
        refine ov_icne (tgt := 51) d_93_46 (by decide) (by omega) (by omega) (fun c8 => ?_) (fun c8 => ?_)
        · skip
          refine ov_blk (ls2 := [(0, ov_r 0), (1, ov_i x), (2, ov_i y), (3, ov_i w), (4, ov_i v3)]) (st2 := [ov_i w]) (pc2 := 52) b_93_51_1 rfl rfl ?_
          by_cases q9 : w = 0
          · refine ov_tin (off := 36) (tgt := 88) d_93_52 (by omega) (by omega) (by rw [q9]; rfl) (by decide) ?_
            refine ov_blk (ls2 := [(0, ov_r 0), (1, ov_i x), (2, ov_i y), (3, ov_i w), (4, ov_i v3)]) (st2 := [ov_r 0]) (pc2 := 89) b_93_88_1 rfl rfl ?_
            refine ov_getf (v := ov_r 58) d_93_89 fl_OF_78 (zb_0 I) (zs_0 I) (congrArg ov_r e1) ?_
            refine ov_getf (v := ov_r 59) d_93_92 fl_OF_139 (zb_58 I) (zs_58 I) (congrArg ov_r (rg_58_2 I)) ?_
            refine ov_blk (ls2 := [(0, ov_r 0), (1, ov_i x), (2, ov_i y), (3, ov_i w), (4, ov_i v3)]) (st2 := [ov_i v3, ov_r 59]) (pc2 := 97) b_93_95_1 rfl rfl ?_
            refine ov_iald d_93_97 (zb_59 I) (zs_59 I) (by omega) ?_
            exact ov_reti (st := []) d_93_98 rfl ⟨_, rfl, rfl, rfl, trivial⟩
          by_cases q11 : w = 1
          · refine ov_tin (off := 47) (tgt := 99) d_93_52 (by omega) (by omega) (by rw [q11]; rfl) (by decide) ?_
            refine ov_blk (ls2 := [(0, ov_r 0), (1, ov_i x), (2, ov_i y), (3, ov_i w), (4, ov_i v3)]) (st2 := [ov_r 0]) (pc2 := 100) b_93_99_1 rfl rfl ?_
            refine ov_getf (v := ov_r 58) d_93_100 fl_OF_78 (zb_0 I) (zs_0 I) (congrArg ov_r e1) ?_
            refine ov_getf (v := ov_r 60) d_93_103 fl_OF_142 (zb_58 I) (zs_58 I) (congrArg ov_r (rg_58_3 I)) ?_
            refine ov_blk (ls2 := [(0, ov_r 0), (1, ov_i x), (2, ov_i y), (3, ov_i w), (4, ov_i v3)]) (st2 := [ov_i v3, ov_r 60]) (pc2 := 108) b_93_106_1 rfl rfl ?_
            refine ov_iald d_93_108 (zb_60 I) (zs_60 I) (by omega) ?_
            have g12 := ra_60 I v3
            exact ov_reti (st := []) d_93_109 rfl ⟨_, rfl, rfl, rfl, trivial⟩
          by_cases q13 : w = 2
          · refine ov_tin (off := 58) (tgt := 110) d_93_52 (by omega) (by omega) (by rw [q13]; rfl) (by decide) ?_
            refine ov_blk (ls2 := [(0, ov_r 0), (1, ov_i x), (2, ov_i y), (3, ov_i w), (4, ov_i v3)]) (st2 := [ov_r 0]) (pc2 := 111) b_93_110_1 rfl rfl ?_
            refine ov_getf (v := ov_r 58) d_93_111 fl_OF_78 (zb_0 I) (zs_0 I) (congrArg ov_r e1) ?_
            refine ov_getf (v := ov_r 61) d_93_114 fl_OF_145 (zb_58 I) (zs_58 I) (congrArg ov_r (rg_58_4 I)) ?_
            refine ov_blk (ls2 := [(0, ov_r 0), (1, ov_i x), (2, ov_i y), (3, ov_i w), (4, ov_i v3)]) (st2 := [ov_i v3, ov_r 61]) (pc2 := 119) b_93_117_1 rfl rfl ?_
            refine ov_iald d_93_119 (zb_61 I) (zs_61 I) (by omega) ?_
            have g14 := ra_61 I v3
            exact ov_reti (st := []) d_93_120 rfl ⟨_, rfl, rfl, rfl, trivial⟩
          by_cases q15 : w = 3
          · refine ov_tin (off := 69) (tgt := 121) d_93_52 (by omega) (by omega) (by rw [q15]; rfl) (by decide) ?_
            refine ov_blk (ls2 := [(0, ov_r 0), (1, ov_i x), (2, ov_i y), (3, ov_i w), (4, ov_i v3)]) (st2 := [ov_r 0]) (pc2 := 122) b_93_121_1 rfl rfl ?_
            refine ov_getf (v := ov_r 58) d_93_122 fl_OF_78 (zb_0 I) (zs_0 I) (congrArg ov_r e1) ?_
            refine ov_getf (v := ov_r 62) d_93_125 fl_OF_148 (zb_58 I) (zs_58 I) (congrArg ov_r (rg_58_5 I)) ?_
            refine ov_blk (ls2 := [(0, ov_r 0), (1, ov_i x), (2, ov_i y), (3, ov_i w), (4, ov_i v3)]) (st2 := [ov_i v3, ov_r 62]) (pc2 := 130) b_93_128_1 rfl rfl ?_
            refine ov_iald d_93_130 (zb_62 I) (zs_62 I) (by omega) ?_
            have g16 := ra_62 I v3
            exact ov_reti (st := []) d_93_131 rfl ⟨_, rfl, rfl, rfl, trivial⟩
          by_cases q17 : w = 4
          · refine ov_tin (off := 80) (tgt := 132) d_93_52 (by omega) (by omega) (by rw [q17]; rfl) (by decide) ?_
            refine ov_blk (ls2 := [(0, ov_r 0), (1, ov_i x), (2, ov_i y), (3, ov_i w), (4, ov_i v3)]) (st2 := [ov_r 0]) (pc2 := 133) b_93_132_1 rfl rfl ?_
            refine ov_getf (v := ov_r 58) d_93_133 fl_OF_78 (zb_0 I) (zs_0 I) (congrArg ov_r e1) ?_
            refine ov_getf (v := ov_r 59) d_93_136 fl_OF_139 (zb_58 I) (zs_58 I) (congrArg ov_r (rg_58_2 I)) ?_
            refine ov_blk (ls2 := [(0, ov_r 0), (1, ov_i x), (2, ov_i y), (3, ov_i w), (4, ov_i v3)]) (st2 := [ov_i v3, ov_r 59]) (pc2 := 141) b_93_139_1 rfl rfl ?_
            refine ov_iald d_93_141 (zb_59 I) (zs_59 I) (by omega) ?_
            refine ov_blk (ls2 := [(0, ov_r 0), (1, ov_i x), (2, ov_i y), (3, ov_i w), (4, ov_i v3)]) (st2 := [ov_i 1, ov_i (h 59 v3)]) (pc2 := 143) b_93_142_1 rfl rfl ?_
            refine ov_icne (tgt := 162) d_93_143 (by decide) (by omega) (by omega) (fun c19 => ?_) (fun c19 => ?_)
            · skip
              refine ov_blk (ls2 := [(0, ov_r 0), (1, ov_i x), (2, ov_i y), (3, ov_i w), (4, ov_i v3)]) (st2 := [ov_i 0]) (pc2 := 163) b_93_162_1 rfl rfl ?_
              exact ov_reti (st := []) d_93_163 rfl ⟨_, rfl, rfl, rfl, trivial⟩
            · skip
              refine ov_blk (ls2 := [(0, ov_r 0), (1, ov_i x), (2, ov_i y), (3, ov_i w), (4, ov_i v3)]) (st2 := [ov_r 0]) (pc2 := 147) b_93_146_1 rfl rfl ?_
              refine ov_getf (v := ov_r 4) d_93_147 fl_OF_28 (zb_0 I) (zs_0 I) (congrArg ov_r (rg_0_2 I)) ?_
              refine ov_blk (ls2 := [(0, ov_r 0), (1, ov_i x), (2, ov_i y), (3, ov_i w), (4, ov_i v3)]) (st2 := [ov_i v3, ov_r 4]) (pc2 := 152) b_93_150_1 rfl rfl ?_
              refine ov_cV (as := [ov_i v3]) (st := []) (d2 := d - 1) d_93_152 lk_OF_151 rfl (Nat.le_of_ble_eq_true rfl) (c := 7) (zb_4 I) (zs_4 I) ⟨by decide, rfl⟩ (by omega) (c_State_knows_4 (d - 1) (by omega) U I v3 (by omega)) ?_
              rintro _ _ _ ⟨v21, rfl, rfl, rfl, f20⟩
              show ov_R u d ov_m93 155 [(0, ov_r 0), (1, ov_i x), (2, ov_i y), (3, ov_i w), (4, ov_i v3)] [ov_i v21] z h (P_OF_light_0 F z h x y w)
              have f22 : (v21 = 0 ∨ v21 = 1) := f20
              clear f20
              refine ov_ifeq (tgt := 162) d_93_155 (by decide) (by omega) (fun c23 => ?_) (fun c23 => ?_)
              · skip
                refine ov_blk (ls2 := [(0, ov_r 0), (1, ov_i x), (2, ov_i y), (3, ov_i w), (4, ov_i v3)]) (st2 := [ov_i 0]) (pc2 := 163) b_93_162_1 rfl rfl ?_
                exact ov_reti (st := []) d_93_163 rfl ⟨_, rfl, rfl, rfl, trivial⟩
              · skip
                refine ov_blk (ls2 := [(0, ov_r 0), (1, ov_i x), (2, ov_i y), (3, ov_i w), (4, ov_i v3)]) (st2 := [ov_i 1]) (pc2 := 159) b_93_158_1 rfl rfl ?_
                refine ov_goto (tgt := 163) d_93_159 (by decide) ?_
                exact ov_reti (st := []) d_93_163 rfl ⟨_, rfl, rfl, rfl, trivial⟩
          refine ov_tout (tgt := 164) d_93_52 (by omega) (by omega) (by decide) ?_
          refine ov_blk (ls2 := [(0, ov_r 0), (1, ov_i x), (2, ov_i y), (3, ov_i w), (4, ov_i v3)]) (st2 := [ov_i (-1)]) (pc2 := 165) b_93_164_1 rfl rfl ?_
          exact ov_reti (st := []) d_93_165 rfl ⟨_, rfl, rfl, rfl, trivial⟩
        · skip
          refine ov_blk (ls2 := [(0, ov_r 0), (1, ov_i x), (2, ov_i y), (3, ov_i w), (4, ov_i v3)]) (st2 := [ov_i (-1)]) (pc2 := 50) b_93_49_1 rfl rfl ?_
          exact ov_reti (st := []) d_93_50 rfl ⟨_, rfl, rfl, rfl, trivial⟩
      · skip
        refine ov_blk (ls2 := [(0, ov_r 0), (1, ov_i x), (2, ov_i y), (3, ov_i w), (4, ov_i v3)]) (st2 := [ov_r 0]) (pc2 := 25) b_93_24_1 rfl rfl ?_
        refine ov_getf (v := ov_r 58) d_93_25 fl_OF_78 (zb_0 I) (zs_0 I) (congrArg ov_r e1) ?_
        refine ov_getf (v := ov_r 63) d_93_28 fl_OF_135 (zb_58 I) (zs_58 I) (congrArg ov_r (rg_58_6 I)) ?_
        refine ov_blk (ls2 := [(0, ov_r 0), (1, ov_i x), (2, ov_i y), (3, ov_i w), (4, ov_i v3)]) (st2 := [ov_i v3, ov_r 63]) (pc2 := 33) b_93_31_1 rfl rfl ?_
        refine ov_iald d_93_33 (zb_63 I) (zs_63 I) (by omega) ?_
        have g24 := ra_63 I v3
        exact ov_reti (st := []) d_93_34 rfl ⟨_, rfl, rfl, rfl, trivial⟩
    · skip
      refine ov_blk (ls2 := [(0, ov_r 0), (1, ov_i x), (2, ov_i y), (3, ov_i w), (4, ov_i v3)]) (st2 := [ov_i (-1)]) (pc2 := 18) b_93_17_1 rfl rfl ?_
      exact ov_reti (st := []) d_93_18 rfl ⟨_, rfl, rfl, rfl, trivial⟩
  · skip
    refine ov_getf (v := ov_r 70) d_93_1 fl_OF_78 (zb_0 I) (zs_0 I) (congrArg ov_r e1) ?_
    refine ov_blk (ls2 := [(0, ov_r 0), (1, ov_i x), (2, ov_i y), (3, ov_i w)]) (st2 := [ov_i y, ov_i x, ov_r 70]) (pc2 := 6) b_93_4_2 rfl rfl ?_
    refine ov_cV (as := [ov_i x, ov_i y]) (st := []) (d2 := d - 1) d_93_6 lk_OF_131 rfl (Nat.le_of_ble_eq_true rfl) (c := 9) (zb_70 I) (zs_70 I) ⟨by decide, rfl⟩ (by omega) (c_Town_corner_70 (d - 1) (by omega) U I x y (by omega) (by omega)) ?_
    rintro _ _ _ ⟨v26, rfl, rfl, rfl, f25⟩
    show ov_R u d ov_m93 9 [(0, ov_r 0), (1, ov_i x), (2, ov_i y), (3, ov_i w)] [ov_i v26] z h (P_OF_light_0 F z h x y w)
    have f27 : v26 = -1 ∨ (0 ≤ x ∧ x < (h 70 0) ∧ 0 ≤ y ∧ y < (h 70 1) ∧ v26 = y * 6 + x ∧ (h 70 0) ≤ 6 ∧ (h 70 1) ≤ 9) := f25
    clear f25
    refine ov_blk (ls2 := [(0, ov_r 0), (1, ov_i x), (2, ov_i y), (3, ov_i w), (4, ov_i v26)]) (st2 := [ov_i (-1), ov_i v26]) (pc2 := 14) b_93_9_3 rfl rfl ?_
    refine ov_icne (tgt := 19) d_93_14 (by decide) (by omega) (by omega) (fun c28 => ?_) (fun c28 => ?_)
    · skip
      refine ov_blk (ls2 := [(0, ov_r 0), (1, ov_i x), (2, ov_i y), (3, ov_i w), (4, ov_i v26)]) (st2 := [ov_i 5, ov_i w]) (pc2 := 21) b_93_19_2 rfl rfl ?_
      refine ov_icne (tgt := 35) d_93_21 (by decide) (by omega) (by omega) (fun c29 => ?_) (fun c29 => ?_)
      · skip
        refine ov_blk (ls2 := [(0, ov_r 0), (1, ov_i x), (2, ov_i y), (3, ov_i w), (4, ov_i v26)]) (st2 := [ov_r 0]) (pc2 := 36) b_93_35_1 rfl rfl ?_
        refine ov_getf (v := ov_r 70) d_93_36 fl_OF_78 (zb_0 I) (zs_0 I) (congrArg ov_r e1) ?_
        refine ov_getf (v := ov_r 71) d_93_39 fl_OF_139 (zb_70 I) (zs_70 I) (congrArg ov_r (rg_70_2 I)) ?_
        refine ov_blk (ls2 := [(0, ov_r 0), (1, ov_i x), (2, ov_i y), (3, ov_i w), (4, ov_i v26)]) (st2 := [ov_i v26, ov_r 71]) (pc2 := 44) b_93_42_1 rfl rfl ?_
        refine ov_iald d_93_44 (zb_71 I) (zs_71 I) (by omega) ?_
        have g30 := ra_71 I v26
        refine ov_blk (ls2 := [(0, ov_r 0), (1, ov_i x), (2, ov_i y), (3, ov_i w), (4, ov_i v26)]) (st2 := [ov_i (-1), ov_i (h 71 v26)]) (pc2 := 46) b_93_45_1 rfl rfl ?_
        refine ov_icne (tgt := 51) d_93_46 (by decide) (by omega) (by omega) (fun c31 => ?_) (fun c31 => ?_)
        · skip
          refine ov_blk (ls2 := [(0, ov_r 0), (1, ov_i x), (2, ov_i y), (3, ov_i w), (4, ov_i v26)]) (st2 := [ov_i w]) (pc2 := 52) b_93_51_1 rfl rfl ?_
          by_cases q32 : w = 0
          · refine ov_tin (off := 36) (tgt := 88) d_93_52 (by omega) (by omega) (by rw [q32]; rfl) (by decide) ?_
            refine ov_blk (ls2 := [(0, ov_r 0), (1, ov_i x), (2, ov_i y), (3, ov_i w), (4, ov_i v26)]) (st2 := [ov_r 0]) (pc2 := 89) b_93_88_1 rfl rfl ?_
            refine ov_getf (v := ov_r 70) d_93_89 fl_OF_78 (zb_0 I) (zs_0 I) (congrArg ov_r e1) ?_
            refine ov_getf (v := ov_r 71) d_93_92 fl_OF_139 (zb_70 I) (zs_70 I) (congrArg ov_r (rg_70_2 I)) ?_
            refine ov_blk (ls2 := [(0, ov_r 0), (1, ov_i x), (2, ov_i y), (3, ov_i w), (4, ov_i v26)]) (st2 := [ov_i v26, ov_r 71]) (pc2 := 97) b_93_95_1 rfl rfl ?_
            refine ov_iald d_93_97 (zb_71 I) (zs_71 I) (by omega) ?_
            exact ov_reti (st := []) d_93_98 rfl ⟨_, rfl, rfl, rfl, trivial⟩
          by_cases q34 : w = 1
          · refine ov_tin (off := 47) (tgt := 99) d_93_52 (by omega) (by omega) (by rw [q34]; rfl) (by decide) ?_
            refine ov_blk (ls2 := [(0, ov_r 0), (1, ov_i x), (2, ov_i y), (3, ov_i w), (4, ov_i v26)]) (st2 := [ov_r 0]) (pc2 := 100) b_93_99_1 rfl rfl ?_
            refine ov_getf (v := ov_r 70) d_93_100 fl_OF_78 (zb_0 I) (zs_0 I) (congrArg ov_r e1) ?_
            refine ov_getf (v := ov_r 72) d_93_103 fl_OF_142 (zb_70 I) (zs_70 I) (congrArg ov_r (rg_70_3 I)) ?_
            refine ov_blk (ls2 := [(0, ov_r 0), (1, ov_i x), (2, ov_i y), (3, ov_i w), (4, ov_i v26)]) (st2 := [ov_i v26, ov_r 72]) (pc2 := 108) b_93_106_1 rfl rfl ?_
            refine ov_iald d_93_108 (zb_72 I) (zs_72 I) (by omega) ?_
            have g35 := ra_72 I v26
            exact ov_reti (st := []) d_93_109 rfl ⟨_, rfl, rfl, rfl, trivial⟩
          by_cases q36 : w = 2
          · refine ov_tin (off := 58) (tgt := 110) d_93_52 (by omega) (by omega) (by rw [q36]; rfl) (by decide) ?_
            refine ov_blk (ls2 := [(0, ov_r 0), (1, ov_i x), (2, ov_i y), (3, ov_i w), (4, ov_i v26)]) (st2 := [ov_r 0]) (pc2 := 111) b_93_110_1 rfl rfl ?_
            refine ov_getf (v := ov_r 70) d_93_111 fl_OF_78 (zb_0 I) (zs_0 I) (congrArg ov_r e1) ?_
            refine ov_getf (v := ov_r 73) d_93_114 fl_OF_145 (zb_70 I) (zs_70 I) (congrArg ov_r (rg_70_4 I)) ?_
            refine ov_blk (ls2 := [(0, ov_r 0), (1, ov_i x), (2, ov_i y), (3, ov_i w), (4, ov_i v26)]) (st2 := [ov_i v26, ov_r 73]) (pc2 := 119) b_93_117_1 rfl rfl ?_
            refine ov_iald d_93_119 (zb_73 I) (zs_73 I) (by omega) ?_
            have g37 := ra_73 I v26
            exact ov_reti (st := []) d_93_120 rfl ⟨_, rfl, rfl, rfl, trivial⟩
          by_cases q38 : w = 3
          · refine ov_tin (off := 69) (tgt := 121) d_93_52 (by omega) (by omega) (by rw [q38]; rfl) (by decide) ?_
            refine ov_blk (ls2 := [(0, ov_r 0), (1, ov_i x), (2, ov_i y), (3, ov_i w), (4, ov_i v26)]) (st2 := [ov_r 0]) (pc2 := 122) b_93_121_1 rfl rfl ?_
            refine ov_getf (v := ov_r 70) d_93_122 fl_OF_78 (zb_0 I) (zs_0 I) (congrArg ov_r e1) ?_
            refine ov_getf (v := ov_r 74) d_93_125 fl_OF_148 (zb_70 I) (zs_70 I) (congrArg ov_r (rg_70_5 I)) ?_
            refine ov_blk (ls2 := [(0, ov_r 0), (1, ov_i x), (2, ov_i y), (3, ov_i w), (4, ov_i v26)]) (st2 := [ov_i v26, ov_r 74]) (pc2 := 130) b_93_128_1 rfl rfl ?_
            refine ov_iald d_93_130 (zb_74 I) (zs_74 I) (by omega) ?_
            have g39 := ra_74 I v26
            exact ov_reti (st := []) d_93_131 rfl ⟨_, rfl, rfl, rfl, trivial⟩
          by_cases q40 : w = 4
          · refine ov_tin (off := 80) (tgt := 132) d_93_52 (by omega) (by omega) (by rw [q40]; rfl) (by decide) ?_
            refine ov_blk (ls2 := [(0, ov_r 0), (1, ov_i x), (2, ov_i y), (3, ov_i w), (4, ov_i v26)]) (st2 := [ov_r 0]) (pc2 := 133) b_93_132_1 rfl rfl ?_
            refine ov_getf (v := ov_r 70) d_93_133 fl_OF_78 (zb_0 I) (zs_0 I) (congrArg ov_r e1) ?_
            refine ov_getf (v := ov_r 71) d_93_136 fl_OF_139 (zb_70 I) (zs_70 I) (congrArg ov_r (rg_70_2 I)) ?_
            refine ov_blk (ls2 := [(0, ov_r 0), (1, ov_i x), (2, ov_i y), (3, ov_i w), (4, ov_i v26)]) (st2 := [ov_i v26, ov_r 71]) (pc2 := 141) b_93_139_1 rfl rfl ?_
            refine ov_iald d_93_141 (zb_71 I) (zs_71 I) (by omega) ?_
            refine ov_blk (ls2 := [(0, ov_r 0), (1, ov_i x), (2, ov_i y), (3, ov_i w), (4, ov_i v26)]) (st2 := [ov_i 1, ov_i (h 71 v26)]) (pc2 := 143) b_93_142_1 rfl rfl ?_
            refine ov_icne (tgt := 162) d_93_143 (by decide) (by omega) (by omega) (fun c42 => ?_) (fun c42 => ?_)
            · skip
              refine ov_blk (ls2 := [(0, ov_r 0), (1, ov_i x), (2, ov_i y), (3, ov_i w), (4, ov_i v26)]) (st2 := [ov_i 0]) (pc2 := 163) b_93_162_1 rfl rfl ?_
              exact ov_reti (st := []) d_93_163 rfl ⟨_, rfl, rfl, rfl, trivial⟩
            · skip
              refine ov_blk (ls2 := [(0, ov_r 0), (1, ov_i x), (2, ov_i y), (3, ov_i w), (4, ov_i v26)]) (st2 := [ov_r 0]) (pc2 := 147) b_93_146_1 rfl rfl ?_
              refine ov_getf (v := ov_r 4) d_93_147 fl_OF_28 (zb_0 I) (zs_0 I) (congrArg ov_r (rg_0_2 I)) ?_
              refine ov_blk (ls2 := [(0, ov_r 0), (1, ov_i x), (2, ov_i y), (3, ov_i w), (4, ov_i v26)]) (st2 := [ov_i v26, ov_r 4]) (pc2 := 152) b_93_150_1 rfl rfl ?_
              refine ov_cV (as := [ov_i v26]) (st := []) (d2 := d - 1) d_93_152 lk_OF_151 rfl (Nat.le_of_ble_eq_true rfl) (c := 7) (zb_4 I) (zs_4 I) ⟨by decide, rfl⟩ (by omega) (c_State_knows_4 (d - 1) (by omega) U I v26 (by omega)) ?_
              rintro _ _ _ ⟨v44, rfl, rfl, rfl, f43⟩
              show ov_R u d ov_m93 155 [(0, ov_r 0), (1, ov_i x), (2, ov_i y), (3, ov_i w), (4, ov_i v26)] [ov_i v44] z h (P_OF_light_0 F z h x y w)
              have f45 : (v44 = 0 ∨ v44 = 1) := f43
              clear f43
              refine ov_ifeq (tgt := 162) d_93_155 (by decide) (by omega) (fun c46 => ?_) (fun c46 => ?_)
              · skip
                refine ov_blk (ls2 := [(0, ov_r 0), (1, ov_i x), (2, ov_i y), (3, ov_i w), (4, ov_i v26)]) (st2 := [ov_i 0]) (pc2 := 163) b_93_162_1 rfl rfl ?_
                exact ov_reti (st := []) d_93_163 rfl ⟨_, rfl, rfl, rfl, trivial⟩
              · skip
                refine ov_blk (ls2 := [(0, ov_r 0), (1, ov_i x), (2, ov_i y), (3, ov_i w), (4, ov_i v26)]) (st2 := [ov_i 1]) (pc2 := 159) b_93_158_1 rfl rfl ?_
                refine ov_goto (tgt := 163) d_93_159 (by decide) ?_
                exact ov_reti (st := []) d_93_163 rfl ⟨_, rfl, rfl, rfl, trivial⟩
          refine ov_tout (tgt := 164) d_93_52 (by omega) (by omega) (by decide) ?_
          refine ov_blk (ls2 := [(0, ov_r 0), (1, ov_i x), (2, ov_i y), (3, ov_i w), (4, ov_i v26)]) (st2 := [ov_i (-1)]) (pc2 := 165) b_93_164_1 rfl rfl ?_
          exact ov_reti (st := []) d_93_165 rfl ⟨_, rfl, rfl, rfl, trivial⟩
        · skip
          refine ov_blk (ls2 := [(0, ov_r 0), (1, ov_i x), (2, ov_i y), (3, ov_i w), (4, ov_i v26)]) (st2 := [ov_i (-1)]) (pc2 := 50) b_93_49_1 rfl rfl ?_
          exact ov_reti (st := []) d_93_50 rfl ⟨_, rfl, rfl, rfl, trivial⟩
      · skip
        refine ov_blk (ls2 := [(0, ov_r 0), (1, ov_i x), (2, ov_i y), (3, ov_i w), (4, ov_i v26)]) (st2 := [ov_r 0]) (pc2 := 25) b_93_24_1 rfl rfl ?_
        refine ov_getf (v := ov_r 70) d_93_25 fl_OF_78 (zb_0 I) (zs_0 I) (congrArg ov_r e1) ?_
        refine ov_getf (v := ov_r 75) d_93_28 fl_OF_135 (zb_70 I) (zs_70 I) (congrArg ov_r (rg_70_6 I)) ?_
        refine ov_blk (ls2 := [(0, ov_r 0), (1, ov_i x), (2, ov_i y), (3, ov_i w), (4, ov_i v26)]) (st2 := [ov_i v26, ov_r 75]) (pc2 := 33) b_93_31_1 rfl rfl ?_
        refine ov_iald d_93_33 (zb_75 I) (zs_75 I) (by omega) ?_
        have g47 := ra_75 I v26
        exact ov_reti (st := []) d_93_34 rfl ⟨_, rfl, rfl, rfl, trivial⟩
    · skip
      refine ov_blk (ls2 := [(0, ov_r 0), (1, ov_i x), (2, ov_i y), (3, ov_i w), (4, ov_i v26)]) (st2 := [ov_i (-1)]) (pc2 := 18) b_93_17_1 rfl rfl ?_
      exact ov_reti (st := []) d_93_18 rfl ⟨_, rfl, rfl, rfl, trivial⟩

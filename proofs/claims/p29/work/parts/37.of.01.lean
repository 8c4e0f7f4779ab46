abbrev P_History_keep_9_4_b (F : ov_H) (z : ov_Z) (h : ov_H)  : Option ov_V → ov_Z → ov_H → Prop := fun r0 z' h' => r0 = none ∧ ov_I F z' h' ∧ ((h' 4 0) = (h 4 0) ∧ (h' 36 7) = (h 36 7) ∧ (h' 1 1) = (h 1 1) ∧ (h' 90 2) = (h 90 2) ∧ (h' 0 10) = (h 0 10) ∧ (h' 0 11) = (h 0 11) ∧ (h' 0 12) = (h 0 12) ∧ (h' 0 13) = (h 0 13) ∧ (h' 3 1) = (h 3 1) ∧ (h' 36 8) = (h 36 8) ∧ (h' 46 3) = (h 46 3) ∧ (h' 46 4) = (h 46 4) ∧ (h' 49 4) = (h 49 4) ∧ (h' 49 5) = (h 49 5) ∧ (h' 64 0) = (h 64 0) ∧ (h' 76 0) = (h 76 0))
set_option maxHeartbeats 4000000 in
theorem c_History_keep_9_4_b {u : ov_U} {F : ov_H} {z : ov_Z} {h : ov_H} (d : Nat) (hd : 1 ≤ d) (U : ov_cap u) (I : ov_I F z h) (hw : ov_kw 15872 F) : ov_T u d ov_m104 [ov_r 9, ov_r 4] z h (P_History_keep_9_4_b F z h) := by
  refine ov_en rfl (Nat.le_of_ble_eq_true rfl) ?_
  show ov_R u d ov_m104 0 [(0, ov_r 9), (1, ov_r 4)] [] z h (P_History_keep_9_4_b F z h)
  refine ov_blk (ls2 := [(0, ov_r 9), (1, ov_r 4)]) (st2 := [ov_r 9]) (pc2 := 1) b_104_0_1 rfl rfl ?_
  refine ov_getf (v := ov_r 10) d_104_1 fl_History_9 (zb_9 I) (zs_9 I) (congrArg ov_r (rg_9_2 I)) ?_
  refine ov_blk (ls2 := [(0, ov_r 9), (1, ov_r 4)]) (st2 := [ov_r 9, ov_r 10]) (pc2 := 5) b_104_4_1 rfl rfl ?_
  refine ov_getf (v := ov_i (h 9 1)) d_104_5 fl_History_27 (zb_9 I) (zs_9 I) rfl ?_
  have g1 := rg_9_1 I
  refine ov_blk (ls2 := [(0, ov_r 9), (1, ov_r 4)]) (st2 := [ov_r 4, ov_i (h 9 1), ov_r 10]) (pc2 := 9) b_104_8_1 rfl rfl ?_
  refine ov_getf (v := ov_i (h 4 0)) d_104_9 fl_History_30 (zb_4 I) (zs_4 I) rfl ?_
  have g2 := rg_4_0 I
  refine ov_iast d_104_12 (zb_10 I) (zs_10 I) (by omega) ?_
  have I3 := ua_10 (k := (h 9 1)) (x := (h 4 0)) I (by omega) (hw 10 (by decide +kernel))
  refine ov_blk (ls2 := [(0, ov_r 9), (1, ov_r 4)]) (st2 := [ov_r 9]) (pc2 := 14) b_104_13_1 rfl rfl ?_
  refine ov_getf (v := ov_r 11) d_104_14 fl_History_13 (zb_9 I3) (zs_9 I3) (congrArg ov_r (rg_9_3 I3)) ?_
  refine ov_blk (ls2 := [(0, ov_r 9), (1, ov_r 4)]) (st2 := [ov_r 9, ov_r 11]) (pc2 := 18) b_104_17_1 rfl rfl ?_
  refine ov_getf (v := ov_i (h 9 1)) d_104_18 fl_History_27 (zb_9 I3) (zs_9 I3) rfl ?_
  refine ov_blk (ls2 := [(0, ov_r 9), (1, ov_r 4)]) (st2 := [ov_r 4, ov_i (h 9 1), ov_r 11]) (pc2 := 22) b_104_21_1 rfl rfl ?_
  refine ov_getf (v := ov_i (h 4 1)) d_104_22 fl_History_35 (zb_4 I3) (zs_4 I3) rfl ?_
  have g5 := rg_4_1 I
  refine ov_iast d_104_25 (zb_11 I3) (zs_11 I3) (by omega) ?_
  have I6 := ua_11 (k := (h 9 1)) (x := (h 4 1)) I3 (by omega) (hw 11 (by decide +kernel))
  refine ov_blk (ls2 := [(0, ov_r 9), (1, ov_r 4)]) (st2 := [ov_r 9]) (pc2 := 27) b_104_26_1 rfl rfl ?_
  refine ov_getf (v := ov_r 12) d_104_27 fl_History_16 (zb_9 I6) (zs_9 I6) (congrArg ov_r (rg_9_4 I6)) ?_
  refine ov_blk (ls2 := [(0, ov_r 9), (1, ov_r 4)]) (st2 := [ov_r 9, ov_r 12]) (pc2 := 31) b_104_30_1 rfl rfl ?_
  refine ov_getf (v := ov_i (h 9 1)) d_104_31 fl_History_27 (zb_9 I6) (zs_9 I6) rfl ?_
  refine ov_blk (ls2 := [(0, ov_r 9), (1, ov_r 4)]) (st2 := [ov_r 4, ov_i (h 9 1), ov_r 12]) (pc2 := 35) b_104_34_1 rfl rfl ?_
  refine ov_getf (v := ov_i (h 4 2)) d_104_35 fl_History_38 (zb_4 I6) (zs_4 I6) rfl ?_
  have g8 := rg_4_2 I
  refine ov_iast d_104_38 (zb_12 I6) (zs_12 I6) (by omega) ?_
  have I9 := ua_12 (k := (h 9 1)) (x := (h 4 2)) I6 (by omega) (hw 12 (by decide +kernel))
  refine ov_blk (ls2 := [(0, ov_r 9), (1, ov_r 4)]) (st2 := [ov_r 9]) (pc2 := 40) b_104_39_1 rfl rfl ?_
  refine ov_getf (v := ov_r 13) d_104_40 fl_History_19 (zb_9 I9) (zs_9 I9) (congrArg ov_r (rg_9_5 I9)) ?_
  refine ov_blk (ls2 := [(0, ov_r 9), (1, ov_r 4)]) (st2 := [ov_r 9, ov_r 13]) (pc2 := 44) b_104_43_1 rfl rfl ?_
  refine ov_getf (v := ov_i (h 9 1)) d_104_44 fl_History_27 (zb_9 I9) (zs_9 I9) rfl ?_
  refine ov_blk (ls2 := [(0, ov_r 9), (1, ov_r 4)]) (st2 := [ov_r 4, ov_i (h 9 1), ov_r 13]) (pc2 := 48) b_104_47_1 rfl rfl ?_
  refine ov_getf (v := ov_l (h 4 3)) d_104_48 fl_History_40 (zb_4 I9) (zs_4 I9) rfl ?_
  refine ov_last d_104_51 (zb_13 I9) (zs_13 I9) (by omega) ?_
  have I11 := ua_13 (k := (h 9 1)) (x := (h 4 3)) I9 (hw 13 (by decide +kernel))
  refine ov_blk (ls2 := [(0, ov_r 9), (1, ov_r 4)]) (st2 := [ov_r 9, ov_r 9]) (pc2 := 54) b_104_52_2 rfl rfl ?_
  refine ov_getf (v := ov_i (h 9 1)) d_104_54 fl_History_27 (zb_9 I11) (zs_9 I11) rfl ?_
  refine ov_blk (ls2 := [(0, ov_r 9), (1, ov_r 4)]) (st2 := [ov_i 16, ov_i ((h 9 1) + 1), ov_r 9]) (pc2 := 61) b_104_57_3 rfl rfl ?_
  refine ov_irem d_104_61 (by omega) (by omega) (by omega) ?_
  have g13 := ov_tm (a := ((h 9 1) + 1)) (b := 16) (by omega)
  have g14 := ov_tmg (a := ((h 9 1) + 1)) (b := 16) (by omega) (by omega)
  refine ov_putf (x := (Int.tmod ((h 9 1) + 1) 16)) d_104_62 fl_History_27 (zb_9 I11) (zs_9 I11) rfl nk_0 rfl ?_
  have I15 := up_9_1 (x := (Int.tmod ((h 9 1) + 1) 16)) I11 (by omega) (hw 9 (by decide +kernel))
  refine ov_blk (ls2 := [(0, ov_r 9), (1, ov_r 4)]) (st2 := [ov_r 9, ov_r 9]) (pc2 := 67) b_104_65_2 rfl rfl ?_
  refine ov_getf (v := ov_i (h 9 0)) d_104_67 fl_History_23 (zb_9 I15) (zs_9 I15) rfl ?_
  have g16 := rg_9_0 I
  refine ov_blk (ls2 := [(0, ov_r 9), (1, ov_r 4)]) (st2 := [ov_i 16, ov_i ((h 9 0) + 1), ov_r 9]) (pc2 := 74) b_104_70_3 rfl rfl ?_
  refine ov_cS (as := [ov_i ((h 9 0) + 1), ov_i 16]) (st := [ov_r 9]) (d2 := d - 1) d_104_74 lk_History_44 rfl (Nat.le_of_ble_eq_true rfl) (by omega) (c_Math_min (d - 1) (by omega) U I15 ((h 9 0) + 1) 16 (by omega) (by omega)) ?_
  rintro _ _ _ ⟨v18, rfl, rfl, rfl, f17⟩
  show ov_R u d ov_m104 77 [(0, ov_r 9), (1, ov_r 4)] [ov_i v18, ov_r 9] z (ov_up (ov_up (ov_up (ov_up (ov_up h 10 (h 9 1) (h 4 0)) 11 (h 9 1) (h 4 1)) 12 (h 9 1) (h 4 2)) 13 (h 9 1) (h 4 3)) 9 1 (Int.tmod ((h 9 1) + 1) 16)) (P_History_keep_9_4_b F z h)
  have f19 : v18 ≤ ((h 9 0) + 1) ∧ v18 ≤ (16 : Int) ∧ (v18 = ((h 9 0) + 1) ∨ v18 = (16 : Int)) := f17
  clear f17
  refine ov_putf (x := v18) d_104_77 fl_History_23 (zb_9 I15) (zs_9 I15) rfl nk_0 rfl ?_
  have I20 := up_9_0 (x := v18) I15 (by omega) (hw 9 (by decide +kernel))
  exact ov_retv (st := []) d_104_80 rfl ⟨rfl, I20, (by show (h 4 0) = (h 4 0) ∧ (h 36 7) = (h 36 7) ∧ (h 1 1) = (h 1 1) ∧ (h 90 2) = (h 90 2) ∧ (h 0 10) = (h 0 10) ∧ (h 0 11) = (h 0 11) ∧ (h 0 12) = (h 0 12) ∧ (h 0 13) = (h 0 13) ∧ (h 3 1) = (h 3 1) ∧ (h 36 8) = (h 36 8) ∧ (h 46 3) = (h 46 3) ∧ (h 46 4) = (h 46 4) ∧ (h 49 4) = (h 49 4) ∧ (h 49 5) = (h 49 5) ∧ (h 64 0) = (h 64 0) ∧ (h 76 0) = (h 76 0); omega)⟩
abbrev P_OF_isGoer_0 (F : ov_H) (z : ov_Z) (h : ov_H) (g : Int) : Option ov_V → ov_Z → ov_H → Prop := fun r0 z' h' => ∃ r : Int, r0 = some (ov_i r) ∧ z = z' ∧ h = h' ∧ ((r = 0 ∨ r = 1) ∧ (r = 1 → 0 ≤ g ∧ g ≤ 7))
set_option maxHeartbeats 4000000 in
theorem c_OF_isGoer_0 {u : ov_U} {F : ov_H} {z : ov_Z} {h : ov_H} (d : Nat) (hd : 0 ≤ d) (U : ov_cap u) (I : ov_I F z h) (g : Int) (g_g : ov_g g) : ov_T u d ov_m122 [ov_r 0, ov_i g] z h (P_OF_isGoer_0 F z h g) := by
  refine ov_en rfl (Nat.le_of_ble_eq_true rfl) ?_
  show ov_R u d ov_m122 0 [(0, ov_r 0), (1, ov_i g)] [] z h (P_OF_isGoer_0 F z h g)
  refine ov_blk (ls2 := [(0, ov_r 0), (1, ov_i g)]) (st2 := [ov_i g]) (pc2 := 1) b_122_0_1 rfl rfl ?_
  refine ov_iflt (tgt := 21) d_122_1 (by decide) (by omega) (fun c1 => ?_) (fun c1 => ?_)
  · skip
    refine ov_blk (ls2 := [(0, ov_r 0), (1, ov_i g)]) (st2 := [ov_i 0]) (pc2 := 22) b_122_21_1 rfl rfl ?_
    exact ov_retz (st := []) d_122_22 rfl (by omega) ⟨_, rfl, rfl, rfl, (by show (0 = 0 ∨ 0 = 1) ∧ (0 = 1 → 0 ≤ g ∧ g ≤ 7); omega)⟩
  · skip
    refine ov_blk (ls2 := [(0, ov_r 0), (1, ov_i g)]) (st2 := [ov_r 0, ov_i 4, ov_i g]) (pc2 := 7) b_122_4_3 rfl rfl ?_
    rcases rg_0_10 I with e2 | e2
    · skip
      refine ov_getf (v := ov_r 58) d_122_7 fl_OF_78 (zb_0 I) (zs_0 I) (congrArg ov_r e2) ?_
      refine ov_getf (v := ov_i (h 58 11)) d_122_10 fl_OF_292 (zb_58 I) (zs_58 I) rfl ?_
      have g3 := rg_58_11 I
      refine ov_blk (ls2 := [(0, ov_r 0), (1, ov_i g)]) (st2 := [ov_i (4 + (h 58 11)), ov_i g]) (pc2 := 14) b_122_13_1 rfl rfl ?_
      refine ov_icge (tgt := 21) d_122_14 (by decide) (by omega) (by omega) (fun c4 => ?_) (fun c4 => ?_)
      · skip
        refine ov_blk (ls2 := [(0, ov_r 0), (1, ov_i g)]) (st2 := [ov_i 0]) (pc2 := 22) b_122_21_1 rfl rfl ?_
        exact ov_retz (st := []) d_122_22 rfl (by omega) ⟨_, rfl, rfl, rfl, (by show (0 = 0 ∨ 0 = 1) ∧ (0 = 1 → 0 ≤ g ∧ g ≤ 7); omega)⟩
      · skip
        refine ov_blk (ls2 := [(0, ov_r 0), (1, ov_i g)]) (st2 := [ov_i 1]) (pc2 := 18) b_122_17_1 rfl rfl ?_
        refine ov_goto (tgt := 22) d_122_18 (by decide) ?_
        exact ov_retz (st := []) d_122_22 rfl (by omega) ⟨_, rfl, rfl, rfl, (by show (1 = 0 ∨ 1 = 1) ∧ (1 = 1 → 0 ≤ g ∧ g ≤ 7); omega)⟩
    · skip
      refine ov_getf (v := ov_r 70) d_122_7 fl_OF_78 (zb_0 I) (zs_0 I) (congrArg ov_r e2) ?_
      refine ov_getf (v := ov_i (h 70 11)) d_122_10 fl_OF_292 (zb_70 I) (zs_70 I) rfl ?_
      have g5 := rg_70_11 I
      refine ov_blk (ls2 := [(0, ov_r 0), (1, ov_i g)]) (st2 := [ov_i (4 + (h 70 11)), ov_i g]) (pc2 := 14) b_122_13_1 rfl rfl ?_
      refine ov_icge (tgt := 21) d_122_14 (by decide) (by omega) (by omega) (fun c6 => ?_) (fun c6 => ?_)
      · skip
        refine ov_blk (ls2 := [(0, ov_r 0), (1, ov_i g)]) (st2 := [ov_i 0]) (pc2 := 22) b_122_21_1 rfl rfl ?_
        exact ov_retz (st := []) d_122_22 rfl (by omega) ⟨_, rfl, rfl, rfl, (by show (0 = 0 ∨ 0 = 1) ∧ (0 = 1 → 0 ≤ g ∧ g ≤ 7); omega)⟩
      · skip
        refine ov_blk (ls2 := [(0, ov_r 0), (1, ov_i g)]) (st2 := [ov_i 1]) (pc2 := 18) b_122_17_1 rfl rfl ?_
        refine ov_goto (tgt := 22) d_122_18 (by decide) ?_
        exact ov_retz (st := []) d_122_22 rfl (by omega) ⟨_, rfl, rfl, rfl, (by show (1 = 0 ∨ 1 = 1) ∧ (1 = 1 → 0 ≤ g ∧ g ≤ 7); omega)⟩
abbrev P_OF_runsLeft_0 (F : ov_H) (z : ov_Z) (h : ov_H)  : Option ov_V → ov_Z → ov_H → Prop := fun r0 z' h' => ∃ r : Int, r0 = some (ov_i r) ∧ z = z' ∧ h = h' ∧ (-2147483648 ≤ r ∧ r ≤ 2147483647)
set_option maxHeartbeats 4000000 in
theorem c_OF_runsLeft_0 {u : ov_U} {F : ov_H} {z : ov_Z} {h : ov_H} (d : Nat) (hd : 0 ≤ d) (U : ov_cap u) (I : ov_I F z h) : ov_T u d ov_m103 [ov_r 0] z h (P_OF_runsLeft_0 F z h) := by
  refine ov_en rfl (Nat.le_of_ble_eq_true rfl) ?_
  show ov_R u d ov_m103 0 [(0, ov_r 0)] [] z h (P_OF_runsLeft_0 F z h)
  refine ov_blk (ls2 := [(0, ov_r 0)]) (st2 := [ov_r 0]) (pc2 := 1) b_103_0_1 rfl rfl ?_
  rcases rg_0_10 I with e1 | e1
  · skip
    refine ov_getf (v := ov_r 58) d_103_1 fl_OF_78 (zb_0 I) (zs_0 I) (congrArg ov_r e1) ?_
    refine ov_getf (v := ov_i (h 58 8)) d_103_4 fl_OF_188 (zb_58 I) (zs_58 I) rfl ?_
    have g2 := rg_58_8 I
    refine ov_ifeq (tgt := 14) d_103_7 (by decide) (by omega) (fun c3 => ?_) (fun c3 => ?_)
    · skip
      refine ov_blk (ls2 := [(0, ov_r 0)]) (st2 := [ov_r 0]) (pc2 := 15) b_103_14_1 rfl rfl ?_
      refine ov_getf (v := ov_r 58) d_103_15 fl_OF_78 (zb_0 I) (zs_0 I) (congrArg ov_r e1) ?_
      refine ov_getf (v := ov_r 64) d_103_18 fl_OF_176 (zb_58 I) (zs_58 I) (congrArg ov_r (rg_58_7 I)) ?_
      refine ov_blk (ls2 := [(0, ov_r 0)]) (st2 := [ov_i 3, ov_r 64]) (pc2 := 22) b_103_21_1 rfl rfl ?_
      refine ov_iald d_103_22 (zb_64 I) (zs_64 I) (by omega) ?_
      have g4 := ra_64 I 3
      refine ov_blk (ls2 := [(0, ov_r 0)]) (st2 := [ov_r 0, ov_i (h 64 3)]) (pc2 := 24) b_103_23_1 rfl rfl ?_
      refine ov_getf (v := ov_r 4) d_103_24 fl_OF_28 (zb_0 I) (zs_0 I) (congrArg ov_r (rg_0_2 I)) ?_
      refine ov_getf (v := ov_i (h 4 2)) d_103_27 fl_OF_185 (zb_4 I) (zs_4 I) rfl ?_
      have g5 := rg_4_2 I
      refine ov_blk (ls2 := [(0, ov_r 0)]) (st2 := [ov_i ((h 64 3) - (h 4 2))]) (pc2 := 31) b_103_30_1 rfl rfl ?_
      refine ov_havw (fun w6 gw6 qw6 => ?_)
      exact ov_reti (st := []) d_103_31 rfl ⟨_, rfl, rfl, rfl, (by show -2147483648 ≤ w6 ∧ w6 ≤ 2147483647; omega)⟩
    · skip
      refine ov_blk (ls2 := [(0, ov_r 0)]) (st2 := [ov_i 0]) (pc2 := 11) b_103_10_1 rfl rfl ?_
      refine ov_goto (tgt := 31) d_103_11 (by decide) ?_
      exact ov_reti (st := []) d_103_31 rfl ⟨_, rfl, rfl, rfl, (by show -2147483648 ≤ 0 ∧ 0 ≤ 2147483647; omega)⟩
  · skip
    refine ov_getf (v := ov_r 70) d_103_1 fl_OF_78 (zb_0 I) (zs_0 I) (congrArg ov_r e1) ?_
    refine ov_getf (v := ov_i (h 70 8)) d_103_4 fl_OF_188 (zb_70 I) (zs_70 I) rfl ?_
    have g7 := rg_70_8 I
    refine ov_ifeq (tgt := 14) d_103_7 (by decide) (by omega) (fun c8 => ?_) (fun c8 => ?_)
    · skip
      refine ov_blk (ls2 := [(0, ov_r 0)]) (st2 := [ov_r 0]) (pc2 := 15) b_103_14_1 rfl rfl ?_
      refine ov_getf (v := ov_r 70) d_103_15 fl_OF_78 (zb_0 I) (zs_0 I) (congrArg ov_r e1) ?_
      refine ov_getf (v := ov_r 76) d_103_18 fl_OF_176 (zb_70 I) (zs_70 I) (congrArg ov_r (rg_70_7 I)) ?_
      refine ov_blk (ls2 := [(0, ov_r 0)]) (st2 := [ov_i 3, ov_r 76]) (pc2 := 22) b_103_21_1 rfl rfl ?_
      refine ov_iald d_103_22 (zb_76 I) (zs_76 I) (by omega) ?_
      have g9 := ra_76 I 3
      refine ov_blk (ls2 := [(0, ov_r 0)]) (st2 := [ov_r 0, ov_i (h 76 3)]) (pc2 := 24) b_103_23_1 rfl rfl ?_
      refine ov_getf (v := ov_r 4) d_103_24 fl_OF_28 (zb_0 I) (zs_0 I) (congrArg ov_r (rg_0_2 I)) ?_
      refine ov_getf (v := ov_i (h 4 2)) d_103_27 fl_OF_185 (zb_4 I) (zs_4 I) rfl ?_
      have g10 := rg_4_2 I
      refine ov_blk (ls2 := [(0, ov_r 0)]) (st2 := [ov_i ((h 76 3) - (h 4 2))]) (pc2 := 31) b_103_30_1 rfl rfl ?_
      refine ov_havw (fun w11 gw11 qw11 => ?_)
      exact ov_reti (st := []) d_103_31 rfl ⟨_, rfl, rfl, rfl, (by show -2147483648 ≤ w11 ∧ w11 ≤ 2147483647; omega)⟩
    · skip
      refine ov_blk (ls2 := [(0, ov_r 0)]) (st2 := [ov_i 0]) (pc2 := 11) b_103_10_1 rfl rfl ?_
      refine ov_goto (tgt := 31) d_103_11 (by decide) ?_
      exact ov_reti (st := []) d_103_31 rfl ⟨_, rfl, rfl, rfl, (by show -2147483648 ≤ 0 ∧ 0 ≤ 2147483647; omega)⟩
abbrev P_OF_hiddenLeft_0 (F : ov_H) (z : ov_Z) (h : ov_H)  : Option ov_V → ov_Z → ov_H → Prop := fun r0 z' h' => ∃ r : Int, r0 = some (ov_i r) ∧ z = z' ∧ h = h' ∧ (-2147483648 ≤ r ∧ r ≤ 2147483647)
set_option maxHeartbeats 4000000 in
theorem c_OF_hiddenLeft_0 {u : ov_U} {F : ov_H} {z : ov_Z} {h : ov_H} (d : Nat) (hd : 1 ≤ d) (U : ov_cap u) (I : ov_I F z h) : ov_T u d ov_m199 [ov_r 0] z h (P_OF_hiddenLeft_0 F z h) := by
  refine ov_en rfl (Nat.le_of_ble_eq_true rfl) ?_
  show ov_R u d ov_m199 0 [(0, ov_r 0)] [] z h (P_OF_hiddenLeft_0 F z h)
  refine ov_blk (ls2 := [(0, ov_r 0), (1, ov_i 0), (2, ov_i 0)]) (st2 := []) (pc2 := 4) b_199_0_4 rfl rfl ?_
  have L4 : ∀ (n1 : Nat) (x1 : Int) (x2 : Int) (q3 : 0 ≤ x1 ∧ x1 ≤ x2 ∧ 0 ≤ x2 ∧ x2 ≤ 54), 54 - x2 < (n1 : Int) → ov_R u d ov_m199 4 [(0, ov_r 0), (1, ov_i x1), (2, ov_i x2)] [] z h (P_OF_hiddenLeft_0 F z h) := by
    intro n1
    induction n1 with
    | zero =>
      intro x1 x2 q3 hn5
      exact absurd hn5 (by omega)
    | succ n1 ih2 =>
      intro x1 x2 q3 hn5
      refine ov_blk (ls2 := [(0, ov_r 0), (1, ov_i x1), (2, ov_i x2)]) (st2 := [ov_i 54, ov_i x2]) (pc2 := 7) b_199_4_2 rfl rfl ?_
      refine ov_icge (tgt := 43) d_199_7 (by decide) (by omega) (by omega) (fun c6 => ?_) (fun c6 => ?_)
      · skip
        refine ov_blk (ls2 := [(0, ov_r 0), (1, ov_i x1), (2, ov_i x2)]) (st2 := [ov_i x1]) (pc2 := 44) b_199_43_1 rfl rfl ?_
        exact ov_reti (st := []) d_199_44 rfl ⟨_, rfl, rfl, rfl, (by show -2147483648 ≤ x1 ∧ x1 ≤ 2147483647; omega)⟩
      · skip
        refine ov_blk (ls2 := [(0, ov_r 0), (1, ov_i x1), (2, ov_i x2)]) (st2 := [ov_r 0]) (pc2 := 11) b_199_10_1 rfl rfl ?_
        rcases rg_0_10 I with e7 | e7
        · skip
          refine ov_getf (v := ov_r 58) d_199_11 fl_OF_78 (zb_0 I) (zs_0 I) (congrArg ov_r e7) ?_
          refine ov_getf (v := ov_r 59) d_199_14 fl_OF_139 (zb_58 I) (zs_58 I) (congrArg ov_r (rg_58_2 I)) ?_
          refine ov_blk (ls2 := [(0, ov_r 0), (1, ov_i x1), (2, ov_i x2)]) (st2 := [ov_i x2, ov_r 59]) (pc2 := 18) b_199_17_1 rfl rfl ?_
          refine ov_iald d_199_18 (zb_59 I) (zs_59 I) (by omega) ?_
          have g8 := ra_59 I x2
          refine ov_blk (ls2 := [(0, ov_r 0), (1, ov_i x1), (2, ov_i x2)]) (st2 := [ov_i 1, ov_i (h 59 x2)]) (pc2 := 20) b_199_19_1 rfl rfl ?_
          refine ov_icne (tgt := 37) d_199_20 (by decide) (by omega) (by omega) (fun c9 => ?_) (fun c9 => ?_)
          · skip
            refine ov_blk (ls2 := [(0, ov_r 0), (1, ov_i x1), (2, ov_i (x2 + 1))]) (st2 := []) (pc2 := 40) b_199_37_1 rfl rfl ?_
            refine ov_goto (tgt := 4) d_199_40 (by decide) ?_
            exact ih2 x1 (x2 + 1) (by show 0 ≤ x1 ∧ x1 ≤ (x2 + 1) ∧ 0 ≤ (x2 + 1) ∧ (x2 + 1) ≤ 54; omega) (by omega)
          · skip
            refine ov_blk (ls2 := [(0, ov_r 0), (1, ov_i x1), (2, ov_i x2)]) (st2 := [ov_r 0]) (pc2 := 24) b_199_23_1 rfl rfl ?_
            refine ov_getf (v := ov_r 4) d_199_24 fl_OF_28 (zb_0 I) (zs_0 I) (congrArg ov_r (rg_0_2 I)) ?_
            refine ov_blk (ls2 := [(0, ov_r 0), (1, ov_i x1), (2, ov_i x2)]) (st2 := [ov_i x2, ov_r 4]) (pc2 := 28) b_199_27_1 rfl rfl ?_
            refine ov_cV (as := [ov_i x2]) (st := []) (d2 := d - 1) d_199_28 lk_OF_151 rfl (Nat.le_of_ble_eq_true rfl) (c := 7) (zb_4 I) (zs_4 I) ⟨by decide, rfl⟩ (by omega) (c_State_knows_4 (d - 1) (by omega) U I x2 (by omega)) ?_
            rintro _ _ _ ⟨v11, rfl, rfl, rfl, f10⟩
            show ov_R u d ov_m199 31 [(0, ov_r 0), (1, ov_i x1), (2, ov_i x2)] [ov_i v11] z h (P_OF_hiddenLeft_0 F z h)
            have f12 : (v11 = 0 ∨ v11 = 1) := f10
            clear f10
            refine ov_ifne (tgt := 37) d_199_31 (by decide) (by omega) (fun c13 => ?_) (fun c13 => ?_)
            · skip
              refine ov_blk (ls2 := [(0, ov_r 0), (1, ov_i x1), (2, ov_i (x2 + 1))]) (st2 := []) (pc2 := 40) b_199_37_1 rfl rfl ?_
              refine ov_goto (tgt := 4) d_199_40 (by decide) ?_
              exact ih2 x1 (x2 + 1) (by show 0 ≤ x1 ∧ x1 ≤ (x2 + 1) ∧ 0 ≤ (x2 + 1) ∧ (x2 + 1) ≤ 54; omega) (by omega)
            · skip
              refine ov_blk (ls2 := [(0, ov_r 0), (1, ov_i (x1 + 1)), (2, ov_i (x2 + 1))]) (st2 := []) (pc2 := 40) b_199_34_2 rfl rfl ?_
              refine ov_goto (tgt := 4) d_199_40 (by decide) ?_
              exact ih2 (x1 + 1) (x2 + 1) (by show 0 ≤ (x1 + 1) ∧ (x1 + 1) ≤ (x2 + 1) ∧ 0 ≤ (x2 + 1) ∧ (x2 + 1) ≤ 54; omega) (by omega)
        · skip
          refine ov_getf (v := ov_r 70) d_199_11 fl_OF_78 (zb_0 I) (zs_0 I) (congrArg ov_r e7) ?_
          refine ov_getf (v := ov_r 71) d_199_14 fl_OF_139 (zb_70 I) (zs_70 I) (congrArg ov_r (rg_70_2 I)) ?_
          refine ov_blk (ls2 := [(0, ov_r 0), (1, ov_i x1), (2, ov_i x2)]) (st2 := [ov_i x2, ov_r 71]) (pc2 := 18) b_199_17_1 rfl rfl ?_
          refine ov_iald d_199_18 (zb_71 I) (zs_71 I) (by omega) ?_
          have g14 := ra_71 I x2
          refine ov_blk (ls2 := [(0, ov_r 0), (1, ov_i x1), (2, ov_i x2)]) (st2 := [ov_i 1, ov_i (h 71 x2)]) (pc2 := 20) b_199_19_1 rfl rfl ?_
          refine ov_icne (tgt := 37) d_199_20 (by decide) (by omega) (by omega) (fun c15 => ?_) (fun c15 => ?_)
          · skip
            refine ov_blk (ls2 := [(0, ov_r 0), (1, ov_i x1), (2, ov_i (x2 + 1))]) (st2 := []) (pc2 := 40) b_199_37_1 rfl rfl ?_
            refine ov_goto (tgt := 4) d_199_40 (by decide) ?_
            exact ih2 x1 (x2 + 1) (by show 0 ≤ x1 ∧ x1 ≤ (x2 + 1) ∧ 0 ≤ (x2 + 1) ∧ (x2 + 1) ≤ 54; omega) (by omega)
          · skip
            refine ov_blk (ls2 := [(0, ov_r 0), (1, ov_i x1), (2, ov_i x2)]) (st2 := [ov_r 0]) (pc2 := 24) b_199_23_1 rfl rfl ?_
            refine ov_getf (v := ov_r 4) d_199_24 fl_OF_28 (zb_0 I) (zs_0 I) (congrArg ov_r (rg_0_2 I)) ?_
            refine ov_blk (ls2 := [(0, ov_r 0), (1, ov_i x1), (2, ov_i x2)]) (st2 := [ov_i x2, ov_r 4]) (pc2 := 28) b_199_27_1 rfl rfl ?_
            refine ov_cV (as := [ov_i x2]) (st := []) (d2 := d - 1) d_199_28 lk_OF_151 rfl (Nat.le_of_ble_eq_true rfl) (c := 7) (zb_4 I) (zs_4 I) ⟨by decide, rfl⟩ (by omega) (c_State_knows_4 (d - 1) (by omega) U I x2 (by omega)) ?_
            rintro _ _ _ ⟨v17, rfl, rfl, rfl, f16⟩
            show ov_R u d ov_m199 31 [(0, ov_r 0), (1, ov_i x1), (2, ov_i x2)] [ov_i v17] z h (P_OF_hiddenLeft_0 F z h)
            have f18 : (v17 = 0 ∨ v17 = 1) := f16
            clear f16
            refine ov_ifne (tgt := 37) d_199_31 (by decide) (by omega) (fun c19 => ?_) (fun c19 => ?_)
            · skip
              refine ov_blk (ls2 := [(0, ov_r 0), (1, ov_i x1), (2, ov_i (x2 + 1))]) (st2 := []) (pc2 := 40) b_199_37_1 rfl rfl ?_
              refine ov_goto (tgt := 4) d_199_40 (by decide) ?_
              exact ih2 x1 (x2 + 1) (by show 0 ≤ x1 ∧ x1 ≤ (x2 + 1) ∧ 0 ≤ (x2 + 1) ∧ (x2 + 1) ≤ 54; omega) (by omega)
            · skip
              refine ov_blk (ls2 := [(0, ov_r 0), (1, ov_i (x1 + 1)), (2, ov_i (x2 + 1))]) (st2 := []) (pc2 := 40) b_199_34_2 rfl rfl ?_
              refine ov_goto (tgt := 4) d_199_40 (by decide) ?_
              exact ih2 (x1 + 1) (x2 + 1) (by show 0 ≤ (x1 + 1) ∧ (x1 + 1) ≤ (x2 + 1) ∧ 0 ≤ (x2 + 1) ∧ (x2 + 1) ≤ 54; omega) (by omega)
  exact L4 55 0 0 (by show 0 ≤ 0 ∧ 0 ≤ 0 ∧ 0 ≤ 0 ∧ 0 ≤ 54; omega) (by omega)
abbrev P_OF_forgetMarks_0 (F : ov_H) (z : ov_Z) (h : ov_H)  : Option ov_V → ov_Z → ov_H → Prop := fun r0 z' h' => r0 = none ∧ ov_I F z' h' ∧ ((h' 36 7) = (h 36 7) ∧ (h' 1 1) = (h 1 1) ∧ (h' 90 2) = (h 90 2) ∧ (h' 0 10) = (h 0 10) ∧ (h' 0 11) = (h 0 11) ∧ (h' 0 12) = (h 0 12) ∧ (h' 0 13) = (h 0 13) ∧ (h' 3 1) = (h 3 1) ∧ (h' 36 8) = (h 36 8) ∧ (h' 46 3) = (h 46 3) ∧ (h' 46 4) = (h 46 4) ∧ (h' 49 4) = (h 49 4) ∧ (h' 49 5) = (h 49 5) ∧ (h' 64 0) = (h 64 0) ∧ (h' 76 0) = (h 76 0))
set_option maxHeartbeats 4000000 in
theorem c_OF_forgetMarks_0 {u : ov_U} {F : ov_H} {z : ov_Z} {h : ov_H} (d : Nat) (hd : 0 ≤ d) (U : ov_cap u) (I : ov_I F z h) (hw : ov_kw 34359738368 F) : ov_T u d ov_m83 [ov_r 0] z h (P_OF_forgetMarks_0 F z h) := by
  refine ov_en rfl (Nat.le_of_ble_eq_true rfl) ?_
  show ov_R u d ov_m83 0 [(0, ov_r 0)] [] z h (P_OF_forgetMarks_0 F z h)
  refine ov_blk (ls2 := [(0, ov_r 0), (1, ov_i 0)]) (st2 := []) (pc2 := 2) b_83_0_2 rfl rfl ?_
  have L4 : ∀ (n1 : Nat) (x1 : Int) (z5 : ov_Z) (h6 : ov_H) (I7 : ov_I F z5 h6) (q3 : 0 ≤ x1 ∧ x1 ≤ 4 ∧ (h6 36 7) = (h 36 7) ∧ (h6 1 1) = (h 1 1) ∧ (h6 90 2) = (h 90 2) ∧ (h6 0 10) = (h 0 10) ∧ (h6 0 11) = (h 0 11) ∧ (h6 0 12) = (h 0 12) ∧ (h6 0 13) = (h 0 13) ∧ (h6 3 1) = (h 3 1) ∧ (h6 36 8) = (h 36 8) ∧ (h6 46 3) = (h 46 3) ∧ (h6 46 4) = (h 46 4) ∧ (h6 49 4) = (h 49 4) ∧ (h6 49 5) = (h 49 5) ∧ (h6 64 0) = (h 64 0) ∧ (h6 76 0) = (h 76 0)), 4 - x1 < (n1 : Int) → ov_R u d ov_m83 2 [(0, ov_r 0), (1, ov_i x1)] [] z5 h6 (P_OF_forgetMarks_0 F z h) := by
    intro n1
    induction n1 with
    | zero =>
      intro x1 z5 h6 I7 q3 hn8
      exact absurd hn8 (by omega)
    | succ n1 ih2 =>
      intro x1 z5 h6 I7 q3 hn8
      refine ov_blk (ls2 := [(0, ov_r 0), (1, ov_i x1)]) (st2 := [ov_r 0, ov_i x1]) (pc2 := 4) b_83_2_2 rfl rfl ?_
      refine ov_getf (v := ov_r 35) d_83_4 fl_OF_43 (zb_0 I7) (zs_0 I7) (congrArg ov_r (rg_0_5 I7)) ?_
      refine ov_alen d_83_7 (zb_35 I7) (zs_35 I7) (by decide) ?_
      show ov_R u d ov_m83 8 [(0, ov_r 0), (1, ov_i x1)] [ov_i 4, ov_i x1] z5 h6 (P_OF_forgetMarks_0 F z h)
      refine ov_icge (tgt := 24) d_83_8 (by decide) (by omega) (by omega) (fun c9 => ?_) (fun c9 => ?_)
      · skip
        exact ov_retv (st := []) d_83_24 rfl ⟨rfl, I7, (by show (h6 36 7) = (h 36 7) ∧ (h6 1 1) = (h 1 1) ∧ (h6 90 2) = (h 90 2) ∧ (h6 0 10) = (h 0 10) ∧ (h6 0 11) = (h 0 11) ∧ (h6 0 12) = (h 0 12) ∧ (h6 0 13) = (h 0 13) ∧ (h6 3 1) = (h 3 1) ∧ (h6 36 8) = (h 36 8) ∧ (h6 46 3) = (h 46 3) ∧ (h6 46 4) = (h 46 4) ∧ (h6 49 4) = (h 49 4) ∧ (h6 49 5) = (h 49 5) ∧ (h6 64 0) = (h 64 0) ∧ (h6 76 0) = (h 76 0); omega)⟩
      · skip
        refine ov_blk (ls2 := [(0, ov_r 0), (1, ov_i x1)]) (st2 := [ov_r 0]) (pc2 := 12) b_83_11_1 rfl rfl ?_
        refine ov_getf (v := ov_r 35) d_83_12 fl_OF_43 (zb_0 I7) (zs_0 I7) (congrArg ov_r (rg_0_5 I7)) ?_
        refine ov_blk (ls2 := [(0, ov_r 0), (1, ov_i x1)]) (st2 := [ov_i 0, ov_i x1, ov_r 35]) (pc2 := 17) b_83_15_2 rfl rfl ?_
        refine ov_zast d_83_17 (zb_35 I7) (zs_35 I7) (by omega) (by omega) ?_
        have I10 := ua_35 (k := x1) (x := 0) I7 (by omega) (hw 35 (by decide +kernel))
        refine ov_blk (ls2 := [(0, ov_r 0), (1, ov_i (x1 + 1))]) (st2 := []) (pc2 := 21) b_83_18_1 rfl rfl ?_
        refine ov_goto (tgt := 2) d_83_21 (by decide) ?_
        exact ih2 (x1 + 1) _ _ I10 (by show 0 ≤ (x1 + 1) ∧ (x1 + 1) ≤ 4 ∧ (h6 36 7) = (h 36 7) ∧ (h6 1 1) = (h 1 1) ∧ (h6 90 2) = (h 90 2) ∧ (h6 0 10) = (h 0 10) ∧ (h6 0 11) = (h 0 11) ∧ (h6 0 12) = (h 0 12) ∧ (h6 0 13) = (h 0 13) ∧ (h6 3 1) = (h 3 1) ∧ (h6 36 8) = (h 36 8) ∧ (h6 46 3) = (h 46 3) ∧ (h6 46 4) = (h 46 4) ∧ (h6 49 4) = (h 49 4) ∧ (h6 49 5) = (h 49 5) ∧ (h6 64 0) = (h 64 0) ∧ (h6 76 0) = (h 76 0); omega) (by omega)
  exact L4 5 0 _ _ I (by show 0 ≤ 0 ∧ 0 ≤ 4 ∧ (h 36 7) = (h 36 7) ∧ (h 1 1) = (h 1 1) ∧ (h 90 2) = (h 90 2) ∧ (h 0 10) = (h 0 10) ∧ (h 0 11) = (h 0 11) ∧ (h 0 12) = (h 0 12) ∧ (h 0 13) = (h 0 13) ∧ (h 3 1) = (h 3 1) ∧ (h 36 8) = (h 36 8) ∧ (h 46 3) = (h 46 3) ∧ (h 46 4) = (h 46 4) ∧ (h 49 4) = (h 49 4) ∧ (h 49 5) = (h 49 5) ∧ (h 64 0) = (h 64 0) ∧ (h 76 0) = (h 76 0); omega) (by omega)
abbrev P_OF_forgetReckonings_0 (F : ov_H) (z : ov_Z) (h : ov_H)  : Option ov_V → ov_Z → ov_H → Prop := fun r0 z' h' => r0 = none ∧ ov_I F z' h' ∧ ((h' 36 7) = 0 ∧ (h' 1 1) = (h 1 1) ∧ (h' 90 2) = (h 90 2) ∧ (h' 0 10) = (h 0 10) ∧ (h' 0 11) = (h 0 11) ∧ (h' 0 12) = (h 0 12) ∧ (h' 0 13) = (h 0 13) ∧ (h' 3 1) = (h 3 1) ∧ (h' 36 8) = (h 36 8) ∧ (h' 46 3) = (h 46 3) ∧ (h' 46 4) = (h 46 4) ∧ (h' 49 4) = (h 49 4) ∧ (h' 49 5) = (h 49 5) ∧ (h' 64 0) = (h 64 0) ∧ (h' 76 0) = (h 76 0))
set_option maxHeartbeats 4000000 in
theorem c_OF_forgetReckonings_0 {u : ov_U} {F : ov_H} {z : ov_Z} {h : ov_H} (d : Nat) (hd : 1 ≤ d) (U : ov_cap u) (I : ov_I F z h) : ov_T u d ov_m84 [ov_r 0] z h (P_OF_forgetReckonings_0 F z h) := by
  refine ov_en rfl (Nat.le_of_ble_eq_true rfl) ?_
  show ov_R u d ov_m84 0 [(0, ov_r 0)] [] z h (P_OF_forgetReckonings_0 F z h)
  refine ov_blk (ls2 := [(0, ov_r 0)]) (st2 := [ov_r 0]) (pc2 := 1) b_84_0_1 rfl rfl ?_
  refine ov_getf (v := ov_r 36) d_84_1 fl_OF_50 (zb_0 I) (zs_0 I) (congrArg ov_r (rg_0_6 I)) ?_
  refine ov_cV (as := []) (st := []) (d2 := d - 1) d_84_4 lk_OF_129 rfl (Nat.le_of_ble_eq_true rfl) (c := 2) (zb_36 I) (zs_36 I) ⟨by decide, rfl⟩ (by omega) (c_Goers_forget_36 (d - 1) (by omega) U I) ?_
  rintro _ z2 h3 ⟨rfl, I4, f1⟩
  show ov_R u d ov_m84 7 [(0, ov_r 0)] [] z2 h3 (P_OF_forgetReckonings_0 F z h)
  have f5 : (h3 36 7) = 0 ∧ (h3 1 1) = (h 1 1) ∧ (h3 90 2) = (h 90 2) ∧ (h3 0 10) = (h 0 10) ∧ (h3 0 11) = (h 0 11) ∧ (h3 0 12) = (h 0 12) ∧ (h3 0 13) = (h 0 13) ∧ (h3 3 1) = (h 3 1) ∧ (h3 36 8) = (h 36 8) ∧ (h3 46 3) = (h 46 3) ∧ (h3 46 4) = (h 46 4) ∧ (h3 49 4) = (h 49 4) ∧ (h3 49 5) = (h 49 5) ∧ (h3 64 0) = (h 64 0) ∧ (h3 76 0) = (h 76 0) := f1
  clear f1
  refine ov_blk (ls2 := [(0, ov_r 0)]) (st2 := [ov_r 0]) (pc2 := 8) b_84_7_1 rfl rfl ?_
  refine ov_getf (v := ov_r 49) d_84_8 fl_OF_64 (zb_0 I4) (zs_0 I4) (congrArg ov_r (rg_0_8 I4)) ?_
  refine ov_cV (as := []) (st := []) (d2 := d - 1) d_84_11 lk_OF_126 rfl (Nat.le_of_ble_eq_true rfl) (c := 5) (zb_49 I4) (zs_49 I4) ⟨by decide, rfl⟩ (by omega) (c_Pace_forget_49 (d - 1) (by omega) U I4) ?_
  rintro _ z7 h8 ⟨rfl, I9, f6⟩
  show ov_R u d ov_m84 14 [(0, ov_r 0)] [] z7 h8 (P_OF_forgetReckonings_0 F z h)
  have f10 : (h8 36 7) = (h3 36 7) ∧ (h8 1 1) = (h3 1 1) ∧ (h8 90 2) = (h3 90 2) ∧ (h8 0 10) = (h3 0 10) ∧ (h8 0 11) = (h3 0 11) ∧ (h8 0 12) = (h3 0 12) ∧ (h8 0 13) = (h3 0 13) ∧ (h8 3 1) = (h3 3 1) ∧ (h8 36 8) = (h3 36 8) ∧ (h8 46 3) = (h3 46 3) ∧ (h8 46 4) = (h3 46 4) ∧ (h8 49 4) = (h3 49 4) ∧ (h8 49 5) = (h3 49 5) ∧ (h8 64 0) = (h3 64 0) ∧ (h8 76 0) = (h3 76 0) := f6
  clear f6
  refine ov_blk (ls2 := [(0, ov_r 0)]) (st2 := [ov_r 0]) (pc2 := 15) b_84_14_1 rfl rfl ?_
  refine ov_getf (v := ov_r 54) d_84_15 fl_OF_71 (zb_0 I9) (zs_0 I9) (congrArg ov_r (rg_0_9 I9)) ?_
  refine ov_cV (as := []) (st := []) (d2 := d - 1) d_84_18 lk_OF_130 rfl (Nat.le_of_ble_eq_true rfl) (c := 11) (zb_54 I9) (zs_54 I9) ⟨by decide, rfl⟩ (by omega) (c_Wave_forget_54 (d - 1) (by omega) U I9) ?_
  rintro _ z12 h13 ⟨rfl, I14, f11⟩
  show ov_R u d ov_m84 21 [(0, ov_r 0)] [] z12 h13 (P_OF_forgetReckonings_0 F z h)
  have f15 : (h13 36 7) = (h8 36 7) ∧ (h13 1 1) = (h8 1 1) ∧ (h13 90 2) = (h8 90 2) ∧ (h13 0 10) = (h8 0 10) ∧ (h13 0 11) = (h8 0 11) ∧ (h13 0 12) = (h8 0 12) ∧ (h13 0 13) = (h8 0 13) ∧ (h13 3 1) = (h8 3 1) ∧ (h13 36 8) = (h8 36 8) ∧ (h13 46 3) = (h8 46 3) ∧ (h13 46 4) = (h8 46 4) ∧ (h13 49 4) = (h8 49 4) ∧ (h13 49 5) = (h8 49 5) ∧ (h13 64 0) = (h8 64 0) ∧ (h13 76 0) = (h8 76 0) := f11
  clear f11
  exact ov_retv (st := []) d_84_21 rfl ⟨rfl, I14, (by show (h13 36 7) = 0 ∧ (h13 1 1) = (h 1 1) ∧ (h13 90 2) = (h 90 2) ∧ (h13 0 10) = (h 0 10) ∧ (h13 0 11) = (h 0 11) ∧ (h13 0 12) = (h 0 12) ∧ (h13 0 13) = (h 0 13) ∧ (h13 3 1) = (h 3 1) ∧ (h13 36 8) = (h 36 8) ∧ (h13 46 3) = (h 46 3) ∧ (h13 46 4) = (h 46 4) ∧ (h13 49 4) = (h 49 4) ∧ (h13 49 5) = (h 49 5) ∧ (h13 64 0) = (h 64 0) ∧ (h13 76 0) = (h 76 0); omega)⟩
abbrev P_OF_feed_0 (F : ov_H) (z : ov_Z) (h : ov_H) (a : Int) (b : Int) (c : Int) : Option ov_V → ov_Z → ov_H → Prop := fun r0 z' h' => ∃ r : Int, r0 = some (ov_i r) ∧ ov_I F z' h' ∧ (r = (h' 1 1) ∧ (h' 36 7) = (h 36 7) ∧ (h' 90 2) = (h 90 2) ∧ (h' 0 10) = (h 0 10) ∧ (h' 0 11) = (h 0 11) ∧ (h' 0 12) = (h 0 12) ∧ (h' 0 13) = (h 0 13) ∧ (h' 3 1) = (h 3 1) ∧ (h' 36 8) = (h 36 8) ∧ (h' 46 3) = (h 46 3) ∧ (h' 46 4) = (h 46 4) ∧ (h' 49 4) = (h 49 4) ∧ (h' 49 5) = (h 49 5) ∧ (h' 64 0) = (h 64 0) ∧ (h' 76 0) = (h 76 0))
set_option maxHeartbeats 4000000 in
theorem c_OF_feed_0 {u : ov_U} {F : ov_H} {z : ov_Z} {h : ov_H} (d : Nat) (hd : 1 ≤ d) (U : ov_cap u) (I : ov_I F z h) (hw : ov_kw 6 F) (a : Int) (b : Int) (c : Int) : ov_T u d ov_m21 [ov_r 0, ov_l a, ov_l b, ov_l c] z h (P_OF_feed_0 F z h a b c) := by
  refine ov_en rfl (Nat.le_of_ble_eq_true rfl) ?_
  show ov_R u d ov_m21 0 [(0, ov_r 0), (1, ov_l a), (3, ov_l b), (5, ov_l c)] [] z h (P_OF_feed_0 F z h a b c)
  refine ov_blk (ls2 := [(0, ov_r 0), (1, ov_l a), (3, ov_l b), (5, ov_l c)]) (st2 := [ov_r 0]) (pc2 := 1) b_21_0_1 rfl rfl ?_
  refine ov_getf (v := ov_r 1) d_21_1 fl_OF_12 (zb_0 I) (zs_0 I) (congrArg ov_r (rg_0_0 I)) ?_
  refine ov_blk (ls2 := [(0, ov_r 0), (1, ov_l a), (3, ov_l b), (5, ov_l c)]) (st2 := [ov_l a, ov_r 1]) (pc2 := 5) b_21_4_1 rfl rfl ?_
  refine ov_cV (as := [ov_l a]) (st := []) (d2 := d - 1) d_21_5 lk_OF_101 rfl (Nat.le_of_ble_eq_true rfl) (c := 8) (zb_1 I) (zs_1 I) ⟨by decide, rfl⟩ (by omega) (c_Tape_append_1 (d - 1) (by omega) U I (ov_kws hw (by decide +kernel)) a) ?_
  rintro _ z2 h3 ⟨rfl, I4, f1⟩
  show ov_R u d ov_m21 8 [(0, ov_r 0), (1, ov_l a), (3, ov_l b), (5, ov_l c)] [] z2 h3 (P_OF_feed_0 F z h a b c)
  have f5 : (h 1 1) ≤ (h3 1 1) ∧ (h3 36 7) = (h 36 7) ∧ (h3 90 2) = (h 90 2) ∧ (h3 0 10) = (h 0 10) ∧ (h3 0 11) = (h 0 11) ∧ (h3 0 12) = (h 0 12) ∧ (h3 0 13) = (h 0 13) ∧ (h3 3 1) = (h 3 1) ∧ (h3 36 8) = (h 36 8) ∧ (h3 46 3) = (h 46 3) ∧ (h3 46 4) = (h 46 4) ∧ (h3 49 4) = (h 49 4) ∧ (h3 49 5) = (h 49 5) ∧ (h3 64 0) = (h 64 0) ∧ (h3 76 0) = (h 76 0) := f1
  clear f1
  refine ov_blk (ls2 := [(0, ov_r 0), (1, ov_l a), (3, ov_l b), (5, ov_l c)]) (st2 := [ov_r 0]) (pc2 := 9) b_21_8_1 rfl rfl ?_
  refine ov_getf (v := ov_r 1) d_21_9 fl_OF_12 (zb_0 I4) (zs_0 I4) (congrArg ov_r (rg_0_0 I4)) ?_
  refine ov_blk (ls2 := [(0, ov_r 0), (1, ov_l a), (3, ov_l b), (5, ov_l c)]) (st2 := [ov_l b, ov_r 1]) (pc2 := 13) b_21_12_1 rfl rfl ?_
  refine ov_cV (as := [ov_l b]) (st := []) (d2 := d - 1) d_21_13 lk_OF_101 rfl (Nat.le_of_ble_eq_true rfl) (c := 8) (zb_1 I4) (zs_1 I4) ⟨by decide, rfl⟩ (by omega) (c_Tape_append_1 (d - 1) (by omega) U I4 (ov_kws hw (by decide +kernel)) b) ?_
  rintro _ z7 h8 ⟨rfl, I9, f6⟩
  show ov_R u d ov_m21 16 [(0, ov_r 0), (1, ov_l a), (3, ov_l b), (5, ov_l c)] [] z7 h8 (P_OF_feed_0 F z h a b c)
  have f10 : (h3 1 1) ≤ (h8 1 1) ∧ (h8 36 7) = (h3 36 7) ∧ (h8 90 2) = (h3 90 2) ∧ (h8 0 10) = (h3 0 10) ∧ (h8 0 11) = (h3 0 11) ∧ (h8 0 12) = (h3 0 12) ∧ (h8 0 13) = (h3 0 13) ∧ (h8 3 1) = (h3 3 1) ∧ (h8 36 8) = (h3 36 8) ∧ (h8 46 3) = (h3 46 3) ∧ (h8 46 4) = (h3 46 4) ∧ (h8 49 4) = (h3 49 4) ∧ (h8 49 5) = (h3 49 5) ∧ (h8 64 0) = (h3 64 0) ∧ (h8 76 0) = (h3 76 0) := f6
  clear f6
  refine ov_blk (ls2 := [(0, ov_r 0), (1, ov_l a), (3, ov_l b), (5, ov_l c)]) (st2 := [ov_r 0]) (pc2 := 17) b_21_16_1 rfl rfl ?_
  refine ov_getf (v := ov_r 1) d_21_17 fl_OF_12 (zb_0 I9) (zs_0 I9) (congrArg ov_r (rg_0_0 I9)) ?_
  refine ov_blk (ls2 := [(0, ov_r 0), (1, ov_l a), (3, ov_l b), (5, ov_l c)]) (st2 := [ov_l c, ov_r 1]) (pc2 := 22) b_21_20_1 rfl rfl ?_
  refine ov_cV (as := [ov_l c]) (st := []) (d2 := d - 1) d_21_22 lk_OF_101 rfl (Nat.le_of_ble_eq_true rfl) (c := 8) (zb_1 I9) (zs_1 I9) ⟨by decide, rfl⟩ (by omega) (c_Tape_append_1 (d - 1) (by omega) U I9 (ov_kws hw (by decide +kernel)) c) ?_
  rintro _ z12 h13 ⟨rfl, I14, f11⟩
  show ov_R u d ov_m21 25 [(0, ov_r 0), (1, ov_l a), (3, ov_l b), (5, ov_l c)] [] z12 h13 (P_OF_feed_0 F z h a b c)
  have f15 : (h8 1 1) ≤ (h13 1 1) ∧ (h13 36 7) = (h8 36 7) ∧ (h13 90 2) = (h8 90 2) ∧ (h13 0 10) = (h8 0 10) ∧ (h13 0 11) = (h8 0 11) ∧ (h13 0 12) = (h8 0 12) ∧ (h13 0 13) = (h8 0 13) ∧ (h13 3 1) = (h8 3 1) ∧ (h13 36 8) = (h8 36 8) ∧ (h13 46 3) = (h8 46 3) ∧ (h13 46 4) = (h8 46 4) ∧ (h13 49 4) = (h8 49 4) ∧ (h13 49 5) = (h8 49 5) ∧ (h13 64 0) = (h8 64 0) ∧ (h13 76 0) = (h8 76 0) := f11
  clear f11
  refine ov_blk (ls2 := [(0, ov_r 0), (1, ov_l a), (3, ov_l b), (5, ov_l c)]) (st2 := [ov_r 0]) (pc2 := 26) b_21_25_1 rfl rfl ?_
  refine ov_getf (v := ov_r 1) d_21_26 fl_OF_12 (zb_0 I14) (zs_0 I14) (congrArg ov_r (rg_0_0 I14)) ?_
  refine ov_getf (v := ov_i (h13 1 1)) d_21_29 fl_OF_105 (zb_1 I14) (zs_1 I14) rfl ?_
  have g16 := rg_1_1 I14
  exact ov_reti (st := []) d_21_32 rfl ⟨_, rfl, I14, (by show (h13 1 1) = (h13 1 1) ∧ (h13 36 7) = (h 36 7) ∧ (h13 90 2) = (h 90 2) ∧ (h13 0 10) = (h 0 10) ∧ (h13 0 11) = (h 0 11) ∧ (h13 0 12) = (h 0 12) ∧ (h13 0 13) = (h 0 13) ∧ (h13 3 1) = (h 3 1) ∧ (h13 36 8) = (h 36 8) ∧ (h13 46 3) = (h 46 3) ∧ (h13 46 4) = (h 46 4) ∧ (h13 49 4) = (h 49 4) ∧ (h13 49 5) = (h 49 5) ∧ (h13 64 0) = (h 64 0) ∧ (h13 76 0) = (h 76 0); omega)⟩
abbrev P_OF_town_0 (F : ov_H) (z : ov_Z) (h : ov_H)  : Option ov_V → ov_Z → ov_H → Prop := fun r0 z' h' => ∃ r : Int, r0 = some (ov_i r) ∧ ov_I F z' h' ∧ ((h' 1 1) = 0 ∧ ((h' 36 7) = 1 → (h' 36 8) = (h' 0 10)) ∧ ((h' 0 10) = 58 ∧ (h' 0 11) = 70 ∧ 0 ≤ (h' 64 0) ∧ 1 ≤ (h' 58 0) ∧ 1 ≤ (h' 58 1) ∨ (h' 0 10) = 70 ∧ (h' 0 11) = 58 ∧ 0 ≤ (h' 76 0) ∧ 1 ≤ (h' 70 0) ∧ 1 ≤ (h' 70 1)) ∧ (h' 90 2) = (h 90 2) ∧ (h' 0 12) = (h 0 12) ∧ (h' 0 13) = (h 0 13) ∧ (h' 46 3) = (h 46 3) ∧ (h' 46 4) = (h 46 4) ∧ (h' 49 4) = (h 49 4) ∧ (h' 49 5) = (h 49 5))
set_option maxHeartbeats 4000000 in
theorem c_OF_town_0 {u : ov_U} {F : ov_H} {z : ov_Z} {h : ov_H} (d : Nat) (hd : 50 ≤ d) (U : ov_cap u) (I : ov_I F z h) (hw : ov_kw 84624216788983341731807771 F) (p0 : h 36 7 = 1 → h 36 8 = h 0 10) (p1 : (h 0 10 = 58 ∧ h 0 11 = 70 ∧ 0 ≤ h 64 0 ∧ F (-5) 58 = 1 ∨ h 0 10 = 70 ∧ h 0 11 = 58 ∧ 0 ≤ h 76 0 ∧ F (-5) 70 = 1)) : ov_T u d ov_m23 [ov_r 0] z h (P_OF_town_0 F z h) := by
  refine ov_en rfl (Nat.le_of_ble_eq_true rfl) ?_
  show ov_R u d ov_m23 0 [(0, ov_r 0)] [] z h (P_OF_town_0 F z h)
  refine ov_blk (ls2 := [(0, ov_r 0)]) (st2 := [ov_r 0]) (pc2 := 1) b_23_0_1 rfl rfl ?_
  refine ov_getf (v := ov_r 3) d_23_1 fl_OF_21 (zb_0 I) (zs_0 I) (congrArg ov_r (rg_0_1 I)) ?_
  refine ov_blk (ls2 := [(0, ov_r 0)]) (st2 := [ov_r 0, ov_r 3]) (pc2 := 5) b_23_4_1 rfl rfl ?_
  rcases rg_0_11 I with e1 | e1
  · skip
    refine ov_getf (v := ov_r 58) d_23_5 fl_OF_82 (zb_0 I) (zs_0 I) (congrArg ov_r e1) ?_
    refine ov_cV (as := [ov_r 58]) (st := []) (d2 := d - 1) d_23_8 lk_OF_109 rfl (Nat.le_of_ble_eq_true rfl) (c := 6) (zb_3 I) (zs_3 I) ⟨by decide, rfl⟩ (by omega) (c_Reader_readTown_3_58 (d - 1) (by omega) U I (ov_kws hw (by decide +kernel))) ?_
    rintro _ z4 h5 ⟨v3, rfl, I6, f2⟩
    show ov_R u d ov_m23 11 [(0, ov_r 0)] [ov_i v3] z4 h5 (P_OF_town_0 F z h)
    have f7 : (h5 1 1) = 0 ∧ -2147483648 ≤ v3 ∧ v3 ≤ 2147483647 ∧ (v3 = 0 → 0 ≤ (h5 64 0)) ∧ 1 ≤ (h5 58 0) ∧ 1 ≤ (h5 58 1) ∧ (h5 36 7) = (h 36 7) ∧ (h5 90 2) = (h 90 2) ∧ (h5 0 10) = (h 0 10) ∧ (h5 0 11) = (h 0 11) ∧ (h5 0 12) = (h 0 12) ∧ (h5 0 13) = (h 0 13) ∧ (h5 36 8) = (h 36 8) ∧ (h5 46 3) = (h 46 3) ∧ (h5 46 4) = (h 46 4) ∧ (h5 49 4) = (h 49 4) ∧ (h5 49 5) = (h 49 5) ∧ (h5 76 0) = (h 76 0) := f2
    clear f2
    have e8 : h5 0 11 = 58 := by omega
    have I9 := ov_I_fu (T := 58) I6 (by omega)
    refine ov_blk (ls2 := [(0, ov_r 0), (1, ov_i v3)]) (st2 := [ov_i v3]) (pc2 := 13) b_23_11_2 rfl rfl ?_
    refine ov_ifne (tgt := 63) d_23_13 (by decide) (by omega) (fun c10 => ?_) (fun c10 => ?_)
    · skip
      refine ov_blk (ls2 := [(0, ov_r 0), (1, ov_i v3)]) (st2 := [ov_i v3]) (pc2 := 64) b_23_63_1 rfl rfl ?_
      have gf11 : 1 ≤ (h5 58 0) ∧ 1 ≤ (h5 58 1) := ov_I_fg (h := h5) (T := 58) (by omega) I9
      have gk : F (-5) 70 = 1 := by omega
      have gf12 : 1 ≤ (h5 70 0) ∧ 1 ≤ (h5 70 1) := ov_I_fk (h := h5) (S := 70) (by omega) I9 gk
      exact ov_reti (st := []) d_23_64 rfl ⟨_, rfl, (ov_I_fd I9), (by show (h5 1 1) = 0 ∧ ((h5 36 7) = 1 → (h5 36 8) = (h5 0 10)) ∧ ((h5 0 10) = 58 ∧ (h5 0 11) = 70 ∧ 0 ≤ (h5 64 0) ∧ 1 ≤ (h5 58 0) ∧ 1 ≤ (h5 58 1) ∨ (h5 0 10) = 70 ∧ (h5 0 11) = 58 ∧ 0 ≤ (h5 76 0) ∧ 1 ≤ (h5 70 0) ∧ 1 ≤ (h5 70 1)) ∧ (h5 90 2) = (h 90 2) ∧ (h5 0 12) = (h 0 12) ∧ (h5 0 13) = (h 0 13) ∧ (h5 46 3) = (h 46 3) ∧ (h5 46 4) = (h 46 4) ∧ (h5 49 4) = (h 49 4) ∧ (h5 49 5) = (h 49 5); omega)⟩
    · skip
      refine ov_blk (ls2 := [(0, ov_r 0), (1, ov_i v3)]) (st2 := [ov_r 0]) (pc2 := 17) b_23_16_1 rfl rfl ?_
      rcases rg_0_10 I9 with e13 | e13
      · skip
        refine ov_getf (v := ov_r 58) d_23_17 fl_OF_78 (zb_0 I9) (zs_0 I9) (congrArg ov_r e13) ?_
        refine ov_blk (ls2 := [(0, ov_r 0), (1, ov_i v3), (2, ov_r 58)]) (st2 := [ov_r 0, ov_r 0]) (pc2 := 23) b_23_20_3 rfl rfl ?_
        refine ov_getf (v := ov_r 58) d_23_23 fl_OF_82 (zb_0 I9) (zs_0 I9) (congrArg ov_r e8) ?_
        refine ov_putf (x := 58) d_23_26 fl_OF_78 (zb_0 I9) (zs_0 I9) rfl nk_2 rfl ?_
        have I14 := up_0_10 (x := 58) I9 (by omega) ((ov_kwu hw) 0 (by decide +kernel))
        refine ov_blk (ls2 := [(0, ov_r 0), (1, ov_i v3), (2, ov_r 58)]) (st2 := [ov_r 58, ov_r 0]) (pc2 := 31) b_23_29_2 rfl rfl ?_
        refine ov_putf (x := 58) d_23_31 fl_OF_82 (zb_0 I14) (zs_0 I14) rfl nk_2 rfl ?_
        have I15 := up_0_11 (x := 58) I14 (by omega) ((ov_kwu hw) 0 (by decide +kernel))
        refine ov_blk (ls2 := [(0, ov_r 0), (1, ov_i v3), (2, ov_r 58)]) (st2 := [ov_r 0]) (pc2 := 35) b_23_34_1 rfl rfl ?_
        rcases rg_0_12 I9 with e16 | e16
        · skip
          refine ov_getf (v := ov_r 82) d_23_35 fl_OF_88 (zb_0 I15) (zs_0 I15) (congrArg ov_r e16) ?_
          refine ov_cV (as := []) (st := []) (d2 := d - 1) d_23_38 lk_OF_113 rfl (Nat.le_of_ble_eq_true rfl) (c := 10) (zb_82 I15) (zs_82 I15) ⟨by decide, rfl⟩ (by omega) (c_Walk_clear_82 (d - 1) (by omega) U I15 (ov_kws (ov_kwu hw) (by decide +kernel))) ?_
          rintro _ z18 h19 ⟨rfl, I20, f17⟩
          show ov_R u d ov_m23 41 [(0, ov_r 0), (1, ov_i v3), (2, ov_r 58)] [] z18 h19 (P_OF_town_0 F z h)
          have f21 : (h19 36 7) = (h5 36 7) ∧ (h19 1 1) = (h5 1 1) ∧ (h19 90 2) = (h5 90 2) ∧ (h19 0 10) = 58 ∧ (h19 0 11) = 58 ∧ (h19 0 12) = (h5 0 12) ∧ (h19 0 13) = (h5 0 13) ∧ (h19 3 1) = (h5 3 1) ∧ (h19 36 8) = (h5 36 8) ∧ (h19 46 3) = (h5 46 3) ∧ (h19 46 4) = (h5 46 4) ∧ (h19 49 4) = (h5 49 4) ∧ (h19 49 5) = (h5 49 5) ∧ (h19 64 0) = (h5 64 0) ∧ (h19 76 0) = (h5 76 0) := f17
          clear f17
          have e22 : h19 0 10 = 58 := by omega
          have e23 : h19 0 11 = 58 := by omega
          have e24 : h19 0 12 = 82 := by omega
          refine ov_blk (ls2 := [(0, ov_r 0), (1, ov_i v3), (2, ov_r 58)]) (st2 := [ov_r 0]) (pc2 := 42) b_23_41_1 rfl rfl ?_
          refine ov_getf (v := ov_r 4) d_23_42 fl_OF_28 (zb_0 I20) (zs_0 I20) (congrArg ov_r (rg_0_2 I20)) ?_
          refine ov_cV (as := []) (st := []) (d2 := d - 1) d_23_45 lk_OF_114 rfl (Nat.le_of_ble_eq_true rfl) (c := 7) (zb_4 I20) (zs_4 I20) ⟨by decide, rfl⟩ (by omega) (c_State_clear_4 (d - 1) (by omega) U I20 (ov_kws (ov_kwu hw) (by decide +kernel))) ?_
          rintro _ z26 h27 ⟨rfl, I28, f25⟩
          show ov_R u d ov_m23 48 [(0, ov_r 0), (1, ov_i v3), (2, ov_r 58)] [] z26 h27 (P_OF_town_0 F z h)
          have f29 : (h27 36 7) = (h19 36 7) ∧ (h27 1 1) = (h19 1 1) ∧ (h27 90 2) = (h19 90 2) ∧ (h27 0 10) = (h19 0 10) ∧ (h27 0 11) = (h19 0 11) ∧ (h27 0 12) = (h19 0 12) ∧ (h27 0 13) = (h19 0 13) ∧ (h27 3 1) = (h19 3 1) ∧ (h27 36 8) = (h19 36 8) ∧ (h27 46 3) = (h19 46 3) ∧ (h27 46 4) = (h19 46 4) ∧ (h27 49 4) = (h19 49 4) ∧ (h27 49 5) = (h19 49 5) ∧ (h27 64 0) = (h19 64 0) ∧ (h27 76 0) = (h19 76 0) := f25
          clear f25
          have e30 : h27 0 10 = 58 := by omega
          have e31 : h27 0 11 = 58 := by omega
          have e32 : h27 0 12 = 82 := by omega
          refine ov_blk (ls2 := [(0, ov_r 0), (1, ov_i v3), (2, ov_r 58)]) (st2 := [ov_r 0]) (pc2 := 49) b_23_48_1 rfl rfl ?_
          refine ov_getf (v := ov_r 9) d_23_49 fl_OF_35 (zb_0 I28) (zs_0 I28) (congrArg ov_r (rg_0_3 I28)) ?_
          refine ov_cV (as := []) (st := []) (d2 := d - 1) d_23_52 lk_OF_115 rfl (Nat.le_of_ble_eq_true rfl) (c := 3) (zb_9 I28) (zs_9 I28) ⟨by decide, rfl⟩ (by omega) (c_History_clear_9 (d - 1) (by omega) U I28 (ov_kws (ov_kwu hw) (by decide +kernel))) ?_
          rintro _ z34 h35 ⟨rfl, I36, f33⟩
          show ov_R u d ov_m23 55 [(0, ov_r 0), (1, ov_i v3), (2, ov_r 58)] [] z34 h35 (P_OF_town_0 F z h)
          have f37 : (h35 36 7) = (h27 36 7) ∧ (h35 1 1) = (h27 1 1) ∧ (h35 90 2) = (h27 90 2) ∧ (h35 0 10) = (h27 0 10) ∧ (h35 0 11) = (h27 0 11) ∧ (h35 0 12) = (h27 0 12) ∧ (h35 0 13) = (h27 0 13) ∧ (h35 3 1) = (h27 3 1) ∧ (h35 36 8) = (h27 36 8) ∧ (h35 46 3) = (h27 46 3) ∧ (h35 46 4) = (h27 46 4) ∧ (h35 49 4) = (h27 49 4) ∧ (h35 49 5) = (h27 49 5) ∧ (h35 64 0) = (h27 64 0) ∧ (h35 76 0) = (h27 76 0) := f33
          clear f33
          have e38 : h35 0 10 = 58 := by omega
          have e39 : h35 0 11 = 58 := by omega
          have e40 : h35 0 12 = 82 := by omega
          refine ov_blk (ls2 := [(0, ov_r 0), (1, ov_i v3), (2, ov_r 58)]) (st2 := [ov_r 0]) (pc2 := 56) b_23_55_1 rfl rfl ?_
          refine ov_cV (as := []) (st := []) (d2 := d - 1) d_23_56 lk_OF_116 rfl (Nat.le_of_ble_eq_true rfl) (c := 0) (zb_0 I36) (zs_0 I36) ⟨by decide, rfl⟩ (by omega) (c_OF_forgetMarks_0 (d - 1) (by omega) U I36 (ov_kws (ov_kwu hw) (by decide +kernel))) ?_
          rintro _ z42 h43 ⟨rfl, I44, f41⟩
          show ov_R u d ov_m23 59 [(0, ov_r 0), (1, ov_i v3), (2, ov_r 58)] [] z42 h43 (P_OF_town_0 F z h)
          have f45 : (h43 36 7) = (h35 36 7) ∧ (h43 1 1) = (h35 1 1) ∧ (h43 90 2) = (h35 90 2) ∧ (h43 0 10) = (h35 0 10) ∧ (h43 0 11) = (h35 0 11) ∧ (h43 0 12) = (h35 0 12) ∧ (h43 0 13) = (h35 0 13) ∧ (h43 3 1) = (h35 3 1) ∧ (h43 36 8) = (h35 36 8) ∧ (h43 46 3) = (h35 46 3) ∧ (h43 46 4) = (h35 46 4) ∧ (h43 49 4) = (h35 49 4) ∧ (h43 49 5) = (h35 49 5) ∧ (h43 64 0) = (h35 64 0) ∧ (h43 76 0) = (h35 76 0) := f41
          clear f41
          have e46 : h43 0 10 = 58 := by omega
          have e47 : h43 0 11 = 58 := by omega
          have e48 : h43 0 12 = 82 := by omega
          refine ov_blk (ls2 := [(0, ov_r 0), (1, ov_i v3), (2, ov_r 58)]) (st2 := [ov_r 0]) (pc2 := 60) b_23_59_1 rfl rfl ?_
          refine ov_cV (as := []) (st := []) (d2 := d - 1) d_23_60 lk_OF_119 rfl (Nat.le_of_ble_eq_true rfl) (c := 0) (zb_0 I44) (zs_0 I44) ⟨by decide, rfl⟩ (by omega) (c_OF_forgetReckonings_0 (d - 1) (by omega) U I44) ?_
          rintro _ z50 h51 ⟨rfl, I52, f49⟩
          show ov_R u d ov_m23 63 [(0, ov_r 0), (1, ov_i v3), (2, ov_r 58)] [] z50 h51 (P_OF_town_0 F z h)
          have f53 : (h51 36 7) = 0 ∧ (h51 1 1) = (h43 1 1) ∧ (h51 90 2) = (h43 90 2) ∧ (h51 0 10) = (h43 0 10) ∧ (h51 0 11) = (h43 0 11) ∧ (h51 0 12) = (h43 0 12) ∧ (h51 0 13) = (h43 0 13) ∧ (h51 3 1) = (h43 3 1) ∧ (h51 36 8) = (h43 36 8) ∧ (h51 46 3) = (h43 46 3) ∧ (h51 46 4) = (h43 46 4) ∧ (h51 49 4) = (h43 49 4) ∧ (h51 49 5) = (h43 49 5) ∧ (h51 64 0) = (h43 64 0) ∧ (h51 76 0) = (h43 76 0) := f49
          clear f49
          have e54 : h51 0 10 = 58 := by omega
          have e55 : h51 0 11 = 58 := by omega
          have e56 : h51 0 12 = 82 := by omega
          refine ov_blk (ls2 := [(0, ov_r 0), (1, ov_i v3), (2, ov_r 58)]) (st2 := [ov_i v3]) (pc2 := 64) b_23_63_1 rfl rfl ?_
          have gf57 : 1 ≤ (h51 58 0) ∧ 1 ≤ (h51 58 1) := ov_I_fg (h := h51) (T := 58) (by omega) I52
          have gk : F (-5) 70 = 1 := by omega
          have gf58 : 1 ≤ (h51 70 0) ∧ 1 ≤ (h51 70 1) := ov_I_fk (h := h51) (S := 70) (by omega) I52 gk
          exact ov_reti (st := []) d_23_64 rfl ⟨_, rfl, (ov_I_fd I52), (by show (h51 1 1) = 0 ∧ ((h51 36 7) = 1 → (h51 36 8) = (h51 0 10)) ∧ ((h51 0 10) = 58 ∧ (h51 0 11) = 70 ∧ 0 ≤ (h51 64 0) ∧ 1 ≤ (h51 58 0) ∧ 1 ≤ (h51 58 1) ∨ (h51 0 10) = 70 ∧ (h51 0 11) = 58 ∧ 0 ≤ (h51 76 0) ∧ 1 ≤ (h51 70 0) ∧ 1 ≤ (h51 70 1)) ∧ (h51 90 2) = (h 90 2) ∧ (h51 0 12) = (h 0 12) ∧ (h51 0 13) = (h 0 13) ∧ (h51 46 3) = (h 46 3) ∧ (h51 46 4) = (h 46 4) ∧ (h51 49 4) = (h 49 4) ∧ (h51 49 5) = (h 49 5); omega)⟩
        · skip
          refine ov_getf (v := ov_r 86) d_23_35 fl_OF_88 (zb_0 I15) (zs_0 I15) (congrArg ov_r e16) ?_
          refine ov_cV (as := []) (st := []) (d2 := d - 1) d_23_38 lk_OF_113 rfl (Nat.le_of_ble_eq_true rfl) (c := 10) (zb_86 I15) (zs_86 I15) ⟨by decide, rfl⟩ (by omega) (c_Walk_clear_86 (d - 1) (by omega) U I15 (ov_kws (ov_kwu hw) (by decide +kernel))) ?_
          rintro _ z60 h61 ⟨rfl, I62, f59⟩
          show ov_R u d ov_m23 41 [(0, ov_r 0), (1, ov_i v3), (2, ov_r 58)] [] z60 h61 (P_OF_town_0 F z h)
          have f63 : (h61 36 7) = (h5 36 7) ∧ (h61 1 1) = (h5 1 1) ∧ (h61 90 2) = (h5 90 2) ∧ (h61 0 10) = 58 ∧ (h61 0 11) = 58 ∧ (h61 0 12) = (h5 0 12) ∧ (h61 0 13) = (h5 0 13) ∧ (h61 3 1) = (h5 3 1) ∧ (h61 36 8) = (h5 36 8) ∧ (h61 46 3) = (h5 46 3) ∧ (h61 46 4) = (h5 46 4) ∧ (h61 49 4) = (h5 49 4) ∧ (h61 49 5) = (h5 49 5) ∧ (h61 64 0) = (h5 64 0) ∧ (h61 76 0) = (h5 76 0) := f59
          clear f59
          have e64 : h61 0 10 = 58 := by omega
          have e65 : h61 0 11 = 58 := by omega
          have e66 : h61 0 12 = 86 := by omega
          refine ov_blk (ls2 := [(0, ov_r 0), (1, ov_i v3), (2, ov_r 58)]) (st2 := [ov_r 0]) (pc2 := 42) b_23_41_1 rfl rfl ?_
          refine ov_getf (v := ov_r 4) d_23_42 fl_OF_28 (zb_0 I62) (zs_0 I62) (congrArg ov_r (rg_0_2 I62)) ?_
          refine ov_cV (as := []) (st := []) (d2 := d - 1) d_23_45 lk_OF_114 rfl (Nat.le_of_ble_eq_true rfl) (c := 7) (zb_4 I62) (zs_4 I62) ⟨by decide, rfl⟩ (by omega) (c_State_clear_4 (d - 1) (by omega) U I62 (ov_kws (ov_kwu hw) (by decide +kernel))) ?_
          rintro _ z68 h69 ⟨rfl, I70, f67⟩
          show ov_R u d ov_m23 48 [(0, ov_r 0), (1, ov_i v3), (2, ov_r 58)] [] z68 h69 (P_OF_town_0 F z h)
          have f71 : (h69 36 7) = (h61 36 7) ∧ (h69 1 1) = (h61 1 1) ∧ (h69 90 2) = (h61 90 2) ∧ (h69 0 10) = (h61 0 10) ∧ (h69 0 11) = (h61 0 11) ∧ (h69 0 12) = (h61 0 12) ∧ (h69 0 13) = (h61 0 13) ∧ (h69 3 1) = (h61 3 1) ∧ (h69 36 8) = (h61 36 8) ∧ (h69 46 3) = (h61 46 3) ∧ (h69 46 4) = (h61 46 4) ∧ (h69 49 4) = (h61 49 4) ∧ (h69 49 5) = (h61 49 5) ∧ (h69 64 0) = (h61 64 0) ∧ (h69 76 0) = (h61 76 0) := f67
          clear f67
          have e72 : h69 0 10 = 58 := by omega
          have e73 : h69 0 11 = 58 := by omega
          have e74 : h69 0 12 = 86 := by omega
          refine ov_blk (ls2 := [(0, ov_r 0), (1, ov_i v3), (2, ov_r 58)]) (st2 := [ov_r 0]) (pc2 := 49) b_23_48_1 rfl rfl ?_
          refine ov_getf (v := ov_r 9) d_23_49 fl_OF_35 (zb_0 I70) (zs_0 I70) (congrArg ov_r (rg_0_3 I70)) ?_
          refine ov_cV (as := []) (st := []) (d2 := d - 1) d_23_52 lk_OF_115 rfl (Nat.le_of_ble_eq_true rfl) (c := 3) (zb_9 I70) (zs_9 I70) ⟨by decide, rfl⟩ (by omega) (c_History_clear_9 (d - 1) (by omega) U I70 (ov_kws (ov_kwu hw) (by decide +kernel))) ?_
          rintro _ z76 h77 ⟨rfl, I78, f75⟩
          show ov_R u d ov_m23 55 [(0, ov_r 0), (1, ov_i v3), (2, ov_r 58)] [] z76 h77 (P_OF_town_0 F z h)
          have f79 : (h77 36 7) = (h69 36 7) ∧ (h77 1 1) = (h69 1 1) ∧ (h77 90 2) = (h69 90 2) ∧ (h77 0 10) = (h69 0 10) ∧ (h77 0 11) = (h69 0 11) ∧ (h77 0 12) = (h69 0 12) ∧ (h77 0 13) = (h69 0 13) ∧ (h77 3 1) = (h69 3 1) ∧ (h77 36 8) = (h69 36 8) ∧ (h77 46 3) = (h69 46 3) ∧ (h77 46 4) = (h69 46 4) ∧ (h77 49 4) = (h69 49 4) ∧ (h77 49 5) = (h69 49 5) ∧ (h77 64 0) = (h69 64 0) ∧ (h77 76 0) = (h69 76 0) := f75
          clear f75
          have e80 : h77 0 10 = 58 := by omega
          have e81 : h77 0 11 = 58 := by omega
          have e82 : h77 0 12 = 86 := by omega
          refine ov_blk (ls2 := [(0, ov_r 0), (1, ov_i v3), (2, ov_r 58)]) (st2 := [ov_r 0]) (pc2 := 56) b_23_55_1 rfl rfl ?_
          refine ov_cV (as := []) (st := []) (d2 := d - 1) d_23_56 lk_OF_116 rfl (Nat.le_of_ble_eq_true rfl) (c := 0) (zb_0 I78) (zs_0 I78) ⟨by decide, rfl⟩ (by omega) (c_OF_forgetMarks_0 (d - 1) (by omega) U I78 (ov_kws (ov_kwu hw) (by decide +kernel))) ?_
          rintro _ z84 h85 ⟨rfl, I86, f83⟩
          show ov_R u d ov_m23 59 [(0, ov_r 0), (1, ov_i v3), (2, ov_r 58)] [] z84 h85 (P_OF_town_0 F z h)
          have f87 : (h85 36 7) = (h77 36 7) ∧ (h85 1 1) = (h77 1 1) ∧ (h85 90 2) = (h77 90 2) ∧ (h85 0 10) = (h77 0 10) ∧ (h85 0 11) = (h77 0 11) ∧ (h85 0 12) = (h77 0 12) ∧ (h85 0 13) = (h77 0 13) ∧ (h85 3 1) = (h77 3 1) ∧ (h85 36 8) = (h77 36 8) ∧ (h85 46 3) = (h77 46 3) ∧ (h85 46 4) = (h77 46 4) ∧ (h85 49 4) = (h77 49 4) ∧ (h85 49 5) = (h77 49 5) ∧ (h85 64 0) = (h77 64 0) ∧ (h85 76 0) = (h77 76 0) := f83
          clear f83
          have e88 : h85 0 10 = 58 := by omega
          have e89 : h85 0 11 = 58 := by omega
          have e90 : h85 0 12 = 86 := by omega
          refine ov_blk (ls2 := [(0, ov_r 0), (1, ov_i v3), (2, ov_r 58)]) (st2 := [ov_r 0]) (pc2 := 60) b_23_59_1 rfl rfl ?_
          refine ov_cV (as := []) (st := []) (d2 := d - 1) d_23_60 lk_OF_119 rfl (Nat.le_of_ble_eq_true rfl) (c := 0) (zb_0 I86) (zs_0 I86) ⟨by decide, rfl⟩ (by omega) (c_OF_forgetReckonings_0 (d - 1) (by omega) U I86) ?_
          rintro _ z92 h93 ⟨rfl, I94, f91⟩
          show ov_R u d ov_m23 63 [(0, ov_r 0), (1, ov_i v3), (2, ov_r 58)] [] z92 h93 (P_OF_town_0 F z h)
          have f95 : (h93 36 7) = 0 ∧ (h93 1 1) = (h85 1 1) ∧ (h93 90 2) = (h85 90 2) ∧ (h93 0 10) = (h85 0 10) ∧ (h93 0 11) = (h85 0 11) ∧ (h93 0 12) = (h85 0 12) ∧ (h93 0 13) = (h85 0 13) ∧ (h93 3 1) = (h85 3 1) ∧ (h93 36 8) = (h85 36 8) ∧ (h93 46 3) = (h85 46 3) ∧ (h93 46 4) = (h85 46 4) ∧ (h93 49 4) = (h85 49 4) ∧ (h93 49 5) = (h85 49 5) ∧ (h93 64 0) = (h85 64 0) ∧ (h93 76 0) = (h85 76 0) := f91
          clear f91
          have e96 : h93 0 10 = 58 := by omega
          have e97 : h93 0 11 = 58 := by omega
          have e98 : h93 0 12 = 86 := by omega
          refine ov_blk (ls2 := [(0, ov_r 0), (1, ov_i v3), (2, ov_r 58)]) (st2 := [ov_i v3]) (pc2 := 64) b_23_63_1 rfl rfl ?_
          have gf99 : 1 ≤ (h93 58 0) ∧ 1 ≤ (h93 58 1) := ov_I_fg (h := h93) (T := 58) (by omega) I94
          have gk : F (-5) 70 = 1 := by omega
          have gf100 : 1 ≤ (h93 70 0) ∧ 1 ≤ (h93 70 1) := ov_I_fk (h := h93) (S := 70) (by omega) I94 gk
          exact ov_reti (st := []) d_23_64 rfl ⟨_, rfl, (ov_I_fd I94), (by show (h93 1 1) = 0 ∧ ((h93 36 7) = 1 → (h93 36 8) = (h93 0 10)) ∧ ((h93 0 10) = 58 ∧ (h93 0 11) = 70 ∧ 0 ≤ (h93 64 0) ∧ 1 ≤ (h93 58 0) ∧ 1 ≤ (h93 58 1) ∨ (h93 0 10) = 70 ∧ (h93 0 11) = 58 ∧ 0 ≤ (h93 76 0) ∧ 1 ≤ (h93 70 0) ∧ 1 ≤ (h93 70 1)) ∧ (h93 90 2) = (h 90 2) ∧ (h93 0 12) = (h 0 12) ∧ (h93 0 13) = (h 0 13) ∧ (h93 46 3) = (h 46 3) ∧ (h93 46 4) = (h 46 4) ∧ (h93 49 4) = (h 49 4) ∧ (h93 49 5) = (h 49 5); omega)⟩
      · skip
        refine ov_getf (v := ov_r 70) d_23_17 fl_OF_78 (zb_0 I9) (zs_0 I9) (congrArg ov_r e13) ?_
        refine ov_blk (ls2 := [(0, ov_r 0), (1, ov_i v3), (2, ov_r 70)]) (st2 := [ov_r 0, ov_r 0]) (pc2 := 23) b_23_20_3 rfl rfl ?_
        refine ov_getf (v := ov_r 58) d_23_23 fl_OF_82 (zb_0 I9) (zs_0 I9) (congrArg ov_r e8) ?_
        refine ov_putf (x := 58) d_23_26 fl_OF_78 (zb_0 I9) (zs_0 I9) rfl nk_2 rfl ?_
        have I101 := up_0_10 (x := 58) I9 (by omega) ((ov_kwu hw) 0 (by decide +kernel))
        refine ov_blk (ls2 := [(0, ov_r 0), (1, ov_i v3), (2, ov_r 70)]) (st2 := [ov_r 70, ov_r 0]) (pc2 := 31) b_23_29_2 rfl rfl ?_
        refine ov_putf (x := 70) d_23_31 fl_OF_82 (zb_0 I101) (zs_0 I101) rfl nk_2 rfl ?_
        have I102 := up_0_11 (x := 70) I101 (by omega) ((ov_kwu hw) 0 (by decide +kernel))
        refine ov_blk (ls2 := [(0, ov_r 0), (1, ov_i v3), (2, ov_r 70)]) (st2 := [ov_r 0]) (pc2 := 35) b_23_34_1 rfl rfl ?_
        rcases rg_0_12 I9 with e103 | e103
        · skip
          refine ov_getf (v := ov_r 82) d_23_35 fl_OF_88 (zb_0 I102) (zs_0 I102) (congrArg ov_r e103) ?_
          refine ov_cV (as := []) (st := []) (d2 := d - 1) d_23_38 lk_OF_113 rfl (Nat.le_of_ble_eq_true rfl) (c := 10) (zb_82 I102) (zs_82 I102) ⟨by decide, rfl⟩ (by omega) (c_Walk_clear_82 (d - 1) (by omega) U I102 (ov_kws (ov_kwu hw) (by decide +kernel))) ?_
          rintro _ z105 h106 ⟨rfl, I107, f104⟩
          show ov_R u d ov_m23 41 [(0, ov_r 0), (1, ov_i v3), (2, ov_r 70)] [] z105 h106 (P_OF_town_0 F z h)
          have f108 : (h106 36 7) = (h5 36 7) ∧ (h106 1 1) = (h5 1 1) ∧ (h106 90 2) = (h5 90 2) ∧ (h106 0 10) = 58 ∧ (h106 0 11) = 70 ∧ (h106 0 12) = (h5 0 12) ∧ (h106 0 13) = (h5 0 13) ∧ (h106 3 1) = (h5 3 1) ∧ (h106 36 8) = (h5 36 8) ∧ (h106 46 3) = (h5 46 3) ∧ (h106 46 4) = (h5 46 4) ∧ (h106 49 4) = (h5 49 4) ∧ (h106 49 5) = (h5 49 5) ∧ (h106 64 0) = (h5 64 0) ∧ (h106 76 0) = (h5 76 0) := f104
          clear f104
          have e109 : h106 0 10 = 58 := by omega
          have e110 : h106 0 11 = 70 := by omega
          have e111 : h106 0 12 = 82 := by omega
          refine ov_blk (ls2 := [(0, ov_r 0), (1, ov_i v3), (2, ov_r 70)]) (st2 := [ov_r 0]) (pc2 := 42) b_23_41_1 rfl rfl ?_
          refine ov_getf (v := ov_r 4) d_23_42 fl_OF_28 (zb_0 I107) (zs_0 I107) (congrArg ov_r (rg_0_2 I107)) ?_
          refine ov_cV (as := []) (st := []) (d2 := d - 1) d_23_45 lk_OF_114 rfl (Nat.le_of_ble_eq_true rfl) (c := 7) (zb_4 I107) (zs_4 I107) ⟨by decide, rfl⟩ (by omega) (c_State_clear_4 (d - 1) (by omega) U I107 (ov_kws (ov_kwu hw) (by decide +kernel))) ?_
          rintro _ z113 h114 ⟨rfl, I115, f112⟩
          show ov_R u d ov_m23 48 [(0, ov_r 0), (1, ov_i v3), (2, ov_r 70)] [] z113 h114 (P_OF_town_0 F z h)
          have f116 : (h114 36 7) = (h106 36 7) ∧ (h114 1 1) = (h106 1 1) ∧ (h114 90 2) = (h106 90 2) ∧ (h114 0 10) = (h106 0 10) ∧ (h114 0 11) = (h106 0 11) ∧ (h114 0 12) = (h106 0 12) ∧ (h114 0 13) = (h106 0 13) ∧ (h114 3 1) = (h106 3 1) ∧ (h114 36 8) = (h106 36 8) ∧ (h114 46 3) = (h106 46 3) ∧ (h114 46 4) = (h106 46 4) ∧ (h114 49 4) = (h106 49 4) ∧ (h114 49 5) = (h106 49 5) ∧ (h114 64 0) = (h106 64 0) ∧ (h114 76 0) = (h106 76 0) := f112
          clear f112
          have e117 : h114 0 10 = 58 := by omega
          have e118 : h114 0 11 = 70 := by omega
          have e119 : h114 0 12 = 82 := by omega
          refine ov_blk (ls2 := [(0, ov_r 0), (1, ov_i v3), (2, ov_r 70)]) (st2 := [ov_r 0]) (pc2 := 49) b_23_48_1 rfl rfl ?_
          refine ov_getf (v := ov_r 9) d_23_49 fl_OF_35 (zb_0 I115) (zs_0 I115) (congrArg ov_r (rg_0_3 I115)) ?_
          refine ov_cV (as := []) (st := []) (d2 := d - 1) d_23_52 lk_OF_115 rfl (Nat.le_of_ble_eq_true rfl) (c := 3) (zb_9 I115) (zs_9 I115) ⟨by decide, rfl⟩ (by omega) (c_History_clear_9 (d - 1) (by omega) U I115 (ov_kws (ov_kwu hw) (by decide +kernel))) ?_
          rintro _ z121 h122 ⟨rfl, I123, f120⟩
          show ov_R u d ov_m23 55 [(0, ov_r 0), (1, ov_i v3), (2, ov_r 70)] [] z121 h122 (P_OF_town_0 F z h)
          have f124 : (h122 36 7) = (h114 36 7) ∧ (h122 1 1) = (h114 1 1) ∧ (h122 90 2) = (h114 90 2) ∧ (h122 0 10) = (h114 0 10) ∧ (h122 0 11) = (h114 0 11) ∧ (h122 0 12) = (h114 0 12) ∧ (h122 0 13) = (h114 0 13) ∧ (h122 3 1) = (h114 3 1) ∧ (h122 36 8) = (h114 36 8) ∧ (h122 46 3) = (h114 46 3) ∧ (h122 46 4) = (h114 46 4) ∧ (h122 49 4) = (h114 49 4) ∧ (h122 49 5) = (h114 49 5) ∧ (h122 64 0) = (h114 64 0) ∧ (h122 76 0) = (h114 76 0) := f120
          clear f120
          have e125 : h122 0 10 = 58 := by omega
          have e126 : h122 0 11 = 70 := by omega
          have e127 : h122 0 12 = 82 := by omega
          refine ov_blk (ls2 := [(0, ov_r 0), (1, ov_i v3), (2, ov_r 70)]) (st2 := [ov_r 0]) (pc2 := 56) b_23_55_1 rfl rfl ?_
          refine ov_cV (as := []) (st := []) (d2 := d - 1) d_23_56 lk_OF_116 rfl (Nat.le_of_ble_eq_true rfl) (c := 0) (zb_0 I123) (zs_0 I123) ⟨by decide, rfl⟩ (by omega) (c_OF_forgetMarks_0 (d - 1) (by omega) U I123 (ov_kws (ov_kwu hw) (by decide +kernel))) ?_
          rintro _ z129 h130 ⟨rfl, I131, f128⟩
          show ov_R u d ov_m23 59 [(0, ov_r 0), (1, ov_i v3), (2, ov_r 70)] [] z129 h130 (P_OF_town_0 F z h)
          have f132 : (h130 36 7) = (h122 36 7) ∧ (h130 1 1) = (h122 1 1) ∧ (h130 90 2) = (h122 90 2) ∧ (h130 0 10) = (h122 0 10) ∧ (h130 0 11) = (h122 0 11) ∧ (h130 0 12) = (h122 0 12) ∧ (h130 0 13) = (h122 0 13) ∧ (h130 3 1) = (h122 3 1) ∧ (h130 36 8) = (h122 36 8) ∧ (h130 46 3) = (h122 46 3) ∧ (h130 46 4) = (h122 46 4) ∧ (h130 49 4) = (h122 49 4) ∧ (h130 49 5) = (h122 49 5) ∧ (h130 64 0) = (h122 64 0) ∧ (h130 76 0) = (h122 76 0) := f128
          clear f128
          have e133 : h130 0 10 = 58 := by omega
          have e134 : h130 0 11 = 70 := by omega
          have e135 : h130 0 12 = 82 := by omega
          refine ov_blk (ls2 := [(0, ov_r 0), (1, ov_i v3), (2, ov_r 70)]) (st2 := [ov_r 0]) (pc2 := 60) b_23_59_1 rfl rfl ?_
          refine ov_cV (as := []) (st := []) (d2 := d - 1) d_23_60 lk_OF_119 rfl (Nat.le_of_ble_eq_true rfl) (c := 0) (zb_0 I131) (zs_0 I131) ⟨by decide, rfl⟩ (by omega) (c_OF_forgetReckonings_0 (d - 1) (by omega) U I131) ?_
          rintro _ z137 h138 ⟨rfl, I139, f136⟩
          show ov_R u d ov_m23 63 [(0, ov_r 0), (1, ov_i v3), (2, ov_r 70)] [] z137 h138 (P_OF_town_0 F z h)
          have f140 : (h138 36 7) = 0 ∧ (h138 1 1) = (h130 1 1) ∧ (h138 90 2) = (h130 90 2) ∧ (h138 0 10) = (h130 0 10) ∧ (h138 0 11) = (h130 0 11) ∧ (h138 0 12) = (h130 0 12) ∧ (h138 0 13) = (h130 0 13) ∧ (h138 3 1) = (h130 3 1) ∧ (h138 36 8) = (h130 36 8) ∧ (h138 46 3) = (h130 46 3) ∧ (h138 46 4) = (h130 46 4) ∧ (h138 49 4) = (h130 49 4) ∧ (h138 49 5) = (h130 49 5) ∧ (h138 64 0) = (h130 64 0) ∧ (h138 76 0) = (h130 76 0) := f136
          clear f136
          have e141 : h138 0 10 = 58 := by omega
          have e142 : h138 0 11 = 70 := by omega
          have e143 : h138 0 12 = 82 := by omega
          refine ov_blk (ls2 := [(0, ov_r 0), (1, ov_i v3), (2, ov_r 70)]) (st2 := [ov_i v3]) (pc2 := 64) b_23_63_1 rfl rfl ?_
          have gf144 : 1 ≤ (h138 58 0) ∧ 1 ≤ (h138 58 1) := ov_I_fg (h := h138) (T := 58) (by omega) I139
          have gk : F (-5) 70 = 1 := by omega
          have gf145 : 1 ≤ (h138 70 0) ∧ 1 ≤ (h138 70 1) := ov_I_fk (h := h138) (S := 70) (by omega) I139 gk
          exact ov_reti (st := []) d_23_64 rfl ⟨_, rfl, (ov_I_fd I139), (by show (h138 1 1) = 0 ∧ ((h138 36 7) = 1 → (h138 36 8) = (h138 0 10)) ∧ ((h138 0 10) = 58 ∧ (h138 0 11) = 70 ∧ 0 ≤ (h138 64 0) ∧ 1 ≤ (h138 58 0) ∧ 1 ≤ (h138 58 1) ∨ (h138 0 10) = 70 ∧ (h138 0 11) = 58 ∧ 0 ≤ (h138 76 0) ∧ 1 ≤ (h138 70 0) ∧ 1 ≤ (h138 70 1)) ∧ (h138 90 2) = (h 90 2) ∧ (h138 0 12) = (h 0 12) ∧ (h138 0 13) = (h 0 13) ∧ (h138 46 3) = (h 46 3) ∧ (h138 46 4) = (h 46 4) ∧ (h138 49 4) = (h 49 4) ∧ (h138 49 5) = (h 49 5); omega)⟩
        · skip
          refine ov_getf (v := ov_r 86) d_23_35 fl_OF_88 (zb_0 I102) (zs_0 I102) (congrArg ov_r e103) ?_
          refine ov_cV (as := []) (st := []) (d2 := d - 1) d_23_38 lk_OF_113 rfl (Nat.le_of_ble_eq_true rfl) (c := 10) (zb_86 I102) (zs_86 I102) ⟨by decide, rfl⟩ (by omega) (c_Walk_clear_86 (d - 1) (by omega) U I102 (ov_kws (ov_kwu hw) (by decide +kernel))) ?_
          rintro _ z147 h148 ⟨rfl, I149, f146⟩
          show ov_R u d ov_m23 41 [(0, ov_r 0), (1, ov_i v3), (2, ov_r 70)] [] z147 h148 (P_OF_town_0 F z h)
          have f150 : (h148 36 7) = (h5 36 7) ∧ (h148 1 1) = (h5 1 1) ∧ (h148 90 2) = (h5 90 2) ∧ (h148 0 10) = 58 ∧ (h148 0 11) = 70 ∧ (h148 0 12) = (h5 0 12) ∧ (h148 0 13) = (h5 0 13) ∧ (h148 3 1) = (h5 3 1) ∧ (h148 36 8) = (h5 36 8) ∧ (h148 46 3) = (h5 46 3) ∧ (h148 46 4) = (h5 46 4) ∧ (h148 49 4) = (h5 49 4) ∧ (h148 49 5) = (h5 49 5) ∧ (h148 64 0) = (h5 64 0) ∧ (h148 76 0) = (h5 76 0) := f146
          clear f146
          have e151 : h148 0 10 = 58 := by omega
          have e152 : h148 0 11 = 70 := by omega
          have e153 : h148 0 12 = 86 := by omega
          refine ov_blk (ls2 := [(0, ov_r 0), (1, ov_i v3), (2, ov_r 70)]) (st2 := [ov_r 0]) (pc2 := 42) b_23_41_1 rfl rfl ?_
          refine ov_getf (v := ov_r 4) d_23_42 fl_OF_28 (zb_0 I149) (zs_0 I149) (congrArg ov_r (rg_0_2 I149)) ?_
          refine ov_cV (as := []) (st := []) (d2 := d - 1) d_23_45 lk_OF_114 rfl (Nat.le_of_ble_eq_true rfl) (c := 7) (zb_4 I149) (zs_4 I149) ⟨by decide, rfl⟩ (by omega) (c_State_clear_4 (d - 1) (by omega) U I149 (ov_kws (ov_kwu hw) (by decide +kernel))) ?_
          rintro _ z155 h156 ⟨rfl, I157, f154⟩
          show ov_R u d ov_m23 48 [(0, ov_r 0), (1, ov_i v3), (2, ov_r 70)] [] z155 h156 (P_OF_town_0 F z h)
          have f158 : (h156 36 7) = (h148 36 7) ∧ (h156 1 1) = (h148 1 1) ∧ (h156 90 2) = (h148 90 2) ∧ (h156 0 10) = (h148 0 10) ∧ (h156 0 11) = (h148 0 11) ∧ (h156 0 12) = (h148 0 12) ∧ (h156 0 13) = (h148 0 13) ∧ (h156 3 1) = (h148 3 1) ∧ (h156 36 8) = (h148 36 8) ∧ (h156 46 3) = (h148 46 3) ∧ (h156 46 4) = (h148 46 4) ∧ (h156 49 4) = (h148 49 4) ∧ (h156 49 5) = (h148 49 5) ∧ (h156 64 0) = (h148 64 0) ∧ (h156 76 0) = (h148 76 0) := f154
          clear f154
          have e159 : h156 0 10 = 58 := by omega
          have e160 : h156 0 11 = 70 := by omega
          have e161 : h156 0 12 = 86 := by omega
          refine ov_blk (ls2 := [(0, ov_r 0), (1, ov_i v3), (2, ov_r 70)]) (st2 := [ov_r 0]) (pc2 := 49) b_23_48_1 rfl rfl ?_
          refine ov_getf (v := ov_r 9) d_23_49 fl_OF_35 (zb_0 I157) (zs_0 I157) (congrArg ov_r (rg_0_3 I157)) ?_
          refine ov_cV (as := []) (st := []) (d2 := d - 1) d_23_52 lk_OF_115 rfl (Nat.le_of_ble_eq_true rfl) (c := 3) (zb_9 I157) (zs_9 I157) ⟨by decide, rfl⟩ (by omega) (c_History_clear_9 (d - 1) (by omega) U I157 (ov_kws (ov_kwu hw) (by decide +kernel))) ?_
          rintro _ z163 h164 ⟨rfl, I165, f162⟩
          show ov_R u d ov_m23 55 [(0, ov_r 0), (1, ov_i v3), (2, ov_r 70)] [] z163 h164 (P_OF_town_0 F z h)
          have f166 : (h164 36 7) = (h156 36 7) ∧ (h164 1 1) = (h156 1 1) ∧ (h164 90 2) = (h156 90 2) ∧ (h164 0 10) = (h156 0 10) ∧ (h164 0 11) = (h156 0 11) ∧ (h164 0 12) = (h156 0 12) ∧ (h164 0 13) = (h156 0 13) ∧ (h164 3 1) = (h156 3 1) ∧ (h164 36 8) = (h156 36 8) ∧ (h164 46 3) = (h156 46 3) ∧ (h164 46 4) = (h156 46 4) ∧ (h164 49 4) = (h156 49 4) ∧ (h164 49 5) = (h156 49 5) ∧ (h164 64 0) = (h156 64 0) ∧ (h164 76 0) = (h156 76 0) := f162
          clear f162
          have e167 : h164 0 10 = 58 := by omega
          have e168 : h164 0 11 = 70 := by omega
          have e169 : h164 0 12 = 86 := by omega
          refine ov_blk (ls2 := [(0, ov_r 0), (1, ov_i v3), (2, ov_r 70)]) (st2 := [ov_r 0]) (pc2 := 56) b_23_55_1 rfl rfl ?_
          refine ov_cV (as := []) (st := []) (d2 := d - 1) d_23_56 lk_OF_116 rfl (Nat.le_of_ble_eq_true rfl) (c := 0) (zb_0 I165) (zs_0 I165) ⟨by decide, rfl⟩ (by omega) (c_OF_forgetMarks_0 (d - 1) (by omega) U I165 (ov_kws (ov_kwu hw) (by decide +kernel))) ?_
          rintro _ z171 h172 ⟨rfl, I173, f170⟩
          show ov_R u d ov_m23 59 [(0, ov_r 0), (1, ov_i v3), (2, ov_r 70)] [] z171 h172 (P_OF_town_0 F z h)
          have f174 : (h172 36 7) = (h164 36 7) ∧ (h172 1 1) = (h164 1 1) ∧ (h172 90 2) = (h164 90 2) ∧ (h172 0 10) = (h164 0 10) ∧ (h172 0 11) = (h164 0 11) ∧ (h172 0 12) = (h164 0 12) ∧ (h172 0 13) = (h164 0 13) ∧ (h172 3 1) = (h164 3 1) ∧ (h172 36 8) = (h164 36 8) ∧ (h172 46 3) = (h164 46 3) ∧ (h172 46 4) = (h164 46 4) ∧ (h172 49 4) = (h164 49 4) ∧ (h172 49 5) = (h164 49 5) ∧ (h172 64 0) = (h164 64 0) ∧ (h172 76 0) = (h164 76 0) := f170
          clear f170
          have e175 : h172 0 10 = 58 := by omega
          have e176 : h172 0 11 = 70 := by omega
          have e177 : h172 0 12 = 86 := by omega
          refine ov_blk (ls2 := [(0, ov_r 0), (1, ov_i v3), (2, ov_r 70)]) (st2 := [ov_r 0]) (pc2 := 60) b_23_59_1 rfl rfl ?_
          refine ov_cV (as := []) (st := []) (d2 := d - 1) d_23_60 lk_OF_119 rfl (Nat.le_of_ble_eq_true rfl) (c := 0) (zb_0 I173) (zs_0 I173) ⟨by decide, rfl⟩ (by omega) (c_OF_forgetReckonings_0 (d - 1) (by omega) U I173) ?_
          rintro _ z179 h180 ⟨rfl, I181, f178⟩
          show ov_R u d ov_m23 63 [(0, ov_r 0), (1, ov_i v3), (2, ov_r 70)] [] z179 h180 (P_OF_town_0 F z h)
          have f182 : (h180 36 7) = 0 ∧ (h180 1 1) = (h172 1 1) ∧ (h180 90 2) = (h172 90 2) ∧ (h180 0 10) = (h172 0 10) ∧ (h180 0 11) = (h172 0 11) ∧ (h180 0 12) = (h172 0 12) ∧ (h180 0 13) = (h172 0 13) ∧ (h180 3 1) = (h172 3 1) ∧ (h180 36 8) = (h172 36 8) ∧ (h180 46 3) = (h172 46 3) ∧ (h180 46 4) = (h172 46 4) ∧ (h180 49 4) = (h172 49 4) ∧ (h180 49 5) = (h172 49 5) ∧ (h180 64 0) = (h172 64 0) ∧ (h180 76 0) = (h172 76 0) := f178
          clear f178
          have e183 : h180 0 10 = 58 := by omega
          have e184 : h180 0 11 = 70 := by omega
          have e185 : h180 0 12 = 86 := by omega
          refine ov_blk (ls2 := [(0, ov_r 0), (1, ov_i v3), (2, ov_r 70)]) (st2 := [ov_i v3]) (pc2 := 64) b_23_63_1 rfl rfl ?_
          have gf186 : 1 ≤ (h180 58 0) ∧ 1 ≤ (h180 58 1) := ov_I_fg (h := h180) (T := 58) (by omega) I181
          have gk : F (-5) 70 = 1 := by omega
          have gf187 : 1 ≤ (h180 70 0) ∧ 1 ≤ (h180 70 1) := ov_I_fk (h := h180) (S := 70) (by omega) I181 gk
          exact ov_reti (st := []) d_23_64 rfl ⟨_, rfl, (ov_I_fd I181), (by show (h180 1 1) = 0 ∧ ((h180 36 7) = 1 → (h180 36 8) = (h180 0 10)) ∧ ((h180 0 10) = 58 ∧ (h180 0 11) = 70 ∧ 0 ≤ (h180 64 0) ∧ 1 ≤ (h180 58 0) ∧ 1 ≤ (h180 58 1) ∨ (h180 0 10) = 70 ∧ (h180 0 11) = 58 ∧ 0 ≤ (h180 76 0) ∧ 1 ≤ (h180 70 0) ∧ 1 ≤ (h180 70 1)) ∧ (h180 90 2) = (h 90 2) ∧ (h180 0 12) = (h 0 12) ∧ (h180 0 13) = (h 0 13) ∧ (h180 46 3) = (h 46 3) ∧ (h180 46 4) = (h 46 4) ∧ (h180 49 4) = (h 49 4) ∧ (h180 49 5) = (h 49 5); omega)⟩
  · skip
    refine ov_getf (v := ov_r 70) d_23_5 fl_OF_82 (zb_0 I) (zs_0 I) (congrArg ov_r e1) ?_
    refine ov_cV (as := [ov_r 70]) (st := []) (d2 := d - 1) d_23_8 lk_OF_109 rfl (Nat.le_of_ble_eq_true rfl) (c := 6) (zb_3 I) (zs_3 I) ⟨by decide, rfl⟩ (by omega) (c_Reader_readTown_3_70 (d - 1) (by omega) U I (ov_kws hw (by decide +kernel))) ?_
    rintro _ z190 h191 ⟨v189, rfl, I192, f188⟩
    show ov_R u d ov_m23 11 [(0, ov_r 0)] [ov_i v189] z190 h191 (P_OF_town_0 F z h)
    have f193 : (h191 1 1) = 0 ∧ -2147483648 ≤ v189 ∧ v189 ≤ 2147483647 ∧ (v189 = 0 → 0 ≤ (h191 76 0)) ∧ 1 ≤ (h191 70 0) ∧ 1 ≤ (h191 70 1) ∧ (h191 36 7) = (h 36 7) ∧ (h191 90 2) = (h 90 2) ∧ (h191 0 10) = (h 0 10) ∧ (h191 0 11) = (h 0 11) ∧ (h191 0 12) = (h 0 12) ∧ (h191 0 13) = (h 0 13) ∧ (h191 36 8) = (h 36 8) ∧ (h191 46 3) = (h 46 3) ∧ (h191 46 4) = (h 46 4) ∧ (h191 49 4) = (h 49 4) ∧ (h191 49 5) = (h 49 5) ∧ (h191 64 0) = (h 64 0) := f188
    clear f188
    have e194 : h191 0 11 = 70 := by omega
    have I195 := ov_I_fu (T := 70) I192 (by omega)
    refine ov_blk (ls2 := [(0, ov_r 0), (1, ov_i v189)]) (st2 := [ov_i v189]) (pc2 := 13) b_23_11_2 rfl rfl ?_
    refine ov_ifne (tgt := 63) d_23_13 (by decide) (by omega) (fun c196 => ?_) (fun c196 => ?_)
    · skip
      refine ov_blk (ls2 := [(0, ov_r 0), (1, ov_i v189)]) (st2 := [ov_i v189]) (pc2 := 64) b_23_63_1 rfl rfl ?_
      have gf197 : 1 ≤ (h191 70 0) ∧ 1 ≤ (h191 70 1) := ov_I_fg (h := h191) (T := 70) (by omega) I195
      have gk : F (-5) 58 = 1 := by omega
      have gf198 : 1 ≤ (h191 58 0) ∧ 1 ≤ (h191 58 1) := ov_I_fk (h := h191) (S := 58) (by omega) I195 gk
      exact ov_reti (st := []) d_23_64 rfl ⟨_, rfl, (ov_I_fd I195), (by show (h191 1 1) = 0 ∧ ((h191 36 7) = 1 → (h191 36 8) = (h191 0 10)) ∧ ((h191 0 10) = 58 ∧ (h191 0 11) = 70 ∧ 0 ≤ (h191 64 0) ∧ 1 ≤ (h191 58 0) ∧ 1 ≤ (h191 58 1) ∨ (h191 0 10) = 70 ∧ (h191 0 11) = 58 ∧ 0 ≤ (h191 76 0) ∧ 1 ≤ (h191 70 0) ∧ 1 ≤ (h191 70 1)) ∧ (h191 90 2) = (h 90 2) ∧ (h191 0 12) = (h 0 12) ∧ (h191 0 13) = (h 0 13) ∧ (h191 46 3) = (h 46 3) ∧ (h191 46 4) = (h 46 4) ∧ (h191 49 4) = (h 49 4) ∧ (h191 49 5) = (h 49 5); omega)⟩
    · skip
      refine ov_blk (ls2 := [(0, ov_r 0), (1, ov_i v189)]) (st2 := [ov_r 0]) (pc2 := 17) b_23_16_1 rfl rfl ?_
      rcases rg_0_10 I195 with e199 | e199
      · skip
        refine ov_getf (v := ov_r 58) d_23_17 fl_OF_78 (zb_0 I195) (zs_0 I195) (congrArg ov_r e199) ?_
        refine ov_blk (ls2 := [(0, ov_r 0), (1, ov_i v189), (2, ov_r 58)]) (st2 := [ov_r 0, ov_r 0]) (pc2 := 23) b_23_20_3 rfl rfl ?_
        refine ov_getf (v := ov_r 70) d_23_23 fl_OF_82 (zb_0 I195) (zs_0 I195) (congrArg ov_r e194) ?_
        refine ov_putf (x := 70) d_23_26 fl_OF_78 (zb_0 I195) (zs_0 I195) rfl nk_2 rfl ?_
        have I200 := up_0_10 (x := 70) I195 (by omega) ((ov_kwu hw) 0 (by decide +kernel))
        refine ov_blk (ls2 := [(0, ov_r 0), (1, ov_i v189), (2, ov_r 58)]) (st2 := [ov_r 58, ov_r 0]) (pc2 := 31) b_23_29_2 rfl rfl ?_
        refine ov_putf (x := 58) d_23_31 fl_OF_82 (zb_0 I200) (zs_0 I200) rfl nk_2 rfl ?_
        have I201 := up_0_11 (x := 58) I200 (by omega) ((ov_kwu hw) 0 (by decide +kernel))
        refine ov_blk (ls2 := [(0, ov_r 0), (1, ov_i v189), (2, ov_r 58)]) (st2 := [ov_r 0]) (pc2 := 35) b_23_34_1 rfl rfl ?_
        rcases rg_0_12 I195 with e202 | e202
        · skip
          refine ov_getf (v := ov_r 82) d_23_35 fl_OF_88 (zb_0 I201) (zs_0 I201) (congrArg ov_r e202) ?_
          refine ov_cV (as := []) (st := []) (d2 := d - 1) d_23_38 lk_OF_113 rfl (Nat.le_of_ble_eq_true rfl) (c := 10) (zb_82 I201) (zs_82 I201) ⟨by decide, rfl⟩ (by omega) (c_Walk_clear_82 (d - 1) (by omega) U I201 (ov_kws (ov_kwu hw) (by decide +kernel))) ?_
          rintro _ z204 h205 ⟨rfl, I206, f203⟩
          show ov_R u d ov_m23 41 [(0, ov_r 0), (1, ov_i v189), (2, ov_r 58)] [] z204 h205 (P_OF_town_0 F z h)
          have f207 : (h205 36 7) = (h191 36 7) ∧ (h205 1 1) = (h191 1 1) ∧ (h205 90 2) = (h191 90 2) ∧ (h205 0 10) = 70 ∧ (h205 0 11) = 58 ∧ (h205 0 12) = (h191 0 12) ∧ (h205 0 13) = (h191 0 13) ∧ (h205 3 1) = (h191 3 1) ∧ (h205 36 8) = (h191 36 8) ∧ (h205 46 3) = (h191 46 3) ∧ (h205 46 4) = (h191 46 4) ∧ (h205 49 4) = (h191 49 4) ∧ (h205 49 5) = (h191 49 5) ∧ (h205 64 0) = (h191 64 0) ∧ (h205 76 0) = (h191 76 0) := f203
          clear f203
          have e208 : h205 0 10 = 70 := by omega
          have e209 : h205 0 11 = 58 := by omega
          have e210 : h205 0 12 = 82 := by omega
          refine ov_blk (ls2 := [(0, ov_r 0), (1, ov_i v189), (2, ov_r 58)]) (st2 := [ov_r 0]) (pc2 := 42) b_23_41_1 rfl rfl ?_
          refine ov_getf (v := ov_r 4) d_23_42 fl_OF_28 (zb_0 I206) (zs_0 I206) (congrArg ov_r (rg_0_2 I206)) ?_
          refine ov_cV (as := []) (st := []) (d2 := d - 1) d_23_45 lk_OF_114 rfl (Nat.le_of_ble_eq_true rfl) (c := 7) (zb_4 I206) (zs_4 I206) ⟨by decide, rfl⟩ (by omega) (c_State_clear_4 (d - 1) (by omega) U I206 (ov_kws (ov_kwu hw) (by decide +kernel))) ?_
          rintro _ z212 h213 ⟨rfl, I214, f211⟩
          show ov_R u d ov_m23 48 [(0, ov_r 0), (1, ov_i v189), (2, ov_r 58)] [] z212 h213 (P_OF_town_0 F z h)
          have f215 : (h213 36 7) = (h205 36 7) ∧ (h213 1 1) = (h205 1 1) ∧ (h213 90 2) = (h205 90 2) ∧ (h213 0 10) = (h205 0 10) ∧ (h213 0 11) = (h205 0 11) ∧ (h213 0 12) = (h205 0 12) ∧ (h213 0 13) = (h205 0 13) ∧ (h213 3 1) = (h205 3 1) ∧ (h213 36 8) = (h205 36 8) ∧ (h213 46 3) = (h205 46 3) ∧ (h213 46 4) = (h205 46 4) ∧ (h213 49 4) = (h205 49 4) ∧ (h213 49 5) = (h205 49 5) ∧ (h213 64 0) = (h205 64 0) ∧ (h213 76 0) = (h205 76 0) := f211
          clear f211
          have e216 : h213 0 10 = 70 := by omega
          have e217 : h213 0 11 = 58 := by omega
          have e218 : h213 0 12 = 82 := by omega
          refine ov_blk (ls2 := [(0, ov_r 0), (1, ov_i v189), (2, ov_r 58)]) (st2 := [ov_r 0]) (pc2 := 49) b_23_48_1 rfl rfl ?_
          refine ov_getf (v := ov_r 9) d_23_49 fl_OF_35 (zb_0 I214) (zs_0 I214) (congrArg ov_r (rg_0_3 I214)) ?_
          refine ov_cV (as := []) (st := []) (d2 := d - 1) d_23_52 lk_OF_115 rfl (Nat.le_of_ble_eq_true rfl) (c := 3) (zb_9 I214) (zs_9 I214) ⟨by decide, rfl⟩ (by omega) (c_History_clear_9 (d - 1) (by omega) U I214 (ov_kws (ov_kwu hw) (by decide +kernel))) ?_
          rintro _ z220 h221 ⟨rfl, I222, f219⟩
          show ov_R u d ov_m23 55 [(0, ov_r 0), (1, ov_i v189), (2, ov_r 58)] [] z220 h221 (P_OF_town_0 F z h)
          have f223 : (h221 36 7) = (h213 36 7) ∧ (h221 1 1) = (h213 1 1) ∧ (h221 90 2) = (h213 90 2) ∧ (h221 0 10) = (h213 0 10) ∧ (h221 0 11) = (h213 0 11) ∧ (h221 0 12) = (h213 0 12) ∧ (h221 0 13) = (h213 0 13) ∧ (h221 3 1) = (h213 3 1) ∧ (h221 36 8) = (h213 36 8) ∧ (h221 46 3) = (h213 46 3) ∧ (h221 46 4) = (h213 46 4) ∧ (h221 49 4) = (h213 49 4) ∧ (h221 49 5) = (h213 49 5) ∧ (h221 64 0) = (h213 64 0) ∧ (h221 76 0) = (h213 76 0) := f219
          clear f219
          have e224 : h221 0 10 = 70 := by omega
          have e225 : h221 0 11 = 58 := by omega
          have e226 : h221 0 12 = 82 := by omega
          refine ov_blk (ls2 := [(0, ov_r 0), (1, ov_i v189), (2, ov_r 58)]) (st2 := [ov_r 0]) (pc2 := 56) b_23_55_1 rfl rfl ?_
          refine ov_cV (as := []) (st := []) (d2 := d - 1) d_23_56 lk_OF_116 rfl (Nat.le_of_ble_eq_true rfl) (c := 0) (zb_0 I222) (zs_0 I222) ⟨by decide, rfl⟩ (by omega) (c_OF_forgetMarks_0 (d - 1) (by omega) U I222 (ov_kws (ov_kwu hw) (by decide +kernel))) ?_
          rintro _ z228 h229 ⟨rfl, I230, f227⟩
          show ov_R u d ov_m23 59 [(0, ov_r 0), (1, ov_i v189), (2, ov_r 58)] [] z228 h229 (P_OF_town_0 F z h)
          have f231 : (h229 36 7) = (h221 36 7) ∧ (h229 1 1) = (h221 1 1) ∧ (h229 90 2) = (h221 90 2) ∧ (h229 0 10) = (h221 0 10) ∧ (h229 0 11) = (h221 0 11) ∧ (h229 0 12) = (h221 0 12) ∧ (h229 0 13) = (h221 0 13) ∧ (h229 3 1) = (h221 3 1) ∧ (h229 36 8) = (h221 36 8) ∧ (h229 46 3) = (h221 46 3) ∧ (h229 46 4) = (h221 46 4) ∧ (h229 49 4) = (h221 49 4) ∧ (h229 49 5) = (h221 49 5) ∧ (h229 64 0) = (h221 64 0) ∧ (h229 76 0) = (h221 76 0) := f227
          clear f227
          have e232 : h229 0 10 = 70 := by omega
          have e233 : h229 0 11 = 58 := by omega
          have e234 : h229 0 12 = 82 := by omega
          refine ov_blk (ls2 := [(0, ov_r 0), (1, ov_i v189), (2, ov_r 58)]) (st2 := [ov_r 0]) (pc2 := 60) b_23_59_1 rfl rfl ?_
          refine ov_cV (as := []) (st := []) (d2 := d - 1) d_23_60 lk_OF_119 rfl (Nat.le_of_ble_eq_true rfl) (c := 0) (zb_0 I230) (zs_0 I230) ⟨by decide, rfl⟩ (by omega) (c_OF_forgetReckonings_0 (d - 1) (by omega) U I230) ?_
          rintro _ z236 h237 ⟨rfl, I238, f235⟩
          show ov_R u d ov_m23 63 [(0, ov_r 0), (1, ov_i v189), (2, ov_r 58)] [] z236 h237 (P_OF_town_0 F z h)
          have f239 : (h237 36 7) = 0 ∧ (h237 1 1) = (h229 1 1) ∧ (h237 90 2) = (h229 90 2) ∧ (h237 0 10) = (h229 0 10) ∧ (h237 0 11) = (h229 0 11) ∧ (h237 0 12) = (h229 0 12) ∧ (h237 0 13) = (h229 0 13) ∧ (h237 3 1) = (h229 3 1) ∧ (h237 36 8) = (h229 36 8) ∧ (h237 46 3) = (h229 46 3) ∧ (h237 46 4) = (h229 46 4) ∧ (h237 49 4) = (h229 49 4) ∧ (h237 49 5) = (h229 49 5) ∧ (h237 64 0) = (h229 64 0) ∧ (h237 76 0) = (h229 76 0) := f235
          clear f235
          have e240 : h237 0 10 = 70 := by omega
          have e241 : h237 0 11 = 58 := by omega
          have e242 : h237 0 12 = 82 := by omega
          refine ov_blk (ls2 := [(0, ov_r 0), (1, ov_i v189), (2, ov_r 58)]) (st2 := [ov_i v189]) (pc2 := 64) b_23_63_1 rfl rfl ?_
          have gf243 : 1 ≤ (h237 70 0) ∧ 1 ≤ (h237 70 1) := ov_I_fg (h := h237) (T := 70) (by omega) I238
          have gk : F (-5) 58 = 1 := by omega
          have gf244 : 1 ≤ (h237 58 0) ∧ 1 ≤ (h237 58 1) := ov_I_fk (h := h237) (S := 58) (by omega) I238 gk
          exact ov_reti (st := []) d_23_64 rfl ⟨_, rfl, (ov_I_fd I238), (by show (h237 1 1) = 0 ∧ ((h237 36 7) = 1 → (h237 36 8) = (h237 0 10)) ∧ ((h237 0 10) = 58 ∧ (h237 0 11) = 70 ∧ 0 ≤ (h237 64 0) ∧ 1 ≤ (h237 58 0) ∧ 1 ≤ (h237 58 1) ∨ (h237 0 10) = 70 ∧ (h237 0 11) = 58 ∧ 0 ≤ (h237 76 0) ∧ 1 ≤ (h237 70 0) ∧ 1 ≤ (h237 70 1)) ∧ (h237 90 2) = (h 90 2) ∧ (h237 0 12) = (h 0 12) ∧ (h237 0 13) = (h 0 13) ∧ (h237 46 3) = (h 46 3) ∧ (h237 46 4) = (h 46 4) ∧ (h237 49 4) = (h 49 4) ∧ (h237 49 5) = (h 49 5); omega)⟩
        · skip
          refine ov_getf (v := ov_r 86) d_23_35 fl_OF_88 (zb_0 I201) (zs_0 I201) (congrArg ov_r e202) ?_
          refine ov_cV (as := []) (st := []) (d2 := d - 1) d_23_38 lk_OF_113 rfl (Nat.le_of_ble_eq_true rfl) (c := 10) (zb_86 I201) (zs_86 I201) ⟨by decide, rfl⟩ (by omega) (c_Walk_clear_86 (d - 1) (by omega) U I201 (ov_kws (ov_kwu hw) (by decide +kernel))) ?_
          rintro _ z246 h247 ⟨rfl, I248, f245⟩
          show ov_R u d ov_m23 41 [(0, ov_r 0), (1, ov_i v189), (2, ov_r 58)] [] z246 h247 (P_OF_town_0 F z h)
          have f249 : (h247 36 7) = (h191 36 7) ∧ (h247 1 1) = (h191 1 1) ∧ (h247 90 2) = (h191 90 2) ∧ (h247 0 10) = 70 ∧ (h247 0 11) = 58 ∧ (h247 0 12) = (h191 0 12) ∧ (h247 0 13) = (h191 0 13) ∧ (h247 3 1) = (h191 3 1) ∧ (h247 36 8) = (h191 36 8) ∧ (h247 46 3) = (h191 46 3) ∧ (h247 46 4) = (h191 46 4) ∧ (h247 49 4) = (h191 49 4) ∧ (h247 49 5) = (h191 49 5) ∧ (h247 64 0) = (h191 64 0) ∧ (h247 76 0) = (h191 76 0) := f245
          clear f245
          have e250 : h247 0 10 = 70 := by omega
          have e251 : h247 0 11 = 58 := by omega
          have e252 : h247 0 12 = 86 := by omega
          refine ov_blk (ls2 := [(0, ov_r 0), (1, ov_i v189), (2, ov_r 58)]) (st2 := [ov_r 0]) (pc2 := 42) b_23_41_1 rfl rfl ?_
          refine ov_getf (v := ov_r 4) d_23_42 fl_OF_28 (zb_0 I248) (zs_0 I248) (congrArg ov_r (rg_0_2 I248)) ?_
          refine ov_cV (as := []) (st := []) (d2 := d - 1) d_23_45 lk_OF_114 rfl (Nat.le_of_ble_eq_true rfl) (c := 7) (zb_4 I248) (zs_4 I248) ⟨by decide, rfl⟩ (by omega) (c_State_clear_4 (d - 1) (by omega) U I248 (ov_kws (ov_kwu hw) (by decide +kernel))) ?_
          rintro _ z254 h255 ⟨rfl, I256, f253⟩
          show ov_R u d ov_m23 48 [(0, ov_r 0), (1, ov_i v189), (2, ov_r 58)] [] z254 h255 (P_OF_town_0 F z h)
          have f257 : (h255 36 7) = (h247 36 7) ∧ (h255 1 1) = (h247 1 1) ∧ (h255 90 2) = (h247 90 2) ∧ (h255 0 10) = (h247 0 10) ∧ (h255 0 11) = (h247 0 11) ∧ (h255 0 12) = (h247 0 12) ∧ (h255 0 13) = (h247 0 13) ∧ (h255 3 1) = (h247 3 1) ∧ (h255 36 8) = (h247 36 8) ∧ (h255 46 3) = (h247 46 3) ∧ (h255 46 4) = (h247 46 4) ∧ (h255 49 4) = (h247 49 4) ∧ (h255 49 5) = (h247 49 5) ∧ (h255 64 0) = (h247 64 0) ∧ (h255 76 0) = (h247 76 0) := f253
          clear f253
          have e258 : h255 0 10 = 70 := by omega
          have e259 : h255 0 11 = 58 := by omega
          have e260 : h255 0 12 = 86 := by omega
          refine ov_blk (ls2 := [(0, ov_r 0), (1, ov_i v189), (2, ov_r 58)]) (st2 := [ov_r 0]) (pc2 := 49) b_23_48_1 rfl rfl ?_
          refine ov_getf (v := ov_r 9) d_23_49 fl_OF_35 (zb_0 I256) (zs_0 I256) (congrArg ov_r (rg_0_3 I256)) ?_
          refine ov_cV (as := []) (st := []) (d2 := d - 1) d_23_52 lk_OF_115 rfl (Nat.le_of_ble_eq_true rfl) (c := 3) (zb_9 I256) (zs_9 I256) ⟨by decide, rfl⟩ (by omega) (c_History_clear_9 (d - 1) (by omega) U I256 (ov_kws (ov_kwu hw) (by decide +kernel))) ?_
          rintro _ z262 h263 ⟨rfl, I264, f261⟩
          show ov_R u d ov_m23 55 [(0, ov_r 0), (1, ov_i v189), (2, ov_r 58)] [] z262 h263 (P_OF_town_0 F z h)
          have f265 : (h263 36 7) = (h255 36 7) ∧ (h263 1 1) = (h255 1 1) ∧ (h263 90 2) = (h255 90 2) ∧ (h263 0 10) = (h255 0 10) ∧ (h263 0 11) = (h255 0 11) ∧ (h263 0 12) = (h255 0 12) ∧ (h263 0 13) = (h255 0 13) ∧ (h263 3 1) = (h255 3 1) ∧ (h263 36 8) = (h255 36 8) ∧ (h263 46 3) = (h255 46 3) ∧ (h263 46 4) = (h255 46 4) ∧ (h263 49 4) = (h255 49 4) ∧ (h263 49 5) = (h255 49 5) ∧ (h263 64 0) = (h255 64 0) ∧ (h263 76 0) = (h255 76 0) := f261
          clear f261
          have e266 : h263 0 10 = 70 := by omega
          have e267 : h263 0 11 = 58 := by omega
          have e268 : h263 0 12 = 86 := by omega
          refine ov_blk (ls2 := [(0, ov_r 0), (1, ov_i v189), (2, ov_r 58)]) (st2 := [ov_r 0]) (pc2 := 56) b_23_55_1 rfl rfl ?_
          refine ov_cV (as := []) (st := []) (d2 := d - 1) d_23_56 lk_OF_116 rfl (Nat.le_of_ble_eq_true rfl) (c := 0) (zb_0 I264) (zs_0 I264) ⟨by decide, rfl⟩ (by omega) (c_OF_forgetMarks_0 (d - 1) (by omega) U I264 (ov_kws (ov_kwu hw) (by decide +kernel))) ?_
          rintro _ z270 h271 ⟨rfl, I272, f269⟩
          show ov_R u d ov_m23 59 [(0, ov_r 0), (1, ov_i v189), (2, ov_r 58)] [] z270 h271 (P_OF_town_0 F z h)
          have f273 : (h271 36 7) = (h263 36 7) ∧ (h271 1 1) = (h263 1 1) ∧ (h271 90 2) = (h263 90 2) ∧ (h271 0 10) = (h263 0 10) ∧ (h271 0 11) = (h263 0 11) ∧ (h271 0 12) = (h263 0 12) ∧ (h271 0 13) = (h263 0 13) ∧ (h271 3 1) = (h263 3 1) ∧ (h271 36 8) = (h263 36 8) ∧ (h271 46 3) = (h263 46 3) ∧ (h271 46 4) = (h263 46 4) ∧ (h271 49 4) = (h263 49 4) ∧ (h271 49 5) = (h263 49 5) ∧ (h271 64 0) = (h263 64 0) ∧ (h271 76 0) = (h263 76 0) := f269
          clear f269
          have e274 : h271 0 10 = 70 := by omega
          have e275 : h271 0 11 = 58 := by omega
          have e276 : h271 0 12 = 86 := by omega
          refine ov_blk (ls2 := [(0, ov_r 0), (1, ov_i v189), (2, ov_r 58)]) (st2 := [ov_r 0]) (pc2 := 60) b_23_59_1 rfl rfl ?_
          refine ov_cV (as := []) (st := []) (d2 := d - 1) d_23_60 lk_OF_119 rfl (Nat.le_of_ble_eq_true rfl) (c := 0) (zb_0 I272) (zs_0 I272) ⟨by decide, rfl⟩ (by omega) (c_OF_forgetReckonings_0 (d - 1) (by omega) U I272) ?_
          rintro _ z278 h279 ⟨rfl, I280, f277⟩
          show ov_R u d ov_m23 63 [(0, ov_r 0), (1, ov_i v189), (2, ov_r 58)] [] z278 h279 (P_OF_town_0 F z h)
          have f281 : (h279 36 7) = 0 ∧ (h279 1 1) = (h271 1 1) ∧ (h279 90 2) = (h271 90 2) ∧ (h279 0 10) = (h271 0 10) ∧ (h279 0 11) = (h271 0 11) ∧ (h279 0 12) = (h271 0 12) ∧ (h279 0 13) = (h271 0 13) ∧ (h279 3 1) = (h271 3 1) ∧ (h279 36 8) = (h271 36 8) ∧ (h279 46 3) = (h271 46 3) ∧ (h279 46 4) = (h271 46 4) ∧ (h279 49 4) = (h271 49 4) ∧ (h279 49 5) = (h271 49 5) ∧ (h279 64 0) = (h271 64 0) ∧ (h279 76 0) = (h271 76 0) := f277
          clear f277
          have e282 : h279 0 10 = 70 := by omega
          have e283 : h279 0 11 = 58 := by omega
          have e284 : h279 0 12 = 86 := by omega
          refine ov_blk (ls2 := [(0, ov_r 0), (1, ov_i v189), (2, ov_r 58)]) (st2 := [ov_i v189]) (pc2 := 64) b_23_63_1 rfl rfl ?_
          have gf285 : 1 ≤ (h279 70 0) ∧ 1 ≤ (h279 70 1) := ov_I_fg (h := h279) (T := 70) (by omega) I280
          have gk : F (-5) 58 = 1 := by omega
          have gf286 : 1 ≤ (h279 58 0) ∧ 1 ≤ (h279 58 1) := ov_I_fk (h := h279) (S := 58) (by omega) I280 gk
          exact ov_reti (st := []) d_23_64 rfl ⟨_, rfl, (ov_I_fd I280), (by show (h279 1 1) = 0 ∧ ((h279 36 7) = 1 → (h279 36 8) = (h279 0 10)) ∧ ((h279 0 10) = 58 ∧ (h279 0 11) = 70 ∧ 0 ≤ (h279 64 0) ∧ 1 ≤ (h279 58 0) ∧ 1 ≤ (h279 58 1) ∨ (h279 0 10) = 70 ∧ (h279 0 11) = 58 ∧ 0 ≤ (h279 76 0) ∧ 1 ≤ (h279 70 0) ∧ 1 ≤ (h279 70 1)) ∧ (h279 90 2) = (h 90 2) ∧ (h279 0 12) = (h 0 12) ∧ (h279 0 13) = (h 0 13) ∧ (h279 46 3) = (h 46 3) ∧ (h279 46 4) = (h 46 4) ∧ (h279 49 4) = (h 49 4) ∧ (h279 49 5) = (h 49 5); omega)⟩
      · skip
        refine ov_getf (v := ov_r 70) d_23_17 fl_OF_78 (zb_0 I195) (zs_0 I195) (congrArg ov_r e199) ?_
        refine ov_blk (ls2 := [(0, ov_r 0), (1, ov_i v189), (2, ov_r 70)]) (st2 := [ov_r 0, ov_r 0]) (pc2 := 23) b_23_20_3 rfl rfl ?_
        refine ov_getf (v := ov_r 70) d_23_23 fl_OF_82 (zb_0 I195) (zs_0 I195) (congrArg ov_r e194) ?_
        refine ov_putf (x := 70) d_23_26 fl_OF_78 (zb_0 I195) (zs_0 I195) rfl nk_2 rfl ?_
        have I287 := up_0_10 (x := 70) I195 (by omega) ((ov_kwu hw) 0 (by decide +kernel))
        refine ov_blk (ls2 := [(0, ov_r 0), (1, ov_i v189), (2, ov_r 70)]) (st2 := [ov_r 70, ov_r 0]) (pc2 := 31) b_23_29_2 rfl rfl ?_
        refine ov_putf (x := 70) d_23_31 fl_OF_82 (zb_0 I287) (zs_0 I287) rfl nk_2 rfl ?_
        have I288 := up_0_11 (x := 70) I287 (by omega) ((ov_kwu hw) 0 (by decide +kernel))
        refine ov_blk (ls2 := [(0, ov_r 0), (1, ov_i v189), (2, ov_r 70)]) (st2 := [ov_r 0]) (pc2 := 35) b_23_34_1 rfl rfl ?_
        rcases rg_0_12 I195 with e289 | e289
        · skip
          refine ov_getf (v := ov_r 82) d_23_35 fl_OF_88 (zb_0 I288) (zs_0 I288) (congrArg ov_r e289) ?_
          refine ov_cV (as := []) (st := []) (d2 := d - 1) d_23_38 lk_OF_113 rfl (Nat.le_of_ble_eq_true rfl) (c := 10) (zb_82 I288) (zs_82 I288) ⟨by decide, rfl⟩ (by omega) (c_Walk_clear_82 (d - 1) (by omega) U I288 (ov_kws (ov_kwu hw) (by decide +kernel))) ?_
          rintro _ z291 h292 ⟨rfl, I293, f290⟩
          show ov_R u d ov_m23 41 [(0, ov_r 0), (1, ov_i v189), (2, ov_r 70)] [] z291 h292 (P_OF_town_0 F z h)
          have f294 : (h292 36 7) = (h191 36 7) ∧ (h292 1 1) = (h191 1 1) ∧ (h292 90 2) = (h191 90 2) ∧ (h292 0 10) = 70 ∧ (h292 0 11) = 70 ∧ (h292 0 12) = (h191 0 12) ∧ (h292 0 13) = (h191 0 13) ∧ (h292 3 1) = (h191 3 1) ∧ (h292 36 8) = (h191 36 8) ∧ (h292 46 3) = (h191 46 3) ∧ (h292 46 4) = (h191 46 4) ∧ (h292 49 4) = (h191 49 4) ∧ (h292 49 5) = (h191 49 5) ∧ (h292 64 0) = (h191 64 0) ∧ (h292 76 0) = (h191 76 0) := f290
          clear f290
          have e295 : h292 0 10 = 70 := by omega
          have e296 : h292 0 11 = 70 := by omega
          have e297 : h292 0 12 = 82 := by omega
          refine ov_blk (ls2 := [(0, ov_r 0), (1, ov_i v189), (2, ov_r 70)]) (st2 := [ov_r 0]) (pc2 := 42) b_23_41_1 rfl rfl ?_
          refine ov_getf (v := ov_r 4) d_23_42 fl_OF_28 (zb_0 I293) (zs_0 I293) (congrArg ov_r (rg_0_2 I293)) ?_
          refine ov_cV (as := []) (st := []) (d2 := d - 1) d_23_45 lk_OF_114 rfl (Nat.le_of_ble_eq_true rfl) (c := 7) (zb_4 I293) (zs_4 I293) ⟨by decide, rfl⟩ (by omega) (c_State_clear_4 (d - 1) (by omega) U I293 (ov_kws (ov_kwu hw) (by decide +kernel))) ?_
          rintro _ z299 h300 ⟨rfl, I301, f298⟩
          show ov_R u d ov_m23 48 [(0, ov_r 0), (1, ov_i v189), (2, ov_r 70)] [] z299 h300 (P_OF_town_0 F z h)
          have f302 : (h300 36 7) = (h292 36 7) ∧ (h300 1 1) = (h292 1 1) ∧ (h300 90 2) = (h292 90 2) ∧ (h300 0 10) = (h292 0 10) ∧ (h300 0 11) = (h292 0 11) ∧ (h300 0 12) = (h292 0 12) ∧ (h300 0 13) = (h292 0 13) ∧ (h300 3 1) = (h292 3 1) ∧ (h300 36 8) = (h292 36 8) ∧ (h300 46 3) = (h292 46 3) ∧ (h300 46 4) = (h292 46 4) ∧ (h300 49 4) = (h292 49 4) ∧ (h300 49 5) = (h292 49 5) ∧ (h300 64 0) = (h292 64 0) ∧ (h300 76 0) = (h292 76 0) := f298
          clear f298
          have e303 : h300 0 10 = 70 := by omega
          have e304 : h300 0 11 = 70 := by omega
          have e305 : h300 0 12 = 82 := by omega
          refine ov_blk (ls2 := [(0, ov_r 0), (1, ov_i v189), (2, ov_r 70)]) (st2 := [ov_r 0]) (pc2 := 49) b_23_48_1 rfl rfl ?_
          refine ov_getf (v := ov_r 9) d_23_49 fl_OF_35 (zb_0 I301) (zs_0 I301) (congrArg ov_r (rg_0_3 I301)) ?_
          refine ov_cV (as := []) (st := []) (d2 := d - 1) d_23_52 lk_OF_115 rfl (Nat.le_of_ble_eq_true rfl) (c := 3) (zb_9 I301) (zs_9 I301) ⟨by decide, rfl⟩ (by omega) (c_History_clear_9 (d - 1) (by omega) U I301 (ov_kws (ov_kwu hw) (by decide +kernel))) ?_
          rintro _ z307 h308 ⟨rfl, I309, f306⟩
          show ov_R u d ov_m23 55 [(0, ov_r 0), (1, ov_i v189), (2, ov_r 70)] [] z307 h308 (P_OF_town_0 F z h)
          have f310 : (h308 36 7) = (h300 36 7) ∧ (h308 1 1) = (h300 1 1) ∧ (h308 90 2) = (h300 90 2) ∧ (h308 0 10) = (h300 0 10) ∧ (h308 0 11) = (h300 0 11) ∧ (h308 0 12) = (h300 0 12) ∧ (h308 0 13) = (h300 0 13) ∧ (h308 3 1) = (h300 3 1) ∧ (h308 36 8) = (h300 36 8) ∧ (h308 46 3) = (h300 46 3) ∧ (h308 46 4) = (h300 46 4) ∧ (h308 49 4) = (h300 49 4) ∧ (h308 49 5) = (h300 49 5) ∧ (h308 64 0) = (h300 64 0) ∧ (h308 76 0) = (h300 76 0) := f306
          clear f306
          have e311 : h308 0 10 = 70 := by omega
          have e312 : h308 0 11 = 70 := by omega
          have e313 : h308 0 12 = 82 := by omega
          refine ov_blk (ls2 := [(0, ov_r 0), (1, ov_i v189), (2, ov_r 70)]) (st2 := [ov_r 0]) (pc2 := 56) b_23_55_1 rfl rfl ?_
          refine ov_cV (as := []) (st := []) (d2 := d - 1) d_23_56 lk_OF_116 rfl (Nat.le_of_ble_eq_true rfl) (c := 0) (zb_0 I309) (zs_0 I309) ⟨by decide, rfl⟩ (by omega) (c_OF_forgetMarks_0 (d - 1) (by omega) U I309 (ov_kws (ov_kwu hw) (by decide +kernel))) ?_
          rintro _ z315 h316 ⟨rfl, I317, f314⟩
          show ov_R u d ov_m23 59 [(0, ov_r 0), (1, ov_i v189), (2, ov_r 70)] [] z315 h316 (P_OF_town_0 F z h)
          have f318 : (h316 36 7) = (h308 36 7) ∧ (h316 1 1) = (h308 1 1) ∧ (h316 90 2) = (h308 90 2) ∧ (h316 0 10) = (h308 0 10) ∧ (h316 0 11) = (h308 0 11) ∧ (h316 0 12) = (h308 0 12) ∧ (h316 0 13) = (h308 0 13) ∧ (h316 3 1) = (h308 3 1) ∧ (h316 36 8) = (h308 36 8) ∧ (h316 46 3) = (h308 46 3) ∧ (h316 46 4) = (h308 46 4) ∧ (h316 49 4) = (h308 49 4) ∧ (h316 49 5) = (h308 49 5) ∧ (h316 64 0) = (h308 64 0) ∧ (h316 76 0) = (h308 76 0) := f314
          clear f314
          have e319 : h316 0 10 = 70 := by omega
          have e320 : h316 0 11 = 70 := by omega
          have e321 : h316 0 12 = 82 := by omega
          refine ov_blk (ls2 := [(0, ov_r 0), (1, ov_i v189), (2, ov_r 70)]) (st2 := [ov_r 0]) (pc2 := 60) b_23_59_1 rfl rfl ?_
          refine ov_cV (as := []) (st := []) (d2 := d - 1) d_23_60 lk_OF_119 rfl (Nat.le_of_ble_eq_true rfl) (c := 0) (zb_0 I317) (zs_0 I317) ⟨by decide, rfl⟩ (by omega) (c_OF_forgetReckonings_0 (d - 1) (by omega) U I317) ?_
          rintro _ z323 h324 ⟨rfl, I325, f322⟩
          show ov_R u d ov_m23 63 [(0, ov_r 0), (1, ov_i v189), (2, ov_r 70)] [] z323 h324 (P_OF_town_0 F z h)
          have f326 : (h324 36 7) = 0 ∧ (h324 1 1) = (h316 1 1) ∧ (h324 90 2) = (h316 90 2) ∧ (h324 0 10) = (h316 0 10) ∧ (h324 0 11) = (h316 0 11) ∧ (h324 0 12) = (h316 0 12) ∧ (h324 0 13) = (h316 0 13) ∧ (h324 3 1) = (h316 3 1) ∧ (h324 36 8) = (h316 36 8) ∧ (h324 46 3) = (h316 46 3) ∧ (h324 46 4) = (h316 46 4) ∧ (h324 49 4) = (h316 49 4) ∧ (h324 49 5) = (h316 49 5) ∧ (h324 64 0) = (h316 64 0) ∧ (h324 76 0) = (h316 76 0) := f322
          clear f322
          have e327 : h324 0 10 = 70 := by omega
          have e328 : h324 0 11 = 70 := by omega
          have e329 : h324 0 12 = 82 := by omega
          refine ov_blk (ls2 := [(0, ov_r 0), (1, ov_i v189), (2, ov_r 70)]) (st2 := [ov_i v189]) (pc2 := 64) b_23_63_1 rfl rfl ?_
          have gf330 : 1 ≤ (h324 70 0) ∧ 1 ≤ (h324 70 1) := ov_I_fg (h := h324) (T := 70) (by omega) I325
          have gk : F (-5) 58 = 1 := by omega
          have gf331 : 1 ≤ (h324 58 0) ∧ 1 ≤ (h324 58 1) := ov_I_fk (h := h324) (S := 58) (by omega) I325 gk
          exact ov_reti (st := []) d_23_64 rfl ⟨_, rfl, (ov_I_fd I325), (by show (h324 1 1) = 0 ∧ ((h324 36 7) = 1 → (h324 36 8) = (h324 0 10)) ∧ ((h324 0 10) = 58 ∧ (h324 0 11) = 70 ∧ 0 ≤ (h324 64 0) ∧ 1 ≤ (h324 58 0) ∧ 1 ≤ (h324 58 1) ∨ (h324 0 10) = 70 ∧ (h324 0 11) = 58 ∧ 0 ≤ (h324 76 0) ∧ 1 ≤ (h324 70 0) ∧ 1 ≤ (h324 70 1)) ∧ (h324 90 2) = (h 90 2) ∧ (h324 0 12) = (h 0 12) ∧ (h324 0 13) = (h 0 13) ∧ (h324 46 3) = (h 46 3) ∧ (h324 46 4) = (h 46 4) ∧ (h324 49 4) = (h 49 4) ∧ (h324 49 5) = (h 49 5); omega)⟩
        · skip
          refine ov_getf (v := ov_r 86) d_23_35 fl_OF_88 (zb_0 I288) (zs_0 I288) (congrArg ov_r e289) ?_
          refine ov_cV (as := []) (st := []) (d2 := d - 1) d_23_38 lk_OF_113 rfl (Nat.le_of_ble_eq_true rfl) (c := 10) (zb_86 I288) (zs_86 I288) ⟨by decide, rfl⟩ (by omega) (c_Walk_clear_86 (d - 1) (by omega) U I288 (ov_kws (ov_kwu hw) (by decide +kernel))) ?_
          rintro _ z333 h334 ⟨rfl, I335, f332⟩
          show ov_R u d ov_m23 41 [(0, ov_r 0), (1, ov_i v189), (2, ov_r 70)] [] z333 h334 (P_OF_town_0 F z h)
          have f336 : (h334 36 7) = (h191 36 7) ∧ (h334 1 1) = (h191 1 1) ∧ (h334 90 2) = (h191 90 2) ∧ (h334 0 10) = 70 ∧ (h334 0 11) = 70 ∧ (h334 0 12) = (h191 0 12) ∧ (h334 0 13) = (h191 0 13) ∧ (h334 3 1) = (h191 3 1) ∧ (h334 36 8) = (h191 36 8) ∧ (h334 46 3) = (h191 46 3) ∧ (h334 46 4) = (h191 46 4) ∧ (h334 49 4) = (h191 49 4) ∧ (h334 49 5) = (h191 49 5) ∧ (h334 64 0) = (h191 64 0) ∧ (h334 76 0) = (h191 76 0) := f332
          clear f332
          have e337 : h334 0 10 = 70 := by omega
          have e338 : h334 0 11 = 70 := by omega
          have e339 : h334 0 12 = 86 := by omega
          refine ov_blk (ls2 := [(0, ov_r 0), (1, ov_i v189), (2, ov_r 70)]) (st2 := [ov_r 0]) (pc2 := 42) b_23_41_1 rfl rfl ?_
          refine ov_getf (v := ov_r 4) d_23_42 fl_OF_28 (zb_0 I335) (zs_0 I335) (congrArg ov_r (rg_0_2 I335)) ?_
          refine ov_cV (as := []) (st := []) (d2 := d - 1) d_23_45 lk_OF_114 rfl (Nat.le_of_ble_eq_true rfl) (c := 7) (zb_4 I335) (zs_4 I335) ⟨by decide, rfl⟩ (by omega) (c_State_clear_4 (d - 1) (by omega) U I335 (ov_kws (ov_kwu hw) (by decide +kernel))) ?_
          rintro _ z341 h342 ⟨rfl, I343, f340⟩
          show ov_R u d ov_m23 48 [(0, ov_r 0), (1, ov_i v189), (2, ov_r 70)] [] z341 h342 (P_OF_town_0 F z h)
          have f344 : (h342 36 7) = (h334 36 7) ∧ (h342 1 1) = (h334 1 1) ∧ (h342 90 2) = (h334 90 2) ∧ (h342 0 10) = (h334 0 10) ∧ (h342 0 11) = (h334 0 11) ∧ (h342 0 12) = (h334 0 12) ∧ (h342 0 13) = (h334 0 13) ∧ (h342 3 1) = (h334 3 1) ∧ (h342 36 8) = (h334 36 8) ∧ (h342 46 3) = (h334 46 3) ∧ (h342 46 4) = (h334 46 4) ∧ (h342 49 4) = (h334 49 4) ∧ (h342 49 5) = (h334 49 5) ∧ (h342 64 0) = (h334 64 0) ∧ (h342 76 0) = (h334 76 0) := f340
          clear f340
          have e345 : h342 0 10 = 70 := by omega
          have e346 : h342 0 11 = 70 := by omega
          have e347 : h342 0 12 = 86 := by omega
          refine ov_blk (ls2 := [(0, ov_r 0), (1, ov_i v189), (2, ov_r 70)]) (st2 := [ov_r 0]) (pc2 := 49) b_23_48_1 rfl rfl ?_
          refine ov_getf (v := ov_r 9) d_23_49 fl_OF_35 (zb_0 I343) (zs_0 I343) (congrArg ov_r (rg_0_3 I343)) ?_
          refine ov_cV (as := []) (st := []) (d2 := d - 1) d_23_52 lk_OF_115 rfl (Nat.le_of_ble_eq_true rfl) (c := 3) (zb_9 I343) (zs_9 I343) ⟨by decide, rfl⟩ (by omega) (c_History_clear_9 (d - 1) (by omega) U I343 (ov_kws (ov_kwu hw) (by decide +kernel))) ?_
          rintro _ z349 h350 ⟨rfl, I351, f348⟩
          show ov_R u d ov_m23 55 [(0, ov_r 0), (1, ov_i v189), (2, ov_r 70)] [] z349 h350 (P_OF_town_0 F z h)
          have f352 : (h350 36 7) = (h342 36 7) ∧ (h350 1 1) = (h342 1 1) ∧ (h350 90 2) = (h342 90 2) ∧ (h350 0 10) = (h342 0 10) ∧ (h350 0 11) = (h342 0 11) ∧ (h350 0 12) = (h342 0 12) ∧ (h350 0 13) = (h342 0 13) ∧ (h350 3 1) = (h342 3 1) ∧ (h350 36 8) = (h342 36 8) ∧ (h350 46 3) = (h342 46 3) ∧ (h350 46 4) = (h342 46 4) ∧ (h350 49 4) = (h342 49 4) ∧ (h350 49 5) = (h342 49 5) ∧ (h350 64 0) = (h342 64 0) ∧ (h350 76 0) = (h342 76 0) := f348
          clear f348
          have e353 : h350 0 10 = 70 := by omega
          have e354 : h350 0 11 = 70 := by omega
          have e355 : h350 0 12 = 86 := by omega
          refine ov_blk (ls2 := [(0, ov_r 0), (1, ov_i v189), (2, ov_r 70)]) (st2 := [ov_r 0]) (pc2 := 56) b_23_55_1 rfl rfl ?_
          refine ov_cV (as := []) (st := []) (d2 := d - 1) d_23_56 lk_OF_116 rfl (Nat.le_of_ble_eq_true rfl) (c := 0) (zb_0 I351) (zs_0 I351) ⟨by decide, rfl⟩ (by omega) (c_OF_forgetMarks_0 (d - 1) (by omega) U I351 (ov_kws (ov_kwu hw) (by decide +kernel))) ?_
          rintro _ z357 h358 ⟨rfl, I359, f356⟩
          show ov_R u d ov_m23 59 [(0, ov_r 0), (1, ov_i v189), (2, ov_r 70)] [] z357 h358 (P_OF_town_0 F z h)
          have f360 : (h358 36 7) = (h350 36 7) ∧ (h358 1 1) = (h350 1 1) ∧ (h358 90 2) = (h350 90 2) ∧ (h358 0 10) = (h350 0 10) ∧ (h358 0 11) = (h350 0 11) ∧ (h358 0 12) = (h350 0 12) ∧ (h358 0 13) = (h350 0 13) ∧ (h358 3 1) = (h350 3 1) ∧ (h358 36 8) = (h350 36 8) ∧ (h358 46 3) = (h350 46 3) ∧ (h358 46 4) = (h350 46 4) ∧ (h358 49 4) = (h350 49 4) ∧ (h358 49 5) = (h350 49 5) ∧ (h358 64 0) = (h350 64 0) ∧ (h358 76 0) = (h350 76 0) := f356
          clear f356
          have e361 : h358 0 10 = 70 := by omega
          have e362 : h358 0 11 = 70 := by omega
          have e363 : h358 0 12 = 86 := by omega
          refine ov_blk (ls2 := [(0, ov_r 0), (1, ov_i v189), (2, ov_r 70)]) (st2 := [ov_r 0]) (pc2 := 60) b_23_59_1 rfl rfl ?_
          refine ov_cV (as := []) (st := []) (d2 := d - 1) d_23_60 lk_OF_119 rfl (Nat.le_of_ble_eq_true rfl) (c := 0) (zb_0 I359) (zs_0 I359) ⟨by decide, rfl⟩ (by omega) (c_OF_forgetReckonings_0 (d - 1) (by omega) U I359) ?_
          rintro _ z365 h366 ⟨rfl, I367, f364⟩
          show ov_R u d ov_m23 63 [(0, ov_r 0), (1, ov_i v189), (2, ov_r 70)] [] z365 h366 (P_OF_town_0 F z h)
          have f368 : (h366 36 7) = 0 ∧ (h366 1 1) = (h358 1 1) ∧ (h366 90 2) = (h358 90 2) ∧ (h366 0 10) = (h358 0 10) ∧ (h366 0 11) = (h358 0 11) ∧ (h366 0 12) = (h358 0 12) ∧ (h366 0 13) = (h358 0 13) ∧ (h366 3 1) = (h358 3 1) ∧ (h366 36 8) = (h358 36 8) ∧ (h366 46 3) = (h358 46 3) ∧ (h366 46 4) = (h358 46 4) ∧ (h366 49 4) = (h358 49 4) ∧ (h366 49 5) = (h358 49 5) ∧ (h366 64 0) = (h358 64 0) ∧ (h366 76 0) = (h358 76 0) := f364
          clear f364
          have e369 : h366 0 10 = 70 := by omega
          have e370 : h366 0 11 = 70 := by omega
          have e371 : h366 0 12 = 86 := by omega
          refine ov_blk (ls2 := [(0, ov_r 0), (1, ov_i v189), (2, ov_r 70)]) (st2 := [ov_i v189]) (pc2 := 64) b_23_63_1 rfl rfl ?_
          have gf372 : 1 ≤ (h366 70 0) ∧ 1 ≤ (h366 70 1) := ov_I_fg (h := h366) (T := 70) (by omega) I367
          have gk : F (-5) 58 = 1 := by omega
          have gf373 : 1 ≤ (h366 58 0) ∧ 1 ≤ (h366 58 1) := ov_I_fk (h := h366) (S := 58) (by omega) I367 gk
          exact ov_reti (st := []) d_23_64 rfl ⟨_, rfl, (ov_I_fd I367), (by show (h366 1 1) = 0 ∧ ((h366 36 7) = 1 → (h366 36 8) = (h366 0 10)) ∧ ((h366 0 10) = 58 ∧ (h366 0 11) = 70 ∧ 0 ≤ (h366 64 0) ∧ 1 ≤ (h366 58 0) ∧ 1 ≤ (h366 58 1) ∨ (h366 0 10) = 70 ∧ (h366 0 11) = 58 ∧ 0 ≤ (h366 76 0) ∧ 1 ≤ (h366 70 0) ∧ 1 ≤ (h366 70 1)) ∧ (h366 90 2) = (h 90 2) ∧ (h366 0 12) = (h 0 12) ∧ (h366 0 13) = (h 0 13) ∧ (h366 46 3) = (h 46 3) ∧ (h366 46 4) = (h 46 4) ∧ (h366 49 4) = (h 49 4) ∧ (h366 49 5) = (h 49 5); omega)⟩
abbrev P_OF_walk_0 (F : ov_H) (z : ov_Z) (h : ov_H)  : Option ov_V → ov_Z → ov_H → Prop := fun r0 z' h' => ∃ r : Int, r0 = some (ov_i r) ∧ ov_I F z' h' ∧ ((h' 1 1) = 0 ∧ (h' 36 7) = (h 36 7) ∧ (h' 90 2) = (h 90 2) ∧ (h' 0 10) = (h 0 10) ∧ (h' 0 11) = (h 0 11) ∧ (h' 36 8) = (h 36 8) ∧ (h' 46 3) = (h 46 3) ∧ (h' 46 4) = (h 46 4) ∧ (h' 49 4) = (h 49 4) ∧ (h' 49 5) = (h 49 5) ∧ (h' 64 0) = (h 64 0) ∧ (h' 76 0) = (h 76 0))
set_option maxHeartbeats 4000000 in
theorem c_OF_walk_0 {u : ov_U} {F : ov_H} {z : ov_Z} {h : ov_H} (d : Nat) (hd : 50 ≤ d) (U : ov_cap u) (I : ov_I F z h) (hw : ov_kw 1233104336006921758200299531 F) : ov_T u d ov_m88 [ov_r 0] z h (P_OF_walk_0 F z h) := by
  refine ov_en rfl (Nat.le_of_ble_eq_true rfl) ?_
  show ov_R u d ov_m88 0 [(0, ov_r 0)] [] z h (P_OF_walk_0 F z h)
  refine ov_blk (ls2 := [(0, ov_r 0)]) (st2 := [ov_r 0]) (pc2 := 1) b_88_0_1 rfl rfl ?_
  refine ov_getf (v := ov_r 3) d_88_1 fl_OF_21 (zb_0 I) (zs_0 I) (congrArg ov_r (rg_0_1 I)) ?_
  refine ov_blk (ls2 := [(0, ov_r 0)]) (st2 := [ov_r 0, ov_r 3]) (pc2 := 5) b_88_4_1 rfl rfl ?_
  rcases rg_0_10 I with e1 | e1
  · skip
    refine ov_getf (v := ov_r 58) d_88_5 fl_OF_78 (zb_0 I) (zs_0 I) (congrArg ov_r e1) ?_
    refine ov_blk (ls2 := [(0, ov_r 0)]) (st2 := [ov_r 0, ov_r 58, ov_r 3]) (pc2 := 9) b_88_8_1 rfl rfl ?_
    rcases rg_0_13 I with e2 | e2
    · skip
      refine ov_getf (v := ov_r 82) d_88_9 fl_OF_92 (zb_0 I) (zs_0 I) (congrArg ov_r e2) ?_
      refine ov_cV (as := [ov_r 58, ov_r 82]) (st := []) (d2 := d - 1) d_88_12 lk_OF_122 rfl (Nat.le_of_ble_eq_true rfl) (c := 6) (zb_3 I) (zs_3 I) ⟨by decide, rfl⟩ (by omega) (c_Reader_readWalk_3_58_82 (d - 1) (by omega) U I (ov_kws hw (by decide +kernel))) ?_
      rintro _ z5 h6 ⟨v4, rfl, I7, f3⟩
      show ov_R u d ov_m88 15 [(0, ov_r 0)] [ov_i v4] z5 h6 (P_OF_walk_0 F z h)
      have f8 : (h6 1 1) = 0 ∧ (h6 36 7) = (h 36 7) ∧ (h6 90 2) = (h 90 2) ∧ (h6 0 10) = (h 0 10) ∧ (h6 0 11) = (h 0 11) ∧ (h6 0 12) = (h 0 12) ∧ (h6 0 13) = (h 0 13) ∧ (h6 36 8) = (h 36 8) ∧ (h6 46 3) = (h 46 3) ∧ (h6 46 4) = (h 46 4) ∧ (h6 49 4) = (h 49 4) ∧ (h6 49 5) = (h 49 5) ∧ (h6 64 0) = (h 64 0) ∧ (h6 76 0) = (h 76 0) := f3
      clear f3
      have e9 : h6 0 10 = 58 := by omega
      have e10 : h6 0 13 = 82 := by omega
      refine ov_havw (fun w11 gw11 qw11 => ?_)
      refine ov_blk (ls2 := [(0, ov_r 0), (1, ov_i w11)]) (st2 := [ov_i w11]) (pc2 := 17) b_88_15_2 rfl rfl ?_
      refine ov_ifne (tgt := 45) d_88_17 (by decide) (by omega) (fun c12 => ?_) (fun c12 => ?_)
      · skip
        refine ov_blk (ls2 := [(0, ov_r 0), (1, ov_i w11)]) (st2 := [ov_i w11]) (pc2 := 46) b_88_45_1 rfl rfl ?_
        exact ov_reti (st := []) d_88_46 rfl ⟨_, rfl, I7, (by show (h6 1 1) = 0 ∧ (h6 36 7) = (h 36 7) ∧ (h6 90 2) = (h 90 2) ∧ (h6 0 10) = (h 0 10) ∧ (h6 0 11) = (h 0 11) ∧ (h6 36 8) = (h 36 8) ∧ (h6 46 3) = (h 46 3) ∧ (h6 46 4) = (h 46 4) ∧ (h6 49 4) = (h 49 4) ∧ (h6 49 5) = (h 49 5) ∧ (h6 64 0) = (h 64 0) ∧ (h6 76 0) = (h 76 0); omega)⟩
      · skip
        refine ov_blk (ls2 := [(0, ov_r 0), (1, ov_i w11)]) (st2 := [ov_r 0]) (pc2 := 21) b_88_20_1 rfl rfl ?_
        rcases rg_0_12 I7 with e13 | e13
        · skip
          refine ov_getf (v := ov_r 82) d_88_21 fl_OF_88 (zb_0 I7) (zs_0 I7) (congrArg ov_r e13) ?_
          refine ov_blk (ls2 := [(0, ov_r 0), (1, ov_i w11), (2, ov_r 82)]) (st2 := [ov_r 0, ov_r 0]) (pc2 := 27) b_88_24_3 rfl rfl ?_
          refine ov_getf (v := ov_r 82) d_88_27 fl_OF_92 (zb_0 I7) (zs_0 I7) (congrArg ov_r e10) ?_
          refine ov_putf (x := 82) d_88_30 fl_OF_88 (zb_0 I7) (zs_0 I7) rfl nk_2 rfl ?_
          have I14 := up_0_12 (x := 82) I7 (by omega) (hw 0 (by decide +kernel))
          refine ov_blk (ls2 := [(0, ov_r 0), (1, ov_i w11), (2, ov_r 82)]) (st2 := [ov_r 82, ov_r 0]) (pc2 := 35) b_88_33_2 rfl rfl ?_
          refine ov_putf (x := 82) d_88_35 fl_OF_92 (zb_0 I14) (zs_0 I14) rfl nk_2 rfl ?_
          have I15 := up_0_13 (x := 82) I14 (by omega) (hw 0 (by decide +kernel))
          refine ov_blk (ls2 := [(0, ov_r 0), (1, ov_i w11), (2, ov_r 82)]) (st2 := [ov_r 0]) (pc2 := 39) b_88_38_1 rfl rfl ?_
          refine ov_getf (v := ov_r 49) d_88_39 fl_OF_64 (zb_0 I15) (zs_0 I15) (congrArg ov_r (rg_0_8 I15)) ?_
          refine ov_cV (as := []) (st := []) (d2 := d - 1) d_88_42 lk_OF_126 rfl (Nat.le_of_ble_eq_true rfl) (c := 5) (zb_49 I15) (zs_49 I15) ⟨by decide, rfl⟩ (by omega) (c_Pace_forget_49 (d - 1) (by omega) U I15) ?_
          rintro _ z17 h18 ⟨rfl, I19, f16⟩
          show ov_R u d ov_m88 45 [(0, ov_r 0), (1, ov_i w11), (2, ov_r 82)] [] z17 h18 (P_OF_walk_0 F z h)
          have f20 : (h18 36 7) = (h6 36 7) ∧ (h18 1 1) = (h6 1 1) ∧ (h18 90 2) = (h6 90 2) ∧ (h18 0 10) = (h6 0 10) ∧ (h18 0 11) = (h6 0 11) ∧ (h18 0 12) = 82 ∧ (h18 0 13) = 82 ∧ (h18 3 1) = (h6 3 1) ∧ (h18 36 8) = (h6 36 8) ∧ (h18 46 3) = (h6 46 3) ∧ (h18 46 4) = (h6 46 4) ∧ (h18 49 4) = (h6 49 4) ∧ (h18 49 5) = (h6 49 5) ∧ (h18 64 0) = (h6 64 0) ∧ (h18 76 0) = (h6 76 0) := f16
          clear f16
          have e21 : h18 0 10 = 58 := by omega
          have e22 : h18 0 12 = 82 := by omega
          have e23 : h18 0 13 = 82 := by omega
          refine ov_blk (ls2 := [(0, ov_r 0), (1, ov_i w11), (2, ov_r 82)]) (st2 := [ov_i w11]) (pc2 := 46) b_88_45_1 rfl rfl ?_
          exact ov_reti (st := []) d_88_46 rfl ⟨_, rfl, I19, (by show (h18 1 1) = 0 ∧ (h18 36 7) = (h 36 7) ∧ (h18 90 2) = (h 90 2) ∧ (h18 0 10) = (h 0 10) ∧ (h18 0 11) = (h 0 11) ∧ (h18 36 8) = (h 36 8) ∧ (h18 46 3) = (h 46 3) ∧ (h18 46 4) = (h 46 4) ∧ (h18 49 4) = (h 49 4) ∧ (h18 49 5) = (h 49 5) ∧ (h18 64 0) = (h 64 0) ∧ (h18 76 0) = (h 76 0); omega)⟩
        · skip
          refine ov_getf (v := ov_r 86) d_88_21 fl_OF_88 (zb_0 I7) (zs_0 I7) (congrArg ov_r e13) ?_
          refine ov_blk (ls2 := [(0, ov_r 0), (1, ov_i w11), (2, ov_r 86)]) (st2 := [ov_r 0, ov_r 0]) (pc2 := 27) b_88_24_3 rfl rfl ?_
          refine ov_getf (v := ov_r 82) d_88_27 fl_OF_92 (zb_0 I7) (zs_0 I7) (congrArg ov_r e10) ?_
          refine ov_putf (x := 82) d_88_30 fl_OF_88 (zb_0 I7) (zs_0 I7) rfl nk_2 rfl ?_
          have I24 := up_0_12 (x := 82) I7 (by omega) (hw 0 (by decide +kernel))
          refine ov_blk (ls2 := [(0, ov_r 0), (1, ov_i w11), (2, ov_r 86)]) (st2 := [ov_r 86, ov_r 0]) (pc2 := 35) b_88_33_2 rfl rfl ?_
          refine ov_putf (x := 86) d_88_35 fl_OF_92 (zb_0 I24) (zs_0 I24) rfl nk_2 rfl ?_
          have I25 := up_0_13 (x := 86) I24 (by omega) (hw 0 (by decide +kernel))
          refine ov_blk (ls2 := [(0, ov_r 0), (1, ov_i w11), (2, ov_r 86)]) (st2 := [ov_r 0]) (pc2 := 39) b_88_38_1 rfl rfl ?_
          refine ov_getf (v := ov_r 49) d_88_39 fl_OF_64 (zb_0 I25) (zs_0 I25) (congrArg ov_r (rg_0_8 I25)) ?_
          refine ov_cV (as := []) (st := []) (d2 := d - 1) d_88_42 lk_OF_126 rfl (Nat.le_of_ble_eq_true rfl) (c := 5) (zb_49 I25) (zs_49 I25) ⟨by decide, rfl⟩ (by omega) (c_Pace_forget_49 (d - 1) (by omega) U I25) ?_
          rintro _ z27 h28 ⟨rfl, I29, f26⟩
          show ov_R u d ov_m88 45 [(0, ov_r 0), (1, ov_i w11), (2, ov_r 86)] [] z27 h28 (P_OF_walk_0 F z h)
          have f30 : (h28 36 7) = (h6 36 7) ∧ (h28 1 1) = (h6 1 1) ∧ (h28 90 2) = (h6 90 2) ∧ (h28 0 10) = (h6 0 10) ∧ (h28 0 11) = (h6 0 11) ∧ (h28 0 12) = 82 ∧ (h28 0 13) = 86 ∧ (h28 3 1) = (h6 3 1) ∧ (h28 36 8) = (h6 36 8) ∧ (h28 46 3) = (h6 46 3) ∧ (h28 46 4) = (h6 46 4) ∧ (h28 49 4) = (h6 49 4) ∧ (h28 49 5) = (h6 49 5) ∧ (h28 64 0) = (h6 64 0) ∧ (h28 76 0) = (h6 76 0) := f26
          clear f26
          have e31 : h28 0 10 = 58 := by omega
          have e32 : h28 0 12 = 82 := by omega
          have e33 : h28 0 13 = 86 := by omega
          refine ov_blk (ls2 := [(0, ov_r 0), (1, ov_i w11), (2, ov_r 86)]) (st2 := [ov_i w11]) (pc2 := 46) b_88_45_1 rfl rfl ?_
          exact ov_reti (st := []) d_88_46 rfl ⟨_, rfl, I29, (by show (h28 1 1) = 0 ∧ (h28 36 7) = (h 36 7) ∧ (h28 90 2) = (h 90 2) ∧ (h28 0 10) = (h 0 10) ∧ (h28 0 11) = (h 0 11) ∧ (h28 36 8) = (h 36 8) ∧ (h28 46 3) = (h 46 3) ∧ (h28 46 4) = (h 46 4) ∧ (h28 49 4) = (h 49 4) ∧ (h28 49 5) = (h 49 5) ∧ (h28 64 0) = (h 64 0) ∧ (h28 76 0) = (h 76 0); omega)⟩
    · skip
      refine ov_getf (v := ov_r 86) d_88_9 fl_OF_92 (zb_0 I) (zs_0 I) (congrArg ov_r e2) ?_
      refine ov_cV (as := [ov_r 58, ov_r 86]) (st := []) (d2 := d - 1) d_88_12 lk_OF_122 rfl (Nat.le_of_ble_eq_true rfl) (c := 6) (zb_3 I) (zs_3 I) ⟨by decide, rfl⟩ (by omega) (c_Reader_readWalk_3_58_86 (d - 1) (by omega) U I (ov_kws hw (by decide +kernel))) ?_
      rintro _ z36 h37 ⟨v35, rfl, I38, f34⟩
      show ov_R u d ov_m88 15 [(0, ov_r 0)] [ov_i v35] z36 h37 (P_OF_walk_0 F z h)
      have f39 : (h37 1 1) = 0 ∧ (h37 36 7) = (h 36 7) ∧ (h37 90 2) = (h 90 2) ∧ (h37 0 10) = (h 0 10) ∧ (h37 0 11) = (h 0 11) ∧ (h37 0 12) = (h 0 12) ∧ (h37 0 13) = (h 0 13) ∧ (h37 36 8) = (h 36 8) ∧ (h37 46 3) = (h 46 3) ∧ (h37 46 4) = (h 46 4) ∧ (h37 49 4) = (h 49 4) ∧ (h37 49 5) = (h 49 5) ∧ (h37 64 0) = (h 64 0) ∧ (h37 76 0) = (h 76 0) := f34
      clear f34
      have e40 : h37 0 10 = 58 := by omega
      have e41 : h37 0 13 = 86 := by omega
      refine ov_havw (fun w42 gw42 qw42 => ?_)
      refine ov_blk (ls2 := [(0, ov_r 0), (1, ov_i w42)]) (st2 := [ov_i w42]) (pc2 := 17) b_88_15_2 rfl rfl ?_
      refine ov_ifne (tgt := 45) d_88_17 (by decide) (by omega) (fun c43 => ?_) (fun c43 => ?_)
      · skip
        refine ov_blk (ls2 := [(0, ov_r 0), (1, ov_i w42)]) (st2 := [ov_i w42]) (pc2 := 46) b_88_45_1 rfl rfl ?_
        exact ov_reti (st := []) d_88_46 rfl ⟨_, rfl, I38, (by show (h37 1 1) = 0 ∧ (h37 36 7) = (h 36 7) ∧ (h37 90 2) = (h 90 2) ∧ (h37 0 10) = (h 0 10) ∧ (h37 0 11) = (h 0 11) ∧ (h37 36 8) = (h 36 8) ∧ (h37 46 3) = (h 46 3) ∧ (h37 46 4) = (h 46 4) ∧ (h37 49 4) = (h 49 4) ∧ (h37 49 5) = (h 49 5) ∧ (h37 64 0) = (h 64 0) ∧ (h37 76 0) = (h 76 0); omega)⟩
      · skip
        refine ov_blk (ls2 := [(0, ov_r 0), (1, ov_i w42)]) (st2 := [ov_r 0]) (pc2 := 21) b_88_20_1 rfl rfl ?_
        rcases rg_0_12 I38 with e44 | e44
        · skip
          refine ov_getf (v := ov_r 82) d_88_21 fl_OF_88 (zb_0 I38) (zs_0 I38) (congrArg ov_r e44) ?_
          refine ov_blk (ls2 := [(0, ov_r 0), (1, ov_i w42), (2, ov_r 82)]) (st2 := [ov_r 0, ov_r 0]) (pc2 := 27) b_88_24_3 rfl rfl ?_
          refine ov_getf (v := ov_r 86) d_88_27 fl_OF_92 (zb_0 I38) (zs_0 I38) (congrArg ov_r e41) ?_
          refine ov_putf (x := 86) d_88_30 fl_OF_88 (zb_0 I38) (zs_0 I38) rfl nk_2 rfl ?_
          have I45 := up_0_12 (x := 86) I38 (by omega) (hw 0 (by decide +kernel))
          refine ov_blk (ls2 := [(0, ov_r 0), (1, ov_i w42), (2, ov_r 82)]) (st2 := [ov_r 82, ov_r 0]) (pc2 := 35) b_88_33_2 rfl rfl ?_
          refine ov_putf (x := 82) d_88_35 fl_OF_92 (zb_0 I45) (zs_0 I45) rfl nk_2 rfl ?_
          have I46 := up_0_13 (x := 82) I45 (by omega) (hw 0 (by decide +kernel))
          refine ov_blk (ls2 := [(0, ov_r 0), (1, ov_i w42), (2, ov_r 82)]) (st2 := [ov_r 0]) (pc2 := 39) b_88_38_1 rfl rfl ?_
          refine ov_getf (v := ov_r 49) d_88_39 fl_OF_64 (zb_0 I46) (zs_0 I46) (congrArg ov_r (rg_0_8 I46)) ?_
          refine ov_cV (as := []) (st := []) (d2 := d - 1) d_88_42 lk_OF_126 rfl (Nat.le_of_ble_eq_true rfl) (c := 5) (zb_49 I46) (zs_49 I46) ⟨by decide, rfl⟩ (by omega) (c_Pace_forget_49 (d - 1) (by omega) U I46) ?_
          rintro _ z48 h49 ⟨rfl, I50, f47⟩
          show ov_R u d ov_m88 45 [(0, ov_r 0), (1, ov_i w42), (2, ov_r 82)] [] z48 h49 (P_OF_walk_0 F z h)
          have f51 : (h49 36 7) = (h37 36 7) ∧ (h49 1 1) = (h37 1 1) ∧ (h49 90 2) = (h37 90 2) ∧ (h49 0 10) = (h37 0 10) ∧ (h49 0 11) = (h37 0 11) ∧ (h49 0 12) = 86 ∧ (h49 0 13) = 82 ∧ (h49 3 1) = (h37 3 1) ∧ (h49 36 8) = (h37 36 8) ∧ (h49 46 3) = (h37 46 3) ∧ (h49 46 4) = (h37 46 4) ∧ (h49 49 4) = (h37 49 4) ∧ (h49 49 5) = (h37 49 5) ∧ (h49 64 0) = (h37 64 0) ∧ (h49 76 0) = (h37 76 0) := f47
          clear f47
          have e52 : h49 0 10 = 58 := by omega
          have e53 : h49 0 12 = 86 := by omega
          have e54 : h49 0 13 = 82 := by omega
          refine ov_blk (ls2 := [(0, ov_r 0), (1, ov_i w42), (2, ov_r 82)]) (st2 := [ov_i w42]) (pc2 := 46) b_88_45_1 rfl rfl ?_
          exact ov_reti (st := []) d_88_46 rfl ⟨_, rfl, I50, (by show (h49 1 1) = 0 ∧ (h49 36 7) = (h 36 7) ∧ (h49 90 2) = (h 90 2) ∧ (h49 0 10) = (h 0 10) ∧ (h49 0 11) = (h 0 11) ∧ (h49 36 8) = (h 36 8) ∧ (h49 46 3) = (h 46 3) ∧ (h49 46 4) = (h 46 4) ∧ (h49 49 4) = (h 49 4) ∧ (h49 49 5) = (h 49 5) ∧ (h49 64 0) = (h 64 0) ∧ (h49 76 0) = (h 76 0); omega)⟩
        · skip
          refine ov_getf (v := ov_r 86) d_88_21 fl_OF_88 (zb_0 I38) (zs_0 I38) (congrArg ov_r e44) ?_
          refine ov_blk (ls2 := [(0, ov_r 0), (1, ov_i w42), (2, ov_r 86)]) (st2 := [ov_r 0, ov_r 0]) (pc2 := 27) b_88_24_3 rfl rfl ?_
          refine ov_getf (v := ov_r 86) d_88_27 fl_OF_92 (zb_0 I38) (zs_0 I38) (congrArg ov_r e41) ?_
          refine ov_putf (x := 86) d_88_30 fl_OF_88 (zb_0 I38) (zs_0 I38) rfl nk_2 rfl ?_
          have I55 := up_0_12 (x := 86) I38 (by omega) (hw 0 (by decide +kernel))
          refine ov_blk (ls2 := [(0, ov_r 0), (1, ov_i w42), (2, ov_r 86)]) (st2 := [ov_r 86, ov_r 0]) (pc2 := 35) b_88_33_2 rfl rfl ?_
          refine ov_putf (x := 86) d_88_35 fl_OF_92 (zb_0 I55) (zs_0 I55) rfl nk_2 rfl ?_
          have I56 := up_0_13 (x := 86) I55 (by omega) (hw 0 (by decide +kernel))
          refine ov_blk (ls2 := [(0, ov_r 0), (1, ov_i w42), (2, ov_r 86)]) (st2 := [ov_r 0]) (pc2 := 39) b_88_38_1 rfl rfl ?_
          refine ov_getf (v := ov_r 49) d_88_39 fl_OF_64 (zb_0 I56) (zs_0 I56) (congrArg ov_r (rg_0_8 I56)) ?_
          refine ov_cV (as := []) (st := []) (d2 := d - 1) d_88_42 lk_OF_126 rfl (Nat.le_of_ble_eq_true rfl) (c := 5) (zb_49 I56) (zs_49 I56) ⟨by decide, rfl⟩ (by omega) (c_Pace_forget_49 (d - 1) (by omega) U I56) ?_
          rintro _ z58 h59 ⟨rfl, I60, f57⟩
          show ov_R u d ov_m88 45 [(0, ov_r 0), (1, ov_i w42), (2, ov_r 86)] [] z58 h59 (P_OF_walk_0 F z h)
          have f61 : (h59 36 7) = (h37 36 7) ∧ (h59 1 1) = (h37 1 1) ∧ (h59 90 2) = (h37 90 2) ∧ (h59 0 10) = (h37 0 10) ∧ (h59 0 11) = (h37 0 11) ∧ (h59 0 12) = 86 ∧ (h59 0 13) = 86 ∧ (h59 3 1) = (h37 3 1) ∧ (h59 36 8) = (h37 36 8) ∧ (h59 46 3) = (h37 46 3) ∧ (h59 46 4) = (h37 46 4) ∧ (h59 49 4) = (h37 49 4) ∧ (h59 49 5) = (h37 49 5) ∧ (h59 64 0) = (h37 64 0) ∧ (h59 76 0) = (h37 76 0) := f57
          clear f57
          have e62 : h59 0 10 = 58 := by omega
          have e63 : h59 0 12 = 86 := by omega
          have e64 : h59 0 13 = 86 := by omega
          refine ov_blk (ls2 := [(0, ov_r 0), (1, ov_i w42), (2, ov_r 86)]) (st2 := [ov_i w42]) (pc2 := 46) b_88_45_1 rfl rfl ?_
          exact ov_reti (st := []) d_88_46 rfl ⟨_, rfl, I60, (by show (h59 1 1) = 0 ∧ (h59 36 7) = (h 36 7) ∧ (h59 90 2) = (h 90 2) ∧ (h59 0 10) = (h 0 10) ∧ (h59 0 11) = (h 0 11) ∧ (h59 36 8) = (h 36 8) ∧ (h59 46 3) = (h 46 3) ∧ (h59 46 4) = (h 46 4) ∧ (h59 49 4) = (h 49 4) ∧ (h59 49 5) = (h 49 5) ∧ (h59 64 0) = (h 64 0) ∧ (h59 76 0) = (h 76 0); omega)⟩
  · skip
    refine ov_getf (v := ov_r 70) d_88_5 fl_OF_78 (zb_0 I) (zs_0 I) (congrArg ov_r e1) ?_
    refine ov_blk (ls2 := [(0, ov_r 0)]) (st2 := [ov_r 0, ov_r 70, ov_r 3]) (pc2 := 9) b_88_8_1 rfl rfl ?_
    rcases rg_0_13 I with e65 | e65
    · skip
      refine ov_getf (v := ov_r 82) d_88_9 fl_OF_92 (zb_0 I) (zs_0 I) (congrArg ov_r e65) ?_
      refine ov_cV (as := [ov_r 70, ov_r 82]) (st := []) (d2 := d - 1) d_88_12 lk_OF_122 rfl (Nat.le_of_ble_eq_true rfl) (c := 6) (zb_3 I) (zs_3 I) ⟨by decide, rfl⟩ (by omega) (c_Reader_readWalk_3_70_82 (d - 1) (by omega) U I (ov_kws hw (by decide +kernel))) ?_
      rintro _ z68 h69 ⟨v67, rfl, I70, f66⟩
      show ov_R u d ov_m88 15 [(0, ov_r 0)] [ov_i v67] z68 h69 (P_OF_walk_0 F z h)
      have f71 : (h69 1 1) = 0 ∧ (h69 36 7) = (h 36 7) ∧ (h69 90 2) = (h 90 2) ∧ (h69 0 10) = (h 0 10) ∧ (h69 0 11) = (h 0 11) ∧ (h69 0 12) = (h 0 12) ∧ (h69 0 13) = (h 0 13) ∧ (h69 36 8) = (h 36 8) ∧ (h69 46 3) = (h 46 3) ∧ (h69 46 4) = (h 46 4) ∧ (h69 49 4) = (h 49 4) ∧ (h69 49 5) = (h 49 5) ∧ (h69 64 0) = (h 64 0) ∧ (h69 76 0) = (h 76 0) := f66
      clear f66
      have e72 : h69 0 10 = 70 := by omega
      have e73 : h69 0 13 = 82 := by omega
      refine ov_havw (fun w74 gw74 qw74 => ?_)
      refine ov_blk (ls2 := [(0, ov_r 0), (1, ov_i w74)]) (st2 := [ov_i w74]) (pc2 := 17) b_88_15_2 rfl rfl ?_
      refine ov_ifne (tgt := 45) d_88_17 (by decide) (by omega) (fun c75 => ?_) (fun c75 => ?_)
      · skip
        refine ov_blk (ls2 := [(0, ov_r 0), (1, ov_i w74)]) (st2 := [ov_i w74]) (pc2 := 46) b_88_45_1 rfl rfl ?_
        exact ov_reti (st := []) d_88_46 rfl ⟨_, rfl, I70, (by show (h69 1 1) = 0 ∧ (h69 36 7) = (h 36 7) ∧ (h69 90 2) = (h 90 2) ∧ (h69 0 10) = (h 0 10) ∧ (h69 0 11) = (h 0 11) ∧ (h69 36 8) = (h 36 8) ∧ (h69 46 3) = (h 46 3) ∧ (h69 46 4) = (h 46 4) ∧ (h69 49 4) = (h 49 4) ∧ (h69 49 5) = (h 49 5) ∧ (h69 64 0) = (h 64 0) ∧ (h69 76 0) = (h 76 0); omega)⟩
      · skip
        refine ov_blk (ls2 := [(0, ov_r 0), (1, ov_i w74)]) (st2 := [ov_r 0]) (pc2 := 21) b_88_20_1 rfl rfl ?_
        rcases rg_0_12 I70 with e76 | e76
        · skip
          refine ov_getf (v := ov_r 82) d_88_21 fl_OF_88 (zb_0 I70) (zs_0 I70) (congrArg ov_r e76) ?_
          refine ov_blk (ls2 := [(0, ov_r 0), (1, ov_i w74), (2, ov_r 82)]) (st2 := [ov_r 0, ov_r 0]) (pc2 := 27) b_88_24_3 rfl rfl ?_
          refine ov_getf (v := ov_r 82) d_88_27 fl_OF_92 (zb_0 I70) (zs_0 I70) (congrArg ov_r e73) ?_
          refine ov_putf (x := 82) d_88_30 fl_OF_88 (zb_0 I70) (zs_0 I70) rfl nk_2 rfl ?_
          have I77 := up_0_12 (x := 82) I70 (by omega) (hw 0 (by decide +kernel))
          refine ov_blk (ls2 := [(0, ov_r 0), (1, ov_i w74), (2, ov_r 82)]) (st2 := [ov_r 82, ov_r 0]) (pc2 := 35) b_88_33_2 rfl rfl ?_
          refine ov_putf (x := 82) d_88_35 fl_OF_92 (zb_0 I77) (zs_0 I77) rfl nk_2 rfl ?_
          have I78 := up_0_13 (x := 82) I77 (by omega) (hw 0 (by decide +kernel))
          refine ov_blk (ls2 := [(0, ov_r 0), (1, ov_i w74), (2, ov_r 82)]) (st2 := [ov_r 0]) (pc2 := 39) b_88_38_1 rfl rfl ?_
          refine ov_getf (v := ov_r 49) d_88_39 fl_OF_64 (zb_0 I78) (zs_0 I78) (congrArg ov_r (rg_0_8 I78)) ?_
          refine ov_cV (as := []) (st := []) (d2 := d - 1) d_88_42 lk_OF_126 rfl (Nat.le_of_ble_eq_true rfl) (c := 5) (zb_49 I78) (zs_49 I78) ⟨by decide, rfl⟩ (by omega) (c_Pace_forget_49 (d - 1) (by omega) U I78) ?_
          rintro _ z80 h81 ⟨rfl, I82, f79⟩
          show ov_R u d ov_m88 45 [(0, ov_r 0), (1, ov_i w74), (2, ov_r 82)] [] z80 h81 (P_OF_walk_0 F z h)
          have f83 : (h81 36 7) = (h69 36 7) ∧ (h81 1 1) = (h69 1 1) ∧ (h81 90 2) = (h69 90 2) ∧ (h81 0 10) = (h69 0 10) ∧ (h81 0 11) = (h69 0 11) ∧ (h81 0 12) = 82 ∧ (h81 0 13) = 82 ∧ (h81 3 1) = (h69 3 1) ∧ (h81 36 8) = (h69 36 8) ∧ (h81 46 3) = (h69 46 3) ∧ (h81 46 4) = (h69 46 4) ∧ (h81 49 4) = (h69 49 4) ∧ (h81 49 5) = (h69 49 5) ∧ (h81 64 0) = (h69 64 0) ∧ (h81 76 0) = (h69 76 0) := f79
          clear f79
          have e84 : h81 0 10 = 70 := by omega
          have e85 : h81 0 12 = 82 := by omega
          have e86 : h81 0 13 = 82 := by omega
          refine ov_blk (ls2 := [(0, ov_r 0), (1, ov_i w74), (2, ov_r 82)]) (st2 := [ov_i w74]) (pc2 := 46) b_88_45_1 rfl rfl ?_
          exact ov_reti (st := []) d_88_46 rfl ⟨_, rfl, I82, (by show (h81 1 1) = 0 ∧ (h81 36 7) = (h 36 7) ∧ (h81 90 2) = (h 90 2) ∧ (h81 0 10) = (h 0 10) ∧ (h81 0 11) = (h 0 11) ∧ (h81 36 8) = (h 36 8) ∧ (h81 46 3) = (h 46 3) ∧ (h81 46 4) = (h 46 4) ∧ (h81 49 4) = (h 49 4) ∧ (h81 49 5) = (h 49 5) ∧ (h81 64 0) = (h 64 0) ∧ (h81 76 0) = (h 76 0); omega)⟩
        · skip
          refine ov_getf (v := ov_r 86) d_88_21 fl_OF_88 (zb_0 I70) (zs_0 I70) (congrArg ov_r e76) ?_
          refine ov_blk (ls2 := [(0, ov_r 0), (1, ov_i w74), (2, ov_r 86)]) (st2 := [ov_r 0, ov_r 0]) (pc2 := 27) b_88_24_3 rfl rfl ?_
          refine ov_getf (v := ov_r 82) d_88_27 fl_OF_92 (zb_0 I70) (zs_0 I70) (congrArg ov_r e73) ?_
          refine ov_putf (x := 82) d_88_30 fl_OF_88 (zb_0 I70) (zs_0 I70) rfl nk_2 rfl ?_
          have I87 := up_0_12 (x := 82) I70 (by omega) (hw 0 (by decide +kernel))
          refine ov_blk (ls2 := [(0, ov_r 0), (1, ov_i w74), (2, ov_r 86)]) (st2 := [ov_r 86, ov_r 0]) (pc2 := 35) b_88_33_2 rfl rfl ?_
          refine ov_putf (x := 86) d_88_35 fl_OF_92 (zb_0 I87) (zs_0 I87) rfl nk_2 rfl ?_
          have I88 := up_0_13 (x := 86) I87 (by omega) (hw 0 (by decide +kernel))
          refine ov_blk (ls2 := [(0, ov_r 0), (1, ov_i w74), (2, ov_r 86)]) (st2 := [ov_r 0]) (pc2 := 39) b_88_38_1 rfl rfl ?_
          refine ov_getf (v := ov_r 49) d_88_39 fl_OF_64 (zb_0 I88) (zs_0 I88) (congrArg ov_r (rg_0_8 I88)) ?_
          refine ov_cV (as := []) (st := []) (d2 := d - 1) d_88_42 lk_OF_126 rfl (Nat.le_of_ble_eq_true rfl) (c := 5) (zb_49 I88) (zs_49 I88) ⟨by decide, rfl⟩ (by omega) (c_Pace_forget_49 (d - 1) (by omega) U I88) ?_
          rintro _ z90 h91 ⟨rfl, I92, f89⟩
          show ov_R u d ov_m88 45 [(0, ov_r 0), (1, ov_i w74), (2, ov_r 86)] [] z90 h91 (P_OF_walk_0 F z h)
          have f93 : (h91 36 7) = (h69 36 7) ∧ (h91 1 1) = (h69 1 1) ∧ (h91 90 2) = (h69 90 2) ∧ (h91 0 10) = (h69 0 10) ∧ (h91 0 11) = (h69 0 11) ∧ (h91 0 12) = 82 ∧ (h91 0 13) = 86 ∧ (h91 3 1) = (h69 3 1) ∧ (h91 36 8) = (h69 36 8) ∧ (h91 46 3) = (h69 46 3) ∧ (h91 46 4) = (h69 46 4) ∧ (h91 49 4) = (h69 49 4) ∧ (h91 49 5) = (h69 49 5) ∧ (h91 64 0) = (h69 64 0) ∧ (h91 76 0) = (h69 76 0) := f89
          clear f89
          have e94 : h91 0 10 = 70 := by omega
          have e95 : h91 0 12 = 82 := by omega
          have e96 : h91 0 13 = 86 := by omega
          refine ov_blk (ls2 := [(0, ov_r 0), (1, ov_i w74), (2, ov_r 86)]) (st2 := [ov_i w74]) (pc2 := 46) b_88_45_1 rfl rfl ?_
          exact ov_reti (st := []) d_88_46 rfl ⟨_, rfl, I92, (by show (h91 1 1) = 0 ∧ (h91 36 7) = (h 36 7) ∧ (h91 90 2) = (h 90 2) ∧ (h91 0 10) = (h 0 10) ∧ (h91 0 11) = (h 0 11) ∧ (h91 36 8) = (h 36 8) ∧ (h91 46 3) = (h 46 3) ∧ (h91 46 4) = (h 46 4) ∧ (h91 49 4) = (h 49 4) ∧ (h91 49 5) = (h 49 5) ∧ (h91 64 0) = (h 64 0) ∧ (h91 76 0) = (h 76 0); omega)⟩
    · skip
      refine ov_getf (v := ov_r 86) d_88_9 fl_OF_92 (zb_0 I) (zs_0 I) (congrArg ov_r e65) ?_
      refine ov_cV (as := [ov_r 70, ov_r 86]) (st := []) (d2 := d - 1) d_88_12 lk_OF_122 rfl (Nat.le_of_ble_eq_true rfl) (c := 6) (zb_3 I) (zs_3 I) ⟨by decide, rfl⟩ (by omega) (c_Reader_readWalk_3_70_86 (d - 1) (by omega) U I (ov_kws hw (by decide +kernel))) ?_
      rintro _ z99 h100 ⟨v98, rfl, I101, f97⟩
      show ov_R u d ov_m88 15 [(0, ov_r 0)] [ov_i v98] z99 h100 (P_OF_walk_0 F z h)
      have f102 : (h100 1 1) = 0 ∧ (h100 36 7) = (h 36 7) ∧ (h100 90 2) = (h 90 2) ∧ (h100 0 10) = (h 0 10) ∧ (h100 0 11) = (h 0 11) ∧ (h100 0 12) = (h 0 12) ∧ (h100 0 13) = (h 0 13) ∧ (h100 36 8) = (h 36 8) ∧ (h100 46 3) = (h 46 3) ∧ (h100 46 4) = (h 46 4) ∧ (h100 49 4) = (h 49 4) ∧ (h100 49 5) = (h 49 5) ∧ (h100 64 0) = (h 64 0) ∧ (h100 76 0) = (h 76 0) := f97
      clear f97
      have e103 : h100 0 10 = 70 := by omega
      have e104 : h100 0 13 = 86 := by omega
      refine ov_havw (fun w105 gw105 qw105 => ?_)
      refine ov_blk (ls2 := [(0, ov_r 0), (1, ov_i w105)]) (st2 := [ov_i w105]) (pc2 := 17) b_88_15_2 rfl rfl ?_
      refine ov_ifne (tgt := 45) d_88_17 (by decide) (by omega) (fun c106 => ?_) (fun c106 => ?_)
      · skip
        refine ov_blk (ls2 := [(0, ov_r 0), (1, ov_i w105)]) (st2 := [ov_i w105]) (pc2 := 46) b_88_45_1 rfl rfl ?_
        exact ov_reti (st := []) d_88_46 rfl ⟨_, rfl, I101, (by show (h100 1 1) = 0 ∧ (h100 36 7) = (h 36 7) ∧ (h100 90 2) = (h 90 2) ∧ (h100 0 10) = (h 0 10) ∧ (h100 0 11) = (h 0 11) ∧ (h100 36 8) = (h 36 8) ∧ (h100 46 3) = (h 46 3) ∧ (h100 46 4) = (h 46 4) ∧ (h100 49 4) = (h 49 4) ∧ (h100 49 5) = (h 49 5) ∧ (h100 64 0) = (h 64 0) ∧ (h100 76 0) = (h 76 0); omega)⟩
      · skip
        refine ov_blk (ls2 := [(0, ov_r 0), (1, ov_i w105)]) (st2 := [ov_r 0]) (pc2 := 21) b_88_20_1 rfl rfl ?_
        rcases rg_0_12 I101 with e107 | e107
        · skip
          refine ov_getf (v := ov_r 82) d_88_21 fl_OF_88 (zb_0 I101) (zs_0 I101) (congrArg ov_r e107) ?_
          refine ov_blk (ls2 := [(0, ov_r 0), (1, ov_i w105), (2, ov_r 82)]) (st2 := [ov_r 0, ov_r 0]) (pc2 := 27) b_88_24_3 rfl rfl ?_
          refine ov_getf (v := ov_r 86) d_88_27 fl_OF_92 (zb_0 I101) (zs_0 I101) (congrArg ov_r e104) ?_
          refine ov_putf (x := 86) d_88_30 fl_OF_88 (zb_0 I101) (zs_0 I101) rfl nk_2 rfl ?_
          have I108 := up_0_12 (x := 86) I101 (by omega) (hw 0 (by decide +kernel))
          refine ov_blk (ls2 := [(0, ov_r 0), (1, ov_i w105), (2, ov_r 82)]) (st2 := [ov_r 82, ov_r 0]) (pc2 := 35) b_88_33_2 rfl rfl ?_
          refine ov_putf (x := 82) d_88_35 fl_OF_92 (zb_0 I108) (zs_0 I108) rfl nk_2 rfl ?_
          have I109 := up_0_13 (x := 82) I108 (by omega) (hw 0 (by decide +kernel))
          refine ov_blk (ls2 := [(0, ov_r 0), (1, ov_i w105), (2, ov_r 82)]) (st2 := [ov_r 0]) (pc2 := 39) b_88_38_1 rfl rfl ?_
          refine ov_getf (v := ov_r 49) d_88_39 fl_OF_64 (zb_0 I109) (zs_0 I109) (congrArg ov_r (rg_0_8 I109)) ?_
          refine ov_cV (as := []) (st := []) (d2 := d - 1) d_88_42 lk_OF_126 rfl (Nat.le_of_ble_eq_true rfl) (c := 5) (zb_49 I109) (zs_49 I109) ⟨by decide, rfl⟩ (by omega) (c_Pace_forget_49 (d - 1) (by omega) U I109) ?_
          rintro _ z111 h112 ⟨rfl, I113, f110⟩
          show ov_R u d ov_m88 45 [(0, ov_r 0), (1, ov_i w105), (2, ov_r 82)] [] z111 h112 (P_OF_walk_0 F z h)
          have f114 : (h112 36 7) = (h100 36 7) ∧ (h112 1 1) = (h100 1 1) ∧ (h112 90 2) = (h100 90 2) ∧ (h112 0 10) = (h100 0 10) ∧ (h112 0 11) = (h100 0 11) ∧ (h112 0 12) = 86 ∧ (h112 0 13) = 82 ∧ (h112 3 1) = (h100 3 1) ∧ (h112 36 8) = (h100 36 8) ∧ (h112 46 3) = (h100 46 3) ∧ (h112 46 4) = (h100 46 4) ∧ (h112 49 4) = (h100 49 4) ∧ (h112 49 5) = (h100 49 5) ∧ (h112 64 0) = (h100 64 0) ∧ (h112 76 0) = (h100 76 0) := f110
          clear f110
          have e115 : h112 0 10 = 70 := by omega
          have e116 : h112 0 12 = 86 := by omega
          have e117 : h112 0 13 = 82 := by omega
          refine ov_blk (ls2 := [(0, ov_r 0), (1, ov_i w105), (2, ov_r 82)]) (st2 := [ov_i w105]) (pc2 := 46) b_88_45_1 rfl rfl ?_
          exact ov_reti (st := []) d_88_46 rfl ⟨_, rfl, I113, (by show (h112 1 1) = 0 ∧ (h112 36 7) = (h 36 7) ∧ (h112 90 2) = (h 90 2) ∧ (h112 0 10) = (h 0 10) ∧ (h112 0 11) = (h 0 11) ∧ (h112 36 8) = (h 36 8) ∧ (h112 46 3) = (h 46 3) ∧ (h112 46 4) = (h 46 4) ∧ (h112 49 4) = (h 49 4) ∧ (h112 49 5) = (h 49 5) ∧ (h112 64 0) = (h 64 0) ∧ (h112 76 0) = (h 76 0); omega)⟩
        · skip
          refine ov_getf (v := ov_r 86) d_88_21 fl_OF_88 (zb_0 I101) (zs_0 I101) (congrArg ov_r e107) ?_
          refine ov_blk (ls2 := [(0, ov_r 0), (1, ov_i w105), (2, ov_r 86)]) (st2 := [ov_r 0, ov_r 0]) (pc2 := 27) b_88_24_3 rfl rfl ?_
          refine ov_getf (v := ov_r 86) d_88_27 fl_OF_92 (zb_0 I101) (zs_0 I101) (congrArg ov_r e104) ?_
          refine ov_putf (x := 86) d_88_30 fl_OF_88 (zb_0 I101) (zs_0 I101) rfl nk_2 rfl ?_
          have I118 := up_0_12 (x := 86) I101 (by omega) (hw 0 (by decide +kernel))
          refine ov_blk (ls2 := [(0, ov_r 0), (1, ov_i w105), (2, ov_r 86)]) (st2 := [ov_r 86, ov_r 0]) (pc2 := 35) b_88_33_2 rfl rfl ?_
          refine ov_putf (x := 86) d_88_35 fl_OF_92 (zb_0 I118) (zs_0 I118) rfl nk_2 rfl ?_
          have I119 := up_0_13 (x := 86) I118 (by omega) (hw 0 (by decide +kernel))
          refine ov_blk (ls2 := [(0, ov_r 0), (1, ov_i w105), (2, ov_r 86)]) (st2 := [ov_r 0]) (pc2 := 39) b_88_38_1 rfl rfl ?_
          refine ov_getf (v := ov_r 49) d_88_39 fl_OF_64 (zb_0 I119) (zs_0 I119) (congrArg ov_r (rg_0_8 I119)) ?_
          refine ov_cV (as := []) (st := []) (d2 := d - 1) d_88_42 lk_OF_126 rfl (Nat.le_of_ble_eq_true rfl) (c := 5) (zb_49 I119) (zs_49 I119) ⟨by decide, rfl⟩ (by omega) (c_Pace_forget_49 (d - 1) (by omega) U I119) ?_
          rintro _ z121 h122 ⟨rfl, I123, f120⟩
          show ov_R u d ov_m88 45 [(0, ov_r 0), (1, ov_i w105), (2, ov_r 86)] [] z121 h122 (P_OF_walk_0 F z h)
          have f124 : (h122 36 7) = (h100 36 7) ∧ (h122 1 1) = (h100 1 1) ∧ (h122 90 2) = (h100 90 2) ∧ (h122 0 10) = (h100 0 10) ∧ (h122 0 11) = (h100 0 11) ∧ (h122 0 12) = 86 ∧ (h122 0 13) = 86 ∧ (h122 3 1) = (h100 3 1) ∧ (h122 36 8) = (h100 36 8) ∧ (h122 46 3) = (h100 46 3) ∧ (h122 46 4) = (h100 46 4) ∧ (h122 49 4) = (h100 49 4) ∧ (h122 49 5) = (h100 49 5) ∧ (h122 64 0) = (h100 64 0) ∧ (h122 76 0) = (h100 76 0) := f120
          clear f120
          have e125 : h122 0 10 = 70 := by omega
          have e126 : h122 0 12 = 86 := by omega
          have e127 : h122 0 13 = 86 := by omega
          refine ov_blk (ls2 := [(0, ov_r 0), (1, ov_i w105), (2, ov_r 86)]) (st2 := [ov_i w105]) (pc2 := 46) b_88_45_1 rfl rfl ?_
          exact ov_reti (st := []) d_88_46 rfl ⟨_, rfl, I123, (by show (h122 1 1) = 0 ∧ (h122 36 7) = (h 36 7) ∧ (h122 90 2) = (h 90 2) ∧ (h122 0 10) = (h 0 10) ∧ (h122 0 11) = (h 0 11) ∧ (h122 36 8) = (h 36 8) ∧ (h122 46 3) = (h 46 3) ∧ (h122 46 4) = (h 46 4) ∧ (h122 49 4) = (h 49 4) ∧ (h122 49 5) = (h 49 5) ∧ (h122 64 0) = (h 64 0) ∧ (h122 76 0) = (h 76 0); omega)⟩

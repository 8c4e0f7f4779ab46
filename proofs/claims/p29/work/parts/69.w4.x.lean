abbrev P_History_keep_9_4_t (F : ov_H) (z : ov_Z) (h : ov_H)  : Option ov_V → ov_Z → ov_H → Prop := fun r0 z' h' => r0 = none ∧ ov_I F z' h' ∧ ((h' 36 7) = (h 36 7) ∧ (h' 1 1) = (h 1 1) ∧ (h' 90 2) = (h 90 2) ∧ (h' 0 10) = (h 0 10) ∧ (h' 0 11) = (h 0 11) ∧ (h' 0 12) = (h 0 12) ∧ (h' 0 13) = (h 0 13) ∧ (h' 3 1) = (h 3 1) ∧ (h' 36 8) = (h 36 8) ∧ (h' 46 3) = (h 46 3) ∧ (h' 46 4) = (h 46 4) ∧ (h' 49 4) = (h 49 4) ∧ (h' 49 5) = (h 49 5) ∧ (h' 64 0) = (h 64 0) ∧ (h' 76 0) = (h 76 0)) ∧ (st_K h h')
set_option maxHeartbeats 4000000 in
theorem c_History_keep_9_4_t {u : ov_U} {F : ov_H} {z : ov_Z} {h : ov_H} (d : Nat) (hd : 1 ≤ d) (U : ov_cap u) (I : ov_I F z h) (hw : ov_kw 15872 F) : ov_T u d ov_m104 [ov_r 9, ov_r 4] z h (P_History_keep_9_4_t F z h) := by
  refine ov_en rfl (Nat.le_of_ble_eq_true rfl) ?_
  show ov_R u d ov_m104 0 [(0, ov_r 9), (1, ov_r 4)] [] z h (P_History_keep_9_4_t F z h)
  refine ov_blk (ls2 := [(0, ov_r 9), (1, ov_r 4)]) (st2 := [ov_r 9]) (pc2 := 1) b_104_0_1 rfl rfl ?_
  refine ov_getf (v := ov_r 10) d_104_1 fl_History_9 (zb_9 I) (zs_9 I) (congrArg ov_r (rg_9_2 I)) ?_
  refine ov_blk (ls2 := [(0, ov_r 9), (1, ov_r 4)]) (st2 := [ov_r 9, ov_r 10]) (pc2 := 5) b_104_4_1 rfl rfl ?_
  refine ov_getf (v := ov_i (h 9 1)) d_104_5 fl_History_27 (zb_9 I) (zs_9 I) rfl ?_
  have g1 := rg_9_1 I
  refine ov_blk (ls2 := [(0, ov_r 9), (1, ov_r 4)]) (st2 := [ov_r 4, ov_i (h 9 1), ov_r 10]) (pc2 := 9) b_104_8_1 rfl rfl ?_
  refine ov_getf (v := ov_i (h 4 0)) d_104_9 fl_History_30 (zb_4 I) (zs_4 I) rfl ?_
  have g2 := rg_4_0 I
  refine ov_iast d_104_12 (zb_10 I) (zs_10 I) (by omega) ?_
  have I3 := ua_10 (k := (h 9 1)) (x := (h 4 0)) I (by omega) (hw 10 (by decide +kernel))
  refine ov_blk (ls2 := [(0, ov_r 9), (1, ov_r 4)]) (st2 := [ov_r 9]) (pc2 := 14) b_104_13_1 rfl rfl ?_
  refine ov_getf (v := ov_r 11) d_104_14 fl_History_13 (zb_9 I3) (zs_9 I3) (congrArg ov_r (rg_9_3 I3)) ?_
  refine ov_blk (ls2 := [(0, ov_r 9), (1, ov_r 4)]) (st2 := [ov_r 9, ov_r 11]) (pc2 := 18) b_104_17_1 rfl rfl ?_
  refine ov_getf (v := ov_i (h 9 1)) d_104_18 fl_History_27 (zb_9 I3) (zs_9 I3) rfl ?_
  refine ov_blk (ls2 := [(0, ov_r 9), (1, ov_r 4)]) (st2 := [ov_r 4, ov_i (h 9 1), ov_r 11]) (pc2 := 22) b_104_21_1 rfl rfl ?_
  refine ov_getf (v := ov_i (h 4 1)) d_104_22 fl_History_35 (zb_4 I3) (zs_4 I3) rfl ?_
  have g5 := rg_4_1 I
  refine ov_iast d_104_25 (zb_11 I3) (zs_11 I3) (by omega) ?_
  have I6 := ua_11 (k := (h 9 1)) (x := (h 4 1)) I3 (by omega) (hw 11 (by decide +kernel))
  refine ov_blk (ls2 := [(0, ov_r 9), (1, ov_r 4)]) (st2 := [ov_r 9]) (pc2 := 27) b_104_26_1 rfl rfl ?_
  refine ov_getf (v := ov_r 12) d_104_27 fl_History_16 (zb_9 I6) (zs_9 I6) (congrArg ov_r (rg_9_4 I6)) ?_
  refine ov_blk (ls2 := [(0, ov_r 9), (1, ov_r 4)]) (st2 := [ov_r 9, ov_r 12]) (pc2 := 31) b_104_30_1 rfl rfl ?_
  refine ov_getf (v := ov_i (h 9 1)) d_104_31 fl_History_27 (zb_9 I6) (zs_9 I6) rfl ?_
  refine ov_blk (ls2 := [(0, ov_r 9), (1, ov_r 4)]) (st2 := [ov_r 4, ov_i (h 9 1), ov_r 12]) (pc2 := 35) b_104_34_1 rfl rfl ?_
  refine ov_getf (v := ov_i (h 4 2)) d_104_35 fl_History_38 (zb_4 I6) (zs_4 I6) rfl ?_
  have g8 := rg_4_2 I
  refine ov_iast d_104_38 (zb_12 I6) (zs_12 I6) (by omega) ?_
  have I9 := ua_12 (k := (h 9 1)) (x := (h 4 2)) I6 (by omega) (hw 12 (by decide +kernel))
  refine ov_blk (ls2 := [(0, ov_r 9), (1, ov_r 4)]) (st2 := [ov_r 9]) (pc2 := 40) b_104_39_1 rfl rfl ?_
  refine ov_getf (v := ov_r 13) d_104_40 fl_History_19 (zb_9 I9) (zs_9 I9) (congrArg ov_r (rg_9_5 I9)) ?_
  refine ov_blk (ls2 := [(0, ov_r 9), (1, ov_r 4)]) (st2 := [ov_r 9, ov_r 13]) (pc2 := 44) b_104_43_1 rfl rfl ?_
  refine ov_getf (v := ov_i (h 9 1)) d_104_44 fl_History_27 (zb_9 I9) (zs_9 I9) rfl ?_
  refine ov_blk (ls2 := [(0, ov_r 9), (1, ov_r 4)]) (st2 := [ov_r 4, ov_i (h 9 1), ov_r 13]) (pc2 := 48) b_104_47_1 rfl rfl ?_
  refine ov_getf (v := ov_l (h 4 3)) d_104_48 fl_History_40 (zb_4 I9) (zs_4 I9) rfl ?_
  refine ov_last d_104_51 (zb_13 I9) (zs_13 I9) (by omega) ?_
  have I11 := ua_13 (k := (h 9 1)) (x := (h 4 3)) I9 (hw 13 (by decide +kernel))
  refine ov_blk (ls2 := [(0, ov_r 9), (1, ov_r 4)]) (st2 := [ov_r 9, ov_r 9]) (pc2 := 54) b_104_52_2 rfl rfl ?_
  refine ov_getf (v := ov_i (h 9 1)) d_104_54 fl_History_27 (zb_9 I11) (zs_9 I11) rfl ?_
  refine ov_blk (ls2 := [(0, ov_r 9), (1, ov_r 4)]) (st2 := [ov_i 16, ov_i ((h 9 1) + 1), ov_r 9]) (pc2 := 61) b_104_57_3 rfl rfl ?_
  refine ov_irem d_104_61 (by omega) (by omega) (by omega) ?_
  have g13 := ov_tm (a := ((h 9 1) + 1)) (b := 16) (by omega)
  have g14 := ov_tmg (a := ((h 9 1) + 1)) (b := 16) (by omega) (by omega)
  refine ov_putf (x := (Int.tmod ((h 9 1) + 1) 16)) d_104_62 fl_History_27 (zb_9 I11) (zs_9 I11) rfl nk_0 rfl ?_
  have I15 := up_9_1 (x := (Int.tmod ((h 9 1) + 1) 16)) I11 (by omega) (hw 9 (by decide +kernel))
  refine ov_blk (ls2 := [(0, ov_r 9), (1, ov_r 4)]) (st2 := [ov_r 9, ov_r 9]) (pc2 := 67) b_104_65_2 rfl rfl ?_
  refine ov_getf (v := ov_i (h 9 0)) d_104_67 fl_History_23 (zb_9 I15) (zs_9 I15) rfl ?_
  have g16 := rg_9_0 I
  refine ov_blk (ls2 := [(0, ov_r 9), (1, ov_r 4)]) (st2 := [ov_i 16, ov_i ((h 9 0) + 1), ov_r 9]) (pc2 := 74) b_104_70_3 rfl rfl ?_
  refine ov_cS (as := [ov_i ((h 9 0) + 1), ov_i 16]) (st := [ov_r 9]) (d2 := d - 1) d_104_74 lk_History_44 rfl (Nat.le_of_ble_eq_true rfl) (by omega) (c_Math_min (d - 1) (by omega) U I15 ((h 9 0) + 1) 16 (by omega) (by omega)) ?_
  rintro _ _ _ ⟨v18, rfl, rfl, rfl, f17⟩
  show ov_R u d ov_m104 77 [(0, ov_r 9), (1, ov_r 4)] [ov_i v18, ov_r 9] z (ov_up (ov_up (ov_up (ov_up (ov_up h 10 (h 9 1) (h 4 0)) 11 (h 9 1) (h 4 1)) 12 (h 9 1) (h 4 2)) 13 (h 9 1) (h 4 3)) 9 1 (Int.tmod ((h 9 1) + 1) 16)) (P_History_keep_9_4_t F z h)
  have f19 : v18 ≤ ((h 9 0) + 1) ∧ v18 ≤ (16 : Int) ∧ (v18 = ((h 9 0) + 1) ∨ v18 = (16 : Int)) := f17
  clear f17
  refine ov_putf (x := v18) d_104_77 fl_History_23 (zb_9 I15) (zs_9 I15) rfl nk_0 rfl ?_
  have I20 := up_9_0 (x := v18) I15 (by omega) (hw 9 (by decide +kernel))
  exact ov_retv (st := []) d_104_80 rfl ⟨rfl, I20, (by show (h 36 7) = (h 36 7) ∧ (h 1 1) = (h 1 1) ∧ (h 90 2) = (h 90 2) ∧ (h 0 10) = (h 0 10) ∧ (h 0 11) = (h 0 11) ∧ (h 0 12) = (h 0 12) ∧ (h 0 13) = (h 0 13) ∧ (h 3 1) = (h 3 1) ∧ (h 36 8) = (h 36 8) ∧ (h 46 3) = (h 46 3) ∧ (h 46 4) = (h 46 4) ∧ (h 49 4) = (h 49 4) ∧ (h 49 5) = (h 49 5) ∧ (h 64 0) = (h 64 0) ∧ (h 76 0) = (h 76 0); omega), ⟨⟨(by show (Int.tmod ((h 9 1) + 1) 16) = (h 9 1 + 1) % 16; omega), (by show v18 = if h 9 0 = 16 then 16 else h 9 0 + 1; split <;> omega)⟩, (by show (ov_up (ov_up (ov_up (ov_up (ov_up (ov_up h 10 (h 9 1) (h 4 0)) 11 (h 9 1) (h 4 1)) 12 (h 9 1) (h 4 2)) 13 (h 9 1) (h 4 3)) 9 1 (Int.tmod ((h 9 1) + 1) 16)) 9 0 v18) 10 = _; rw [ov_up_ne (by decide), ov_up_ne (by decide), ov_up_ne (by decide), ov_up_ne (by decide), ov_up_ne (by decide), ov_up_row]), (by show (ov_up (ov_up (ov_up (ov_up (ov_up (ov_up h 10 (h 9 1) (h 4 0)) 11 (h 9 1) (h 4 1)) 12 (h 9 1) (h 4 2)) 13 (h 9 1) (h 4 3)) 9 1 (Int.tmod ((h 9 1) + 1) 16)) 9 0 v18) 11 = _; rw [ov_up_ne (by decide), ov_up_ne (by decide), ov_up_ne (by decide), ov_up_ne (by decide), ov_up_row, ov_up_ne (by decide)]), (by show (ov_up (ov_up (ov_up (ov_up (ov_up (ov_up h 10 (h 9 1) (h 4 0)) 11 (h 9 1) (h 4 1)) 12 (h 9 1) (h 4 2)) 13 (h 9 1) (h 4 3)) 9 1 (Int.tmod ((h 9 1) + 1) 16)) 9 0 v18) 12 = _; rw [ov_up_ne (by decide), ov_up_ne (by decide), ov_up_ne (by decide), ov_up_row, ov_up_ne (by decide), ov_up_ne (by decide)]), (by show (ov_up (ov_up (ov_up (ov_up (ov_up (ov_up h 10 (h 9 1) (h 4 0)) 11 (h 9 1) (h 4 1)) 12 (h 9 1) (h 4 2)) 13 (h 9 1) (h 4 3)) 9 1 (Int.tmod ((h 9 1) + 1) 16)) 9 0 v18) 13 = _; rw [ov_up_ne (by decide), ov_up_ne (by decide), ov_up_row, ov_up_ne (by decide), ov_up_ne (by decide), ov_up_ne (by decide)])⟩⟩
abbrev P_History_giveBack_9_4_t (F : ov_H) (z : ov_Z) (h : ov_H)  : Option ov_V → ov_Z → ov_H → Prop := fun r0 z' h' => ∃ r : Int, r0 = some (ov_i r) ∧ ov_I F z' h' ∧ ((r = 0 ∨ r = 1) ∧ (h' 36 7) = (h 36 7) ∧ (h' 1 1) = (h 1 1) ∧ (h' 90 2) = (h 90 2) ∧ (h' 0 10) = (h 0 10) ∧ (h' 0 11) = (h 0 11) ∧ (h' 0 12) = (h 0 12) ∧ (h' 0 13) = (h 0 13) ∧ (h' 3 1) = (h 3 1) ∧ (h' 36 8) = (h 36 8) ∧ (h' 46 3) = (h 46 3) ∧ (h' 46 4) = (h 46 4) ∧ (h' 49 4) = (h 49 4) ∧ (h' 49 5) = (h 49 5) ∧ (h' 64 0) = (h 64 0) ∧ (h' 76 0) = (h 76 0)) ∧ ((r = 0 ∧ h 9 0 = 0 ∧ st_Z h h') ∨ (r = 1 ∧ ¬ h 9 0 = 0 ∧ st_B h h'))
set_option maxHeartbeats 4000000 in
theorem c_History_giveBack_9_4_t {u : ov_U} {F : ov_H} {z : ov_Z} {h : ov_H} (d : Nat) (hd : 0 ≤ d) (U : ov_cap u) (I : ov_I F z h) (hw : ov_kw 528 F) : ov_T u d ov_m108 [ov_r 9, ov_r 4] z h (P_History_giveBack_9_4_t F z h) := by
  refine ov_en rfl (Nat.le_of_ble_eq_true rfl) ?_
  show ov_R u d ov_m108 0 [(0, ov_r 9), (1, ov_r 4)] [] z h (P_History_giveBack_9_4_t F z h)
  refine ov_blk (ls2 := [(0, ov_r 9), (1, ov_r 4)]) (st2 := [ov_r 9]) (pc2 := 1) b_108_0_1 rfl rfl ?_
  refine ov_getf (v := ov_i (h 9 0)) d_108_1 fl_History_23 (zb_9 I) (zs_9 I) rfl ?_
  have g1 := rg_9_0 I
  refine ov_ifne (tgt := 9) d_108_4 (by decide) (by omega) (fun c2 => ?_) (fun c2 => ?_)
  · skip
    refine ov_blk (ls2 := [(0, ov_r 9), (1, ov_r 4)]) (st2 := [ov_r 9, ov_r 9]) (pc2 := 11) b_108_9_2 rfl rfl ?_
    refine ov_getf (v := ov_i (h 9 1)) d_108_11 fl_History_27 (zb_9 I) (zs_9 I) rfl ?_
    have g3 := rg_9_1 I
    refine ov_blk (ls2 := [(0, ov_r 9), (1, ov_r 4)]) (st2 := [ov_i 16, ov_i (((h 9 1) + 16) - 1), ov_r 9]) (pc2 := 21) b_108_14_5 rfl rfl ?_
    refine ov_irem d_108_21 (by omega) (by omega) (by omega) ?_
    have g4 := ov_tm (a := (((h 9 1) + 16) - 1)) (b := 16) (by omega)
    have g5 := ov_tmg (a := (((h 9 1) + 16) - 1)) (b := 16) (by omega) (by omega)
    refine ov_putf (x := (Int.tmod (((h 9 1) + 16) - 1) 16)) d_108_22 fl_History_27 (zb_9 I) (zs_9 I) rfl nk_0 rfl ?_
    have I6 := up_9_1 (x := (Int.tmod (((h 9 1) + 16) - 1) 16)) I (by omega) (hw 9 (by decide +kernel))
    refine ov_blk (ls2 := [(0, ov_r 9), (1, ov_r 4)]) (st2 := [ov_r 9, ov_r 9]) (pc2 := 27) b_108_25_2 rfl rfl ?_
    refine ov_getf (v := ov_i (h 9 0)) d_108_27 fl_History_23 (zb_9 I6) (zs_9 I6) rfl ?_
    refine ov_blk (ls2 := [(0, ov_r 9), (1, ov_r 4)]) (st2 := [ov_i ((h 9 0) - 1), ov_r 9]) (pc2 := 32) b_108_30_2 rfl rfl ?_
    refine ov_putf (x := ((h 9 0) - 1)) d_108_32 fl_History_23 (zb_9 I6) (zs_9 I6) rfl nk_0 rfl ?_
    have I8 := up_9_0 (x := ((h 9 0) - 1)) I6 (by omega) (hw 9 (by decide +kernel))
    refine ov_blk (ls2 := [(0, ov_r 9), (1, ov_r 4)]) (st2 := [ov_r 9, ov_r 4]) (pc2 := 37) b_108_35_2 rfl rfl ?_
    refine ov_getf (v := ov_r 10) d_108_37 fl_History_9 (zb_9 I8) (zs_9 I8) (congrArg ov_r (rg_9_2 I8)) ?_
    refine ov_blk (ls2 := [(0, ov_r 9), (1, ov_r 4)]) (st2 := [ov_r 9, ov_r 10, ov_r 4]) (pc2 := 41) b_108_40_1 rfl rfl ?_
    refine ov_getf (v := ov_i (Int.tmod (((h 9 1) + 16) - 1) 16)) d_108_41 fl_History_27 (zb_9 I8) (zs_9 I8) rfl ?_
    refine ov_iald d_108_44 (zb_10 I8) (zs_10 I8) (by omega) ?_
    show ov_R u d ov_m108 45 [(0, ov_r 9), (1, ov_r 4)] [ov_i (h 10 (Int.tmod (((h 9 1) + 16) - 1) 16)), ov_r 4] z (ov_up (ov_up h 9 1 (Int.tmod (((h 9 1) + 16) - 1) 16)) 9 0 ((h 9 0) - 1)) (P_History_giveBack_9_4_t F z h)
    have g9 := ra_10 I (Int.tmod (((h 9 1) + 16) - 1) 16)
    refine ov_putf (x := (h 10 (Int.tmod (((h 9 1) + 16) - 1) 16))) d_108_45 fl_History_30 (zb_4 I8) (zs_4 I8) rfl nk_0 rfl ?_
    have I10 := up_4_0 (x := (h 10 (Int.tmod (((h 9 1) + 16) - 1) 16))) I8 (by omega) (hw 4 (by decide +kernel))
    refine ov_blk (ls2 := [(0, ov_r 9), (1, ov_r 4)]) (st2 := [ov_r 9, ov_r 4]) (pc2 := 50) b_108_48_2 rfl rfl ?_
    refine ov_getf (v := ov_r 11) d_108_50 fl_History_13 (zb_9 I10) (zs_9 I10) (congrArg ov_r (rg_9_3 I10)) ?_
    refine ov_blk (ls2 := [(0, ov_r 9), (1, ov_r 4)]) (st2 := [ov_r 9, ov_r 11, ov_r 4]) (pc2 := 54) b_108_53_1 rfl rfl ?_
    refine ov_getf (v := ov_i (Int.tmod (((h 9 1) + 16) - 1) 16)) d_108_54 fl_History_27 (zb_9 I10) (zs_9 I10) rfl ?_
    refine ov_iald d_108_57 (zb_11 I10) (zs_11 I10) (by omega) ?_
    show ov_R u d ov_m108 58 [(0, ov_r 9), (1, ov_r 4)] [ov_i (h 11 (Int.tmod (((h 9 1) + 16) - 1) 16)), ov_r 4] z (ov_up (ov_up (ov_up h 9 1 (Int.tmod (((h 9 1) + 16) - 1) 16)) 9 0 ((h 9 0) - 1)) 4 0 (h 10 (Int.tmod (((h 9 1) + 16) - 1) 16))) (P_History_giveBack_9_4_t F z h)
    have g11 := ra_11 I (Int.tmod (((h 9 1) + 16) - 1) 16)
    refine ov_putf (x := (h 11 (Int.tmod (((h 9 1) + 16) - 1) 16))) d_108_58 fl_History_35 (zb_4 I10) (zs_4 I10) rfl nk_0 rfl ?_
    have I12 := up_4_1 (x := (h 11 (Int.tmod (((h 9 1) + 16) - 1) 16))) I10 (by omega) (hw 4 (by decide +kernel))
    refine ov_blk (ls2 := [(0, ov_r 9), (1, ov_r 4)]) (st2 := [ov_r 9, ov_r 4]) (pc2 := 63) b_108_61_2 rfl rfl ?_
    refine ov_getf (v := ov_r 12) d_108_63 fl_History_16 (zb_9 I12) (zs_9 I12) (congrArg ov_r (rg_9_4 I12)) ?_
    refine ov_blk (ls2 := [(0, ov_r 9), (1, ov_r 4)]) (st2 := [ov_r 9, ov_r 12, ov_r 4]) (pc2 := 67) b_108_66_1 rfl rfl ?_
    refine ov_getf (v := ov_i (Int.tmod (((h 9 1) + 16) - 1) 16)) d_108_67 fl_History_27 (zb_9 I12) (zs_9 I12) rfl ?_
    refine ov_iald d_108_70 (zb_12 I12) (zs_12 I12) (by omega) ?_
    show ov_R u d ov_m108 71 [(0, ov_r 9), (1, ov_r 4)] [ov_i (h 12 (Int.tmod (((h 9 1) + 16) - 1) 16)), ov_r 4] z (ov_up (ov_up (ov_up (ov_up h 9 1 (Int.tmod (((h 9 1) + 16) - 1) 16)) 9 0 ((h 9 0) - 1)) 4 0 (h 10 (Int.tmod (((h 9 1) + 16) - 1) 16))) 4 1 (h 11 (Int.tmod (((h 9 1) + 16) - 1) 16))) (P_History_giveBack_9_4_t F z h)
    have g13 := ra_12 I (Int.tmod (((h 9 1) + 16) - 1) 16)
    refine ov_putf (x := (h 12 (Int.tmod (((h 9 1) + 16) - 1) 16))) d_108_71 fl_History_38 (zb_4 I12) (zs_4 I12) rfl nk_0 rfl ?_
    have I14 := up_4_2 (x := (h 12 (Int.tmod (((h 9 1) + 16) - 1) 16))) I12 (by omega) (hw 4 (by decide +kernel))
    refine ov_blk (ls2 := [(0, ov_r 9), (1, ov_r 4)]) (st2 := [ov_r 9, ov_r 4]) (pc2 := 76) b_108_74_2 rfl rfl ?_
    refine ov_getf (v := ov_r 13) d_108_76 fl_History_19 (zb_9 I14) (zs_9 I14) (congrArg ov_r (rg_9_5 I14)) ?_
    refine ov_blk (ls2 := [(0, ov_r 9), (1, ov_r 4)]) (st2 := [ov_r 9, ov_r 13, ov_r 4]) (pc2 := 80) b_108_79_1 rfl rfl ?_
    refine ov_getf (v := ov_i (Int.tmod (((h 9 1) + 16) - 1) 16)) d_108_80 fl_History_27 (zb_9 I14) (zs_9 I14) rfl ?_
    refine ov_lald d_108_83 (zb_13 I14) (zs_13 I14) (by omega) ?_
    show ov_R u d ov_m108 84 [(0, ov_r 9), (1, ov_r 4)] [ov_l (h 13 (Int.tmod (((h 9 1) + 16) - 1) 16)), ov_r 4] z (ov_up (ov_up (ov_up (ov_up (ov_up h 9 1 (Int.tmod (((h 9 1) + 16) - 1) 16)) 9 0 ((h 9 0) - 1)) 4 0 (h 10 (Int.tmod (((h 9 1) + 16) - 1) 16))) 4 1 (h 11 (Int.tmod (((h 9 1) + 16) - 1) 16))) 4 2 (h 12 (Int.tmod (((h 9 1) + 16) - 1) 16))) (P_History_giveBack_9_4_t F z h)
    refine ov_putf (x := (h 13 (Int.tmod (((h 9 1) + 16) - 1) 16))) d_108_84 fl_History_40 (zb_4 I14) (zs_4 I14) rfl nk_1 rfl ?_
    have I15 := up_4_3 (x := (h 13 (Int.tmod (((h 9 1) + 16) - 1) 16))) I14 (hw 4 (by decide +kernel))
    refine ov_blk (ls2 := [(0, ov_r 9), (1, ov_r 4)]) (st2 := [ov_i 1]) (pc2 := 88) b_108_87_1 rfl rfl ?_
    have et : (Int.tmod (((h 9 1) + 16) - 1) 16) = (h 9 1 + 15) % 16 := by omega
    exact ov_retz (st := []) d_108_88 rfl (by omega) ⟨_, rfl, I15, (by show (1 = 0 ∨ 1 = 1) ∧ (h 36 7) = (h 36 7) ∧ (h 1 1) = (h 1 1) ∧ (h 90 2) = (h 90 2) ∧ (h 0 10) = (h 0 10) ∧ (h 0 11) = (h 0 11) ∧ (h 0 12) = (h 0 12) ∧ (h 0 13) = (h 0 13) ∧ (h 3 1) = (h 3 1) ∧ (h 36 8) = (h 36 8) ∧ (h 46 3) = (h 46 3) ∧ (h 46 4) = (h 46 4) ∧ (h 49 4) = (h 49 4) ∧ (h 49 5) = (h 49 5) ∧ (h 64 0) = (h 64 0) ∧ (h 76 0) = (h 76 0); omega), (Or.inr ⟨rfl, (by omega), ⟨(by show (Int.tmod (((h 9 1) + 16) - 1) 16) = _; omega), (by show ((h 9 0) - 1) = _; omega), (by show (h 10 (Int.tmod (((h 9 1) + 16) - 1) 16)) = _; rw [et]), (by show (h 11 (Int.tmod (((h 9 1) + 16) - 1) 16)) = _; rw [et]), (by show (h 12 (Int.tmod (((h 9 1) + 16) - 1) 16)) = _; rw [et]), (by show (h 13 (Int.tmod (((h 9 1) + 16) - 1) 16)) = _; rw [et]), rfl, rfl⟩⟩)⟩
  · skip
    refine ov_blk (ls2 := [(0, ov_r 9), (1, ov_r 4)]) (st2 := [ov_i 0]) (pc2 := 8) b_108_7_1 rfl rfl ?_
    exact ov_retz (st := []) d_108_8 rfl (by omega) ⟨_, rfl, I, (by show (0 = 0 ∨ 0 = 1) ∧ (h 36 7) = (h 36 7) ∧ (h 1 1) = (h 1 1) ∧ (h 90 2) = (h 90 2) ∧ (h 0 10) = (h 0 10) ∧ (h 0 11) = (h 0 11) ∧ (h 0 12) = (h 0 12) ∧ (h 0 13) = (h 0 13) ∧ (h 3 1) = (h 3 1) ∧ (h 36 8) = (h 36 8) ∧ (h 46 3) = (h 46 3) ∧ (h 46 4) = (h 46 4) ∧ (h 49 4) = (h 49 4) ∧ (h 49 5) = (h 49 5) ∧ (h 64 0) = (h 64 0) ∧ (h 76 0) = (h 76 0); omega), (Or.inl ⟨rfl, (by omega), (fun _ _ => rfl)⟩)⟩
abbrev P_History_clear_9_u (F : ov_H) (z : ov_Z) (h : ov_H)  : Option ov_V → ov_Z → ov_H → Prop := fun r0 z' h' => r0 = none ∧ ov_I F z' h' ∧ ((h' 9 0) = 0 ∧ (h' 9 1) = (h 9 1) ∧ (h' 36 7) = (h 36 7) ∧ (h' 1 1) = (h 1 1) ∧ (h' 90 2) = (h 90 2) ∧ (h' 0 10) = (h 0 10) ∧ (h' 0 11) = (h 0 11) ∧ (h' 0 12) = (h 0 12) ∧ (h' 0 13) = (h 0 13) ∧ (h' 3 1) = (h 3 1) ∧ (h' 36 8) = (h 36 8) ∧ (h' 46 3) = (h 46 3) ∧ (h' 46 4) = (h 46 4) ∧ (h' 49 4) = (h 49 4) ∧ (h' 49 5) = (h 49 5) ∧ (h' 64 0) = (h 64 0) ∧ (h' 76 0) = (h 76 0))
set_option maxHeartbeats 4000000 in
theorem c_History_clear_9_u {u : ov_U} {F : ov_H} {z : ov_Z} {h : ov_H} (d : Nat) (hd : 0 ≤ d) (U : ov_cap u) (I : ov_I F z h) (hw : ov_kw 512 F) : ov_T u d ov_m82 [ov_r 9] z h (P_History_clear_9_u F z h) := by
  refine ov_en rfl (Nat.le_of_ble_eq_true rfl) ?_
  show ov_R u d ov_m82 0 [(0, ov_r 9)] [] z h (P_History_clear_9_u F z h)
  refine ov_blk (ls2 := [(0, ov_r 9)]) (st2 := [ov_i 0, ov_r 9]) (pc2 := 2) b_82_0_2 rfl rfl ?_
  refine ov_putf (x := 0) d_82_2 fl_History_23 (zb_9 I) (zs_9 I) rfl nk_0 rfl ?_
  have I1 := up_9_0 (x := 0) I (by omega) (hw 9 (by decide +kernel))
  exact ov_retv (st := []) d_82_5 rfl ⟨rfl, I1, (by show 0 = 0 ∧ (h 9 1) = (h 9 1) ∧ (h 36 7) = (h 36 7) ∧ (h 1 1) = (h 1 1) ∧ (h 90 2) = (h 90 2) ∧ (h 0 10) = (h 0 10) ∧ (h 0 11) = (h 0 11) ∧ (h 0 12) = (h 0 12) ∧ (h 0 13) = (h 0 13) ∧ (h 3 1) = (h 3 1) ∧ (h 36 8) = (h 36 8) ∧ (h 46 3) = (h 46 3) ∧ (h 46 4) = (h 46 4) ∧ (h 49 4) = (h 49 4) ∧ (h 49 5) = (h 49 5) ∧ (h 64 0) = (h 64 0) ∧ (h 76 0) = (h 76 0); omega)⟩
abbrev P_State_copy_4_15_t (F : ov_H) (z : ov_Z) (h : ov_H)  : Option ov_V → ov_Z → ov_H → Prop := fun r0 z' h' => r0 = none ∧ ov_I F z' h' ∧ ((h' 36 7) = (h 36 7) ∧ (h' 1 1) = (h 1 1) ∧ (h' 90 2) = (h 90 2) ∧ (h' 0 10) = (h 0 10) ∧ (h' 0 11) = (h 0 11) ∧ (h' 0 12) = (h 0 12) ∧ (h' 0 13) = (h 0 13) ∧ (h' 3 1) = (h 3 1) ∧ (h' 36 8) = (h 36 8) ∧ (h' 46 3) = (h 46 3) ∧ (h' 46 4) = (h 46 4) ∧ (h' 49 4) = (h 49 4) ∧ (h' 49 5) = (h 49 5) ∧ (h' 64 0) = (h 64 0) ∧ (h' 76 0) = (h 76 0)) ∧ (st_C (h' 4) (h' 5) (h' 6) (h' 7) (h' 8) (h 15) (h 16) (h 17) (h 18) (h 19))
set_option maxHeartbeats 4000000 in
theorem c_State_copy_4_15_t {u : ov_U} {F : ov_H} {z : ov_Z} {h : ov_H} (d : Nat) (hd : 2 ≤ d) (U : ov_cap u) (I : ov_I F z h) (hw : ov_kw 496 F) : ov_T u d ov_m197 [ov_r 4, ov_r 15] z h (P_State_copy_4_15_t F z h) := by
  refine ov_en rfl (Nat.le_of_ble_eq_true rfl) ?_
  show ov_R u d ov_m197 0 [(0, ov_r 4), (1, ov_r 15)] [] z h (P_State_copy_4_15_t F z h)
  refine ov_blk (ls2 := [(0, ov_r 4), (1, ov_r 15)]) (st2 := [ov_r 15, ov_r 4]) (pc2 := 2) b_197_0_2 rfl rfl ?_
  refine ov_getf (v := ov_i (h 15 0)) d_197_2 fl_State_24 (zb_15 I) (zs_15 I) rfl ?_
  have g1 := rg_15_0 I
  refine ov_putf (x := (h 15 0)) d_197_5 fl_State_24 (zb_4 I) (zs_4 I) rfl nk_0 rfl ?_
  have I2 := up_4_0 (x := (h 15 0)) I (by omega) (hw 4 (by decide +kernel))
  refine ov_blk (ls2 := [(0, ov_r 4), (1, ov_r 15)]) (st2 := [ov_r 15, ov_r 4]) (pc2 := 10) b_197_8_2 rfl rfl ?_
  refine ov_getf (v := ov_i (h 15 1)) d_197_10 fl_State_28 (zb_15 I2) (zs_15 I2) rfl ?_
  have g3 := rg_15_1 I
  refine ov_putf (x := (h 15 1)) d_197_13 fl_State_28 (zb_4 I2) (zs_4 I2) rfl nk_0 rfl ?_
  have I4 := up_4_1 (x := (h 15 1)) I2 (by omega) (hw 4 (by decide +kernel))
  refine ov_blk (ls2 := [(0, ov_r 4), (1, ov_r 15)]) (st2 := [ov_r 15, ov_r 4]) (pc2 := 18) b_197_16_2 rfl rfl ?_
  refine ov_getf (v := ov_i (h 15 2)) d_197_18 fl_State_31 (zb_15 I4) (zs_15 I4) rfl ?_
  have g5 := rg_15_2 I
  refine ov_putf (x := (h 15 2)) d_197_21 fl_State_31 (zb_4 I4) (zs_4 I4) rfl nk_0 rfl ?_
  have I6 := up_4_2 (x := (h 15 2)) I4 (by omega) (hw 4 (by decide +kernel))
  refine ov_blk (ls2 := [(0, ov_r 4), (1, ov_r 15)]) (st2 := [ov_r 15, ov_r 4]) (pc2 := 26) b_197_24_2 rfl rfl ?_
  refine ov_getf (v := ov_l (h 15 3)) d_197_26 fl_State_34 (zb_15 I6) (zs_15 I6) rfl ?_
  refine ov_putf (x := (h 15 3)) d_197_29 fl_State_34 (zb_4 I6) (zs_4 I6) rfl nk_1 rfl ?_
  have I7 := up_4_3 (x := (h 15 3)) I6 (hw 4 (by decide +kernel))
  refine ov_blk (ls2 := [(0, ov_r 4), (1, ov_r 15)]) (st2 := [ov_r 15, ov_r 4]) (pc2 := 34) b_197_32_2 rfl rfl ?_
  refine ov_getf (v := ov_i (h 15 4)) d_197_34 fl_State_38 (zb_15 I7) (zs_15 I7) rfl ?_
  have g8 := rg_15_4 I
  refine ov_putf (x := (h 15 4)) d_197_37 fl_State_38 (zb_4 I7) (zs_4 I7) rfl nk_0 rfl ?_
  have I9 := up_4_4 (x := (h 15 4)) I7 (by omega) (hw 4 (by decide +kernel))
  refine ov_blk (ls2 := [(0, ov_r 4), (1, ov_r 15)]) (st2 := [ov_r 15, ov_r 4]) (pc2 := 42) b_197_40_2 rfl rfl ?_
  refine ov_getf (v := ov_i (h 15 5)) d_197_42 fl_State_41 (zb_15 I9) (zs_15 I9) rfl ?_
  have g10 := rg_15_5 I
  refine ov_putf (x := (h 15 5)) d_197_45 fl_State_41 (zb_4 I9) (zs_4 I9) rfl nk_0 rfl ?_
  have I11 := up_4_5 (x := (h 15 5)) I9 (by omega) (hw 4 (by decide +kernel))
  refine ov_blk (ls2 := [(0, ov_r 4), (1, ov_r 15)]) (st2 := [ov_r 15]) (pc2 := 49) b_197_48_1 rfl rfl ?_
  refine ov_getf (v := ov_r 16) d_197_49 fl_State_11 (zb_15 I11) (zs_15 I11) (congrArg ov_r (rg_15_6 I11)) ?_
  refine ov_blk (ls2 := [(0, ov_r 4), (1, ov_r 15)]) (st2 := [ov_r 4, ov_i 0, ov_r 16]) (pc2 := 54) b_197_52_2 rfl rfl ?_
  refine ov_getf (v := ov_r 5) d_197_54 fl_State_11 (zb_4 I11) (zs_4 I11) (congrArg ov_r (rg_4_6 I11)) ?_
  refine ov_blk (ls2 := [(0, ov_r 4), (1, ov_r 15)]) (st2 := [ov_i 10, ov_i 0, ov_r 5, ov_i 0, ov_r 16]) (pc2 := 60) b_197_57_2 rfl rfl ?_
  refine ov_acp d_197_60 la_State_44 la_1 la_2 la_3 (zb_16 I11) (zs_16 I11) (zb_5 I11) (zs_5 I11) (by omega) (Nat.le_of_ble_eq_true rfl) (by omega) ?_
  have I12 := ov_I_cp (s := 16) (t := 5) (n := 10) I11 (by decide) (fun k => ra_16 I11 k) (fun _ => (hw 5 (by decide +kernel)))
  refine ov_blk (ls2 := [(0, ov_r 4), (1, ov_r 15)]) (st2 := [ov_r 15]) (pc2 := 64) b_197_63_1 rfl rfl ?_
  refine ov_getf (v := ov_r 17) d_197_64 fl_State_15 (zb_15 I12) (zs_15 I12) (congrArg ov_r (rg_15_7 I12)) ?_
  refine ov_blk (ls2 := [(0, ov_r 4), (1, ov_r 15)]) (st2 := [ov_r 4, ov_i 0, ov_r 17]) (pc2 := 69) b_197_67_2 rfl rfl ?_
  refine ov_getf (v := ov_r 6) d_197_69 fl_State_15 (zb_4 I12) (zs_4 I12) (congrArg ov_r (rg_4_7 I12)) ?_
  refine ov_blk (ls2 := [(0, ov_r 4), (1, ov_r 15)]) (st2 := [ov_i 10, ov_i 0, ov_r 6, ov_i 0, ov_r 17]) (pc2 := 75) b_197_72_2 rfl rfl ?_
  refine ov_acp d_197_75 la_State_44 la_1 la_2 la_3 (zb_17 I12) (zs_17 I12) (zb_6 I12) (zs_6 I12) (by omega) (Nat.le_of_ble_eq_true rfl) (by omega) ?_
  have I13 := ov_I_cp (s := 17) (t := 6) (n := 10) I12 (by decide) (fun k => ra_17 I12 k) (fun _ => (hw 6 (by decide +kernel)))
  refine ov_blk (ls2 := [(0, ov_r 4), (1, ov_r 15)]) (st2 := [ov_r 15]) (pc2 := 79) b_197_78_1 rfl rfl ?_
  refine ov_getf (v := ov_r 18) d_197_79 fl_State_18 (zb_15 I13) (zs_15 I13) (congrArg ov_r (rg_15_8 I13)) ?_
  refine ov_blk (ls2 := [(0, ov_r 4), (1, ov_r 15)]) (st2 := [ov_r 4, ov_i 0, ov_r 18]) (pc2 := 84) b_197_82_2 rfl rfl ?_
  refine ov_getf (v := ov_r 7) d_197_84 fl_State_18 (zb_4 I13) (zs_4 I13) (congrArg ov_r (rg_4_8 I13)) ?_
  refine ov_blk (ls2 := [(0, ov_r 4), (1, ov_r 15)]) (st2 := [ov_i 8, ov_i 0, ov_r 7, ov_i 0, ov_r 18]) (pc2 := 90) b_197_87_2 rfl rfl ?_
  refine ov_acp d_197_90 la_State_44 la_1 la_2 la_3 (zb_18 I13) (zs_18 I13) (zb_7 I13) (zs_7 I13) (by omega) (Nat.le_of_ble_eq_true rfl) (by omega) ?_
  have I14 := ov_I_cp (s := 18) (t := 7) (n := 8) I13 (by decide) (fun k => ra_18 I13 k) (fun _ => (hw 7 (by decide +kernel)))
  refine ov_blk (ls2 := [(0, ov_r 4), (1, ov_r 15)]) (st2 := [ov_r 15]) (pc2 := 94) b_197_93_1 rfl rfl ?_
  refine ov_getf (v := ov_r 19) d_197_94 fl_State_21 (zb_15 I14) (zs_15 I14) (congrArg ov_r (rg_15_9 I14)) ?_
  refine ov_blk (ls2 := [(0, ov_r 4), (1, ov_r 15)]) (st2 := [ov_r 4, ov_i 0, ov_r 19]) (pc2 := 99) b_197_97_2 rfl rfl ?_
  refine ov_getf (v := ov_r 8) d_197_99 fl_State_21 (zb_4 I14) (zs_4 I14) (congrArg ov_r (rg_4_9 I14)) ?_
  refine ov_blk (ls2 := [(0, ov_r 4), (1, ov_r 15)]) (st2 := [ov_i 8, ov_i 0, ov_r 8, ov_i 0, ov_r 19]) (pc2 := 105) b_197_102_2 rfl rfl ?_
  refine ov_acp d_197_105 la_State_44 la_1 la_2 la_3 (zb_19 I14) (zs_19 I14) (zb_8 I14) (zs_8 I14) (by omega) (Nat.le_of_ble_eq_true rfl) (by omega) ?_
  have I15 := ov_I_cp (s := 19) (t := 8) (n := 8) I14 (by decide) (fun k => ra_19 I14 k) (fun _ => (hw 8 (by decide +kernel)))
  exact ov_retv (st := []) d_197_108 rfl ⟨rfl, I15, (by show (h 36 7) = (h 36 7) ∧ (h 1 1) = (h 1 1) ∧ (h 90 2) = (h 90 2) ∧ (h 0 10) = (h 0 10) ∧ (h 0 11) = (h 0 11) ∧ (h 0 12) = (h 0 12) ∧ (h 0 13) = (h 0 13) ∧ (h 3 1) = (h 3 1) ∧ (h 36 8) = (h 36 8) ∧ (h 46 3) = (h 46 3) ∧ (h 46 4) = (h 46 4) ∧ (h 49 4) = (h 49 4) ∧ (h 49 5) = (h 49 5) ∧ (h 64 0) = (h 64 0) ∧ (h 76 0) = (h 76 0); omega), ⟨⟨rfl, rfl, rfl, rfl, rfl, rfl⟩, (fun i h0 h1 => by show (ov_cp (ov_cp (ov_cp (ov_cp (ov_up (ov_up (ov_up (ov_up (ov_up (ov_up h 4 0 (h 15 0)) 4 1 (h 15 1)) 4 2 (h 15 2)) 4 3 (h 15 3)) 4 4 (h 15 4)) 4 5 (h 15 5)) 16 5 10) 17 6 10) 18 7 8) 19 8 8) 5 i = h 16 i; rw [ov_cp_ne (by decide), ov_cp_ne (by decide), ov_cp_ne (by decide)]; exact ov_cp_i h0 h1), (fun i h0 h1 => by show (ov_cp (ov_cp (ov_cp (ov_cp (ov_up (ov_up (ov_up (ov_up (ov_up (ov_up h 4 0 (h 15 0)) 4 1 (h 15 1)) 4 2 (h 15 2)) 4 3 (h 15 3)) 4 4 (h 15 4)) 4 5 (h 15 5)) 16 5 10) 17 6 10) 18 7 8) 19 8 8) 6 i = h 17 i; rw [ov_cp_ne (by decide), ov_cp_ne (by decide)]; exact ov_cp_i h0 h1), (fun i h0 h1 => by show (ov_cp (ov_cp (ov_cp (ov_cp (ov_up (ov_up (ov_up (ov_up (ov_up (ov_up h 4 0 (h 15 0)) 4 1 (h 15 1)) 4 2 (h 15 2)) 4 3 (h 15 3)) 4 4 (h 15 4)) 4 5 (h 15 5)) 16 5 10) 17 6 10) 18 7 8) 19 8 8) 7 i = h 18 i; rw [ov_cp_ne (by decide)]; exact ov_cp_i h0 h1), (fun i h0 h1 => by show (ov_cp (ov_cp (ov_cp (ov_cp (ov_up (ov_up (ov_up (ov_up (ov_up (ov_up h 4 0 (h 15 0)) 4 1 (h 15 1)) 4 2 (h 15 2)) 4 3 (h 15 3)) 4 4 (h 15 4)) 4 5 (h 15 5)) 16 5 10) 17 6 10) 18 7 8) 19 8 8) 8 i = h 19 i; exact ov_cp_i h0 h1)⟩⟩
abbrev P_State_copy_4_20_t (F : ov_H) (z : ov_Z) (h : ov_H)  : Option ov_V → ov_Z → ov_H → Prop := fun r0 z' h' => r0 = none ∧ ov_I F z' h' ∧ ((h' 36 7) = (h 36 7) ∧ (h' 1 1) = (h 1 1) ∧ (h' 90 2) = (h 90 2) ∧ (h' 0 10) = (h 0 10) ∧ (h' 0 11) = (h 0 11) ∧ (h' 0 12) = (h 0 12) ∧ (h' 0 13) = (h 0 13) ∧ (h' 3 1) = (h 3 1) ∧ (h' 36 8) = (h 36 8) ∧ (h' 46 3) = (h 46 3) ∧ (h' 46 4) = (h 46 4) ∧ (h' 49 4) = (h 49 4) ∧ (h' 49 5) = (h 49 5) ∧ (h' 64 0) = (h 64 0) ∧ (h' 76 0) = (h 76 0)) ∧ (st_C (h' 4) (h' 5) (h' 6) (h' 7) (h' 8) (h 20) (h 21) (h 22) (h 23) (h 24))
set_option maxHeartbeats 4000000 in
theorem c_State_copy_4_20_t {u : ov_U} {F : ov_H} {z : ov_Z} {h : ov_H} (d : Nat) (hd : 2 ≤ d) (U : ov_cap u) (I : ov_I F z h) (hw : ov_kw 496 F) : ov_T u d ov_m197 [ov_r 4, ov_r 20] z h (P_State_copy_4_20_t F z h) := by
  refine ov_en rfl (Nat.le_of_ble_eq_true rfl) ?_
  show ov_R u d ov_m197 0 [(0, ov_r 4), (1, ov_r 20)] [] z h (P_State_copy_4_20_t F z h)
  refine ov_blk (ls2 := [(0, ov_r 4), (1, ov_r 20)]) (st2 := [ov_r 20, ov_r 4]) (pc2 := 2) b_197_0_2 rfl rfl ?_
  refine ov_getf (v := ov_i (h 20 0)) d_197_2 fl_State_24 (zb_20 I) (zs_20 I) rfl ?_
  have g1 := rg_20_0 I
  refine ov_putf (x := (h 20 0)) d_197_5 fl_State_24 (zb_4 I) (zs_4 I) rfl nk_0 rfl ?_
  have I2 := up_4_0 (x := (h 20 0)) I (by omega) (hw 4 (by decide +kernel))
  refine ov_blk (ls2 := [(0, ov_r 4), (1, ov_r 20)]) (st2 := [ov_r 20, ov_r 4]) (pc2 := 10) b_197_8_2 rfl rfl ?_
  refine ov_getf (v := ov_i (h 20 1)) d_197_10 fl_State_28 (zb_20 I2) (zs_20 I2) rfl ?_
  have g3 := rg_20_1 I
  refine ov_putf (x := (h 20 1)) d_197_13 fl_State_28 (zb_4 I2) (zs_4 I2) rfl nk_0 rfl ?_
  have I4 := up_4_1 (x := (h 20 1)) I2 (by omega) (hw 4 (by decide +kernel))
  refine ov_blk (ls2 := [(0, ov_r 4), (1, ov_r 20)]) (st2 := [ov_r 20, ov_r 4]) (pc2 := 18) b_197_16_2 rfl rfl ?_
  refine ov_getf (v := ov_i (h 20 2)) d_197_18 fl_State_31 (zb_20 I4) (zs_20 I4) rfl ?_
  have g5 := rg_20_2 I
  refine ov_putf (x := (h 20 2)) d_197_21 fl_State_31 (zb_4 I4) (zs_4 I4) rfl nk_0 rfl ?_
  have I6 := up_4_2 (x := (h 20 2)) I4 (by omega) (hw 4 (by decide +kernel))
  refine ov_blk (ls2 := [(0, ov_r 4), (1, ov_r 20)]) (st2 := [ov_r 20, ov_r 4]) (pc2 := 26) b_197_24_2 rfl rfl ?_
  refine ov_getf (v := ov_l (h 20 3)) d_197_26 fl_State_34 (zb_20 I6) (zs_20 I6) rfl ?_
  refine ov_putf (x := (h 20 3)) d_197_29 fl_State_34 (zb_4 I6) (zs_4 I6) rfl nk_1 rfl ?_
  have I7 := up_4_3 (x := (h 20 3)) I6 (hw 4 (by decide +kernel))
  refine ov_blk (ls2 := [(0, ov_r 4), (1, ov_r 20)]) (st2 := [ov_r 20, ov_r 4]) (pc2 := 34) b_197_32_2 rfl rfl ?_
  refine ov_getf (v := ov_i (h 20 4)) d_197_34 fl_State_38 (zb_20 I7) (zs_20 I7) rfl ?_
  have g8 := rg_20_4 I
  refine ov_putf (x := (h 20 4)) d_197_37 fl_State_38 (zb_4 I7) (zs_4 I7) rfl nk_0 rfl ?_
  have I9 := up_4_4 (x := (h 20 4)) I7 (by omega) (hw 4 (by decide +kernel))
  refine ov_blk (ls2 := [(0, ov_r 4), (1, ov_r 20)]) (st2 := [ov_r 20, ov_r 4]) (pc2 := 42) b_197_40_2 rfl rfl ?_
  refine ov_getf (v := ov_i (h 20 5)) d_197_42 fl_State_41 (zb_20 I9) (zs_20 I9) rfl ?_
  have g10 := rg_20_5 I
  refine ov_putf (x := (h 20 5)) d_197_45 fl_State_41 (zb_4 I9) (zs_4 I9) rfl nk_0 rfl ?_
  have I11 := up_4_5 (x := (h 20 5)) I9 (by omega) (hw 4 (by decide +kernel))
  refine ov_blk (ls2 := [(0, ov_r 4), (1, ov_r 20)]) (st2 := [ov_r 20]) (pc2 := 49) b_197_48_1 rfl rfl ?_
  refine ov_getf (v := ov_r 21) d_197_49 fl_State_11 (zb_20 I11) (zs_20 I11) (congrArg ov_r (rg_20_6 I11)) ?_
  refine ov_blk (ls2 := [(0, ov_r 4), (1, ov_r 20)]) (st2 := [ov_r 4, ov_i 0, ov_r 21]) (pc2 := 54) b_197_52_2 rfl rfl ?_
  refine ov_getf (v := ov_r 5) d_197_54 fl_State_11 (zb_4 I11) (zs_4 I11) (congrArg ov_r (rg_4_6 I11)) ?_
  refine ov_blk (ls2 := [(0, ov_r 4), (1, ov_r 20)]) (st2 := [ov_i 10, ov_i 0, ov_r 5, ov_i 0, ov_r 21]) (pc2 := 60) b_197_57_2 rfl rfl ?_
  refine ov_acp d_197_60 la_State_44 la_1 la_2 la_3 (zb_21 I11) (zs_21 I11) (zb_5 I11) (zs_5 I11) (by omega) (Nat.le_of_ble_eq_true rfl) (by omega) ?_
  have I12 := ov_I_cp (s := 21) (t := 5) (n := 10) I11 (by decide) (fun k => ra_21 I11 k) (fun _ => (hw 5 (by decide +kernel)))
  refine ov_blk (ls2 := [(0, ov_r 4), (1, ov_r 20)]) (st2 := [ov_r 20]) (pc2 := 64) b_197_63_1 rfl rfl ?_
  refine ov_getf (v := ov_r 22) d_197_64 fl_State_15 (zb_20 I12) (zs_20 I12) (congrArg ov_r (rg_20_7 I12)) ?_
  refine ov_blk (ls2 := [(0, ov_r 4), (1, ov_r 20)]) (st2 := [ov_r 4, ov_i 0, ov_r 22]) (pc2 := 69) b_197_67_2 rfl rfl ?_
  refine ov_getf (v := ov_r 6) d_197_69 fl_State_15 (zb_4 I12) (zs_4 I12) (congrArg ov_r (rg_4_7 I12)) ?_
  refine ov_blk (ls2 := [(0, ov_r 4), (1, ov_r 20)]) (st2 := [ov_i 10, ov_i 0, ov_r 6, ov_i 0, ov_r 22]) (pc2 := 75) b_197_72_2 rfl rfl ?_
  refine ov_acp d_197_75 la_State_44 la_1 la_2 la_3 (zb_22 I12) (zs_22 I12) (zb_6 I12) (zs_6 I12) (by omega) (Nat.le_of_ble_eq_true rfl) (by omega) ?_
  have I13 := ov_I_cp (s := 22) (t := 6) (n := 10) I12 (by decide) (fun k => ra_22 I12 k) (fun _ => (hw 6 (by decide +kernel)))
  refine ov_blk (ls2 := [(0, ov_r 4), (1, ov_r 20)]) (st2 := [ov_r 20]) (pc2 := 79) b_197_78_1 rfl rfl ?_
  refine ov_getf (v := ov_r 23) d_197_79 fl_State_18 (zb_20 I13) (zs_20 I13) (congrArg ov_r (rg_20_8 I13)) ?_
  refine ov_blk (ls2 := [(0, ov_r 4), (1, ov_r 20)]) (st2 := [ov_r 4, ov_i 0, ov_r 23]) (pc2 := 84) b_197_82_2 rfl rfl ?_
  refine ov_getf (v := ov_r 7) d_197_84 fl_State_18 (zb_4 I13) (zs_4 I13) (congrArg ov_r (rg_4_8 I13)) ?_
  refine ov_blk (ls2 := [(0, ov_r 4), (1, ov_r 20)]) (st2 := [ov_i 8, ov_i 0, ov_r 7, ov_i 0, ov_r 23]) (pc2 := 90) b_197_87_2 rfl rfl ?_
  refine ov_acp d_197_90 la_State_44 la_1 la_2 la_3 (zb_23 I13) (zs_23 I13) (zb_7 I13) (zs_7 I13) (by omega) (Nat.le_of_ble_eq_true rfl) (by omega) ?_
  have I14 := ov_I_cp (s := 23) (t := 7) (n := 8) I13 (by decide) (fun k => ra_23 I13 k) (fun _ => (hw 7 (by decide +kernel)))
  refine ov_blk (ls2 := [(0, ov_r 4), (1, ov_r 20)]) (st2 := [ov_r 20]) (pc2 := 94) b_197_93_1 rfl rfl ?_
  refine ov_getf (v := ov_r 24) d_197_94 fl_State_21 (zb_20 I14) (zs_20 I14) (congrArg ov_r (rg_20_9 I14)) ?_
  refine ov_blk (ls2 := [(0, ov_r 4), (1, ov_r 20)]) (st2 := [ov_r 4, ov_i 0, ov_r 24]) (pc2 := 99) b_197_97_2 rfl rfl ?_
  refine ov_getf (v := ov_r 8) d_197_99 fl_State_21 (zb_4 I14) (zs_4 I14) (congrArg ov_r (rg_4_9 I14)) ?_
  refine ov_blk (ls2 := [(0, ov_r 4), (1, ov_r 20)]) (st2 := [ov_i 8, ov_i 0, ov_r 8, ov_i 0, ov_r 24]) (pc2 := 105) b_197_102_2 rfl rfl ?_
  refine ov_acp d_197_105 la_State_44 la_1 la_2 la_3 (zb_24 I14) (zs_24 I14) (zb_8 I14) (zs_8 I14) (by omega) (Nat.le_of_ble_eq_true rfl) (by omega) ?_
  have I15 := ov_I_cp (s := 24) (t := 8) (n := 8) I14 (by decide) (fun k => ra_24 I14 k) (fun _ => (hw 8 (by decide +kernel)))
  exact ov_retv (st := []) d_197_108 rfl ⟨rfl, I15, (by show (h 36 7) = (h 36 7) ∧ (h 1 1) = (h 1 1) ∧ (h 90 2) = (h 90 2) ∧ (h 0 10) = (h 0 10) ∧ (h 0 11) = (h 0 11) ∧ (h 0 12) = (h 0 12) ∧ (h 0 13) = (h 0 13) ∧ (h 3 1) = (h 3 1) ∧ (h 36 8) = (h 36 8) ∧ (h 46 3) = (h 46 3) ∧ (h 46 4) = (h 46 4) ∧ (h 49 4) = (h 49 4) ∧ (h 49 5) = (h 49 5) ∧ (h 64 0) = (h 64 0) ∧ (h 76 0) = (h 76 0); omega), ⟨⟨rfl, rfl, rfl, rfl, rfl, rfl⟩, (fun i h0 h1 => by show (ov_cp (ov_cp (ov_cp (ov_cp (ov_up (ov_up (ov_up (ov_up (ov_up (ov_up h 4 0 (h 20 0)) 4 1 (h 20 1)) 4 2 (h 20 2)) 4 3 (h 20 3)) 4 4 (h 20 4)) 4 5 (h 20 5)) 21 5 10) 22 6 10) 23 7 8) 24 8 8) 5 i = h 21 i; rw [ov_cp_ne (by decide), ov_cp_ne (by decide), ov_cp_ne (by decide)]; exact ov_cp_i h0 h1), (fun i h0 h1 => by show (ov_cp (ov_cp (ov_cp (ov_cp (ov_up (ov_up (ov_up (ov_up (ov_up (ov_up h 4 0 (h 20 0)) 4 1 (h 20 1)) 4 2 (h 20 2)) 4 3 (h 20 3)) 4 4 (h 20 4)) 4 5 (h 20 5)) 21 5 10) 22 6 10) 23 7 8) 24 8 8) 6 i = h 22 i; rw [ov_cp_ne (by decide), ov_cp_ne (by decide)]; exact ov_cp_i h0 h1), (fun i h0 h1 => by show (ov_cp (ov_cp (ov_cp (ov_cp (ov_up (ov_up (ov_up (ov_up (ov_up (ov_up h 4 0 (h 20 0)) 4 1 (h 20 1)) 4 2 (h 20 2)) 4 3 (h 20 3)) 4 4 (h 20 4)) 4 5 (h 20 5)) 21 5 10) 22 6 10) 23 7 8) 24 8 8) 7 i = h 23 i; rw [ov_cp_ne (by decide)]; exact ov_cp_i h0 h1), (fun i h0 h1 => by show (ov_cp (ov_cp (ov_cp (ov_cp (ov_up (ov_up (ov_up (ov_up (ov_up (ov_up h 4 0 (h 20 0)) 4 1 (h 20 1)) 4 2 (h 20 2)) 4 3 (h 20 3)) 4 4 (h 20 4)) 4 5 (h 20 5)) 21 5 10) 22 6 10) 23 7 8) 24 8 8) 8 i = h 24 i; exact ov_cp_i h0 h1)⟩⟩
abbrev P_State_copy_4_25_t (F : ov_H) (z : ov_Z) (h : ov_H)  : Option ov_V → ov_Z → ov_H → Prop := fun r0 z' h' => r0 = none ∧ ov_I F z' h' ∧ ((h' 36 7) = (h 36 7) ∧ (h' 1 1) = (h 1 1) ∧ (h' 90 2) = (h 90 2) ∧ (h' 0 10) = (h 0 10) ∧ (h' 0 11) = (h 0 11) ∧ (h' 0 12) = (h 0 12) ∧ (h' 0 13) = (h 0 13) ∧ (h' 3 1) = (h 3 1) ∧ (h' 36 8) = (h 36 8) ∧ (h' 46 3) = (h 46 3) ∧ (h' 46 4) = (h 46 4) ∧ (h' 49 4) = (h 49 4) ∧ (h' 49 5) = (h 49 5) ∧ (h' 64 0) = (h 64 0) ∧ (h' 76 0) = (h 76 0)) ∧ (st_C (h' 4) (h' 5) (h' 6) (h' 7) (h' 8) (h 25) (h 26) (h 27) (h 28) (h 29))
set_option maxHeartbeats 4000000 in
theorem c_State_copy_4_25_t {u : ov_U} {F : ov_H} {z : ov_Z} {h : ov_H} (d : Nat) (hd : 2 ≤ d) (U : ov_cap u) (I : ov_I F z h) (hw : ov_kw 496 F) : ov_T u d ov_m197 [ov_r 4, ov_r 25] z h (P_State_copy_4_25_t F z h) := by
  refine ov_en rfl (Nat.le_of_ble_eq_true rfl) ?_
  show ov_R u d ov_m197 0 [(0, ov_r 4), (1, ov_r 25)] [] z h (P_State_copy_4_25_t F z h)
  refine ov_blk (ls2 := [(0, ov_r 4), (1, ov_r 25)]) (st2 := [ov_r 25, ov_r 4]) (pc2 := 2) b_197_0_2 rfl rfl ?_
  refine ov_getf (v := ov_i (h 25 0)) d_197_2 fl_State_24 (zb_25 I) (zs_25 I) rfl ?_
  have g1 := rg_25_0 I
  refine ov_putf (x := (h 25 0)) d_197_5 fl_State_24 (zb_4 I) (zs_4 I) rfl nk_0 rfl ?_
  have I2 := up_4_0 (x := (h 25 0)) I (by omega) (hw 4 (by decide +kernel))
  refine ov_blk (ls2 := [(0, ov_r 4), (1, ov_r 25)]) (st2 := [ov_r 25, ov_r 4]) (pc2 := 10) b_197_8_2 rfl rfl ?_
  refine ov_getf (v := ov_i (h 25 1)) d_197_10 fl_State_28 (zb_25 I2) (zs_25 I2) rfl ?_
  have g3 := rg_25_1 I
  refine ov_putf (x := (h 25 1)) d_197_13 fl_State_28 (zb_4 I2) (zs_4 I2) rfl nk_0 rfl ?_
  have I4 := up_4_1 (x := (h 25 1)) I2 (by omega) (hw 4 (by decide +kernel))
  refine ov_blk (ls2 := [(0, ov_r 4), (1, ov_r 25)]) (st2 := [ov_r 25, ov_r 4]) (pc2 := 18) b_197_16_2 rfl rfl ?_
  refine ov_getf (v := ov_i (h 25 2)) d_197_18 fl_State_31 (zb_25 I4) (zs_25 I4) rfl ?_
  have g5 := rg_25_2 I
  refine ov_putf (x := (h 25 2)) d_197_21 fl_State_31 (zb_4 I4) (zs_4 I4) rfl nk_0 rfl ?_
  have I6 := up_4_2 (x := (h 25 2)) I4 (by omega) (hw 4 (by decide +kernel))
  refine ov_blk (ls2 := [(0, ov_r 4), (1, ov_r 25)]) (st2 := [ov_r 25, ov_r 4]) (pc2 := 26) b_197_24_2 rfl rfl ?_
  refine ov_getf (v := ov_l (h 25 3)) d_197_26 fl_State_34 (zb_25 I6) (zs_25 I6) rfl ?_
  refine ov_putf (x := (h 25 3)) d_197_29 fl_State_34 (zb_4 I6) (zs_4 I6) rfl nk_1 rfl ?_
  have I7 := up_4_3 (x := (h 25 3)) I6 (hw 4 (by decide +kernel))
  refine ov_blk (ls2 := [(0, ov_r 4), (1, ov_r 25)]) (st2 := [ov_r 25, ov_r 4]) (pc2 := 34) b_197_32_2 rfl rfl ?_
  refine ov_getf (v := ov_i (h 25 4)) d_197_34 fl_State_38 (zb_25 I7) (zs_25 I7) rfl ?_
  have g8 := rg_25_4 I
  refine ov_putf (x := (h 25 4)) d_197_37 fl_State_38 (zb_4 I7) (zs_4 I7) rfl nk_0 rfl ?_
  have I9 := up_4_4 (x := (h 25 4)) I7 (by omega) (hw 4 (by decide +kernel))
  refine ov_blk (ls2 := [(0, ov_r 4), (1, ov_r 25)]) (st2 := [ov_r 25, ov_r 4]) (pc2 := 42) b_197_40_2 rfl rfl ?_
  refine ov_getf (v := ov_i (h 25 5)) d_197_42 fl_State_41 (zb_25 I9) (zs_25 I9) rfl ?_
  have g10 := rg_25_5 I
  refine ov_putf (x := (h 25 5)) d_197_45 fl_State_41 (zb_4 I9) (zs_4 I9) rfl nk_0 rfl ?_
  have I11 := up_4_5 (x := (h 25 5)) I9 (by omega) (hw 4 (by decide +kernel))
  refine ov_blk (ls2 := [(0, ov_r 4), (1, ov_r 25)]) (st2 := [ov_r 25]) (pc2 := 49) b_197_48_1 rfl rfl ?_
  refine ov_getf (v := ov_r 26) d_197_49 fl_State_11 (zb_25 I11) (zs_25 I11) (congrArg ov_r (rg_25_6 I11)) ?_
  refine ov_blk (ls2 := [(0, ov_r 4), (1, ov_r 25)]) (st2 := [ov_r 4, ov_i 0, ov_r 26]) (pc2 := 54) b_197_52_2 rfl rfl ?_
  refine ov_getf (v := ov_r 5) d_197_54 fl_State_11 (zb_4 I11) (zs_4 I11) (congrArg ov_r (rg_4_6 I11)) ?_
  refine ov_blk (ls2 := [(0, ov_r 4), (1, ov_r 25)]) (st2 := [ov_i 10, ov_i 0, ov_r 5, ov_i 0, ov_r 26]) (pc2 := 60) b_197_57_2 rfl rfl ?_
  refine ov_acp d_197_60 la_State_44 la_1 la_2 la_3 (zb_26 I11) (zs_26 I11) (zb_5 I11) (zs_5 I11) (by omega) (Nat.le_of_ble_eq_true rfl) (by omega) ?_
  have I12 := ov_I_cp (s := 26) (t := 5) (n := 10) I11 (by decide) (fun k => ra_26 I11 k) (fun _ => (hw 5 (by decide +kernel)))
  refine ov_blk (ls2 := [(0, ov_r 4), (1, ov_r 25)]) (st2 := [ov_r 25]) (pc2 := 64) b_197_63_1 rfl rfl ?_
  refine ov_getf (v := ov_r 27) d_197_64 fl_State_15 (zb_25 I12) (zs_25 I12) (congrArg ov_r (rg_25_7 I12)) ?_
  refine ov_blk (ls2 := [(0, ov_r 4), (1, ov_r 25)]) (st2 := [ov_r 4, ov_i 0, ov_r 27]) (pc2 := 69) b_197_67_2 rfl rfl ?_
  refine ov_getf (v := ov_r 6) d_197_69 fl_State_15 (zb_4 I12) (zs_4 I12) (congrArg ov_r (rg_4_7 I12)) ?_
  refine ov_blk (ls2 := [(0, ov_r 4), (1, ov_r 25)]) (st2 := [ov_i 10, ov_i 0, ov_r 6, ov_i 0, ov_r 27]) (pc2 := 75) b_197_72_2 rfl rfl ?_
  refine ov_acp d_197_75 la_State_44 la_1 la_2 la_3 (zb_27 I12) (zs_27 I12) (zb_6 I12) (zs_6 I12) (by omega) (Nat.le_of_ble_eq_true rfl) (by omega) ?_
  have I13 := ov_I_cp (s := 27) (t := 6) (n := 10) I12 (by decide) (fun k => ra_27 I12 k) (fun _ => (hw 6 (by decide +kernel)))
  refine ov_blk (ls2 := [(0, ov_r 4), (1, ov_r 25)]) (st2 := [ov_r 25]) (pc2 := 79) b_197_78_1 rfl rfl ?_
  refine ov_getf (v := ov_r 28) d_197_79 fl_State_18 (zb_25 I13) (zs_25 I13) (congrArg ov_r (rg_25_8 I13)) ?_
  refine ov_blk (ls2 := [(0, ov_r 4), (1, ov_r 25)]) (st2 := [ov_r 4, ov_i 0, ov_r 28]) (pc2 := 84) b_197_82_2 rfl rfl ?_
  refine ov_getf (v := ov_r 7) d_197_84 fl_State_18 (zb_4 I13) (zs_4 I13) (congrArg ov_r (rg_4_8 I13)) ?_
  refine ov_blk (ls2 := [(0, ov_r 4), (1, ov_r 25)]) (st2 := [ov_i 8, ov_i 0, ov_r 7, ov_i 0, ov_r 28]) (pc2 := 90) b_197_87_2 rfl rfl ?_
  refine ov_acp d_197_90 la_State_44 la_1 la_2 la_3 (zb_28 I13) (zs_28 I13) (zb_7 I13) (zs_7 I13) (by omega) (Nat.le_of_ble_eq_true rfl) (by omega) ?_
  have I14 := ov_I_cp (s := 28) (t := 7) (n := 8) I13 (by decide) (fun k => ra_28 I13 k) (fun _ => (hw 7 (by decide +kernel)))
  refine ov_blk (ls2 := [(0, ov_r 4), (1, ov_r 25)]) (st2 := [ov_r 25]) (pc2 := 94) b_197_93_1 rfl rfl ?_
  refine ov_getf (v := ov_r 29) d_197_94 fl_State_21 (zb_25 I14) (zs_25 I14) (congrArg ov_r (rg_25_9 I14)) ?_
  refine ov_blk (ls2 := [(0, ov_r 4), (1, ov_r 25)]) (st2 := [ov_r 4, ov_i 0, ov_r 29]) (pc2 := 99) b_197_97_2 rfl rfl ?_
  refine ov_getf (v := ov_r 8) d_197_99 fl_State_21 (zb_4 I14) (zs_4 I14) (congrArg ov_r (rg_4_9 I14)) ?_
  refine ov_blk (ls2 := [(0, ov_r 4), (1, ov_r 25)]) (st2 := [ov_i 8, ov_i 0, ov_r 8, ov_i 0, ov_r 29]) (pc2 := 105) b_197_102_2 rfl rfl ?_
  refine ov_acp d_197_105 la_State_44 la_1 la_2 la_3 (zb_29 I14) (zs_29 I14) (zb_8 I14) (zs_8 I14) (by omega) (Nat.le_of_ble_eq_true rfl) (by omega) ?_
  have I15 := ov_I_cp (s := 29) (t := 8) (n := 8) I14 (by decide) (fun k => ra_29 I14 k) (fun _ => (hw 8 (by decide +kernel)))
  exact ov_retv (st := []) d_197_108 rfl ⟨rfl, I15, (by show (h 36 7) = (h 36 7) ∧ (h 1 1) = (h 1 1) ∧ (h 90 2) = (h 90 2) ∧ (h 0 10) = (h 0 10) ∧ (h 0 11) = (h 0 11) ∧ (h 0 12) = (h 0 12) ∧ (h 0 13) = (h 0 13) ∧ (h 3 1) = (h 3 1) ∧ (h 36 8) = (h 36 8) ∧ (h 46 3) = (h 46 3) ∧ (h 46 4) = (h 46 4) ∧ (h 49 4) = (h 49 4) ∧ (h 49 5) = (h 49 5) ∧ (h 64 0) = (h 64 0) ∧ (h 76 0) = (h 76 0); omega), ⟨⟨rfl, rfl, rfl, rfl, rfl, rfl⟩, (fun i h0 h1 => by show (ov_cp (ov_cp (ov_cp (ov_cp (ov_up (ov_up (ov_up (ov_up (ov_up (ov_up h 4 0 (h 25 0)) 4 1 (h 25 1)) 4 2 (h 25 2)) 4 3 (h 25 3)) 4 4 (h 25 4)) 4 5 (h 25 5)) 26 5 10) 27 6 10) 28 7 8) 29 8 8) 5 i = h 26 i; rw [ov_cp_ne (by decide), ov_cp_ne (by decide), ov_cp_ne (by decide)]; exact ov_cp_i h0 h1), (fun i h0 h1 => by show (ov_cp (ov_cp (ov_cp (ov_cp (ov_up (ov_up (ov_up (ov_up (ov_up (ov_up h 4 0 (h 25 0)) 4 1 (h 25 1)) 4 2 (h 25 2)) 4 3 (h 25 3)) 4 4 (h 25 4)) 4 5 (h 25 5)) 26 5 10) 27 6 10) 28 7 8) 29 8 8) 6 i = h 27 i; rw [ov_cp_ne (by decide), ov_cp_ne (by decide)]; exact ov_cp_i h0 h1), (fun i h0 h1 => by show (ov_cp (ov_cp (ov_cp (ov_cp (ov_up (ov_up (ov_up (ov_up (ov_up (ov_up h 4 0 (h 25 0)) 4 1 (h 25 1)) 4 2 (h 25 2)) 4 3 (h 25 3)) 4 4 (h 25 4)) 4 5 (h 25 5)) 26 5 10) 27 6 10) 28 7 8) 29 8 8) 7 i = h 28 i; rw [ov_cp_ne (by decide)]; exact ov_cp_i h0 h1), (fun i h0 h1 => by show (ov_cp (ov_cp (ov_cp (ov_cp (ov_up (ov_up (ov_up (ov_up (ov_up (ov_up h 4 0 (h 25 0)) 4 1 (h 25 1)) 4 2 (h 25 2)) 4 3 (h 25 3)) 4 4 (h 25 4)) 4 5 (h 25 5)) 26 5 10) 27 6 10) 28 7 8) 29 8 8) 8 i = h 29 i; exact ov_cp_i h0 h1)⟩⟩
abbrev P_State_copy_4_30_t (F : ov_H) (z : ov_Z) (h : ov_H)  : Option ov_V → ov_Z → ov_H → Prop := fun r0 z' h' => r0 = none ∧ ov_I F z' h' ∧ ((h' 36 7) = (h 36 7) ∧ (h' 1 1) = (h 1 1) ∧ (h' 90 2) = (h 90 2) ∧ (h' 0 10) = (h 0 10) ∧ (h' 0 11) = (h 0 11) ∧ (h' 0 12) = (h 0 12) ∧ (h' 0 13) = (h 0 13) ∧ (h' 3 1) = (h 3 1) ∧ (h' 36 8) = (h 36 8) ∧ (h' 46 3) = (h 46 3) ∧ (h' 46 4) = (h 46 4) ∧ (h' 49 4) = (h 49 4) ∧ (h' 49 5) = (h 49 5) ∧ (h' 64 0) = (h 64 0) ∧ (h' 76 0) = (h 76 0)) ∧ (st_C (h' 4) (h' 5) (h' 6) (h' 7) (h' 8) (h 30) (h 31) (h 32) (h 33) (h 34))
set_option maxHeartbeats 4000000 in
theorem c_State_copy_4_30_t {u : ov_U} {F : ov_H} {z : ov_Z} {h : ov_H} (d : Nat) (hd : 2 ≤ d) (U : ov_cap u) (I : ov_I F z h) (hw : ov_kw 496 F) : ov_T u d ov_m197 [ov_r 4, ov_r 30] z h (P_State_copy_4_30_t F z h) := by
  refine ov_en rfl (Nat.le_of_ble_eq_true rfl) ?_
  show ov_R u d ov_m197 0 [(0, ov_r 4), (1, ov_r 30)] [] z h (P_State_copy_4_30_t F z h)
  refine ov_blk (ls2 := [(0, ov_r 4), (1, ov_r 30)]) (st2 := [ov_r 30, ov_r 4]) (pc2 := 2) b_197_0_2 rfl rfl ?_
  refine ov_getf (v := ov_i (h 30 0)) d_197_2 fl_State_24 (zb_30 I) (zs_30 I) rfl ?_
  have g1 := rg_30_0 I
  refine ov_putf (x := (h 30 0)) d_197_5 fl_State_24 (zb_4 I) (zs_4 I) rfl nk_0 rfl ?_
  have I2 := up_4_0 (x := (h 30 0)) I (by omega) (hw 4 (by decide +kernel))
  refine ov_blk (ls2 := [(0, ov_r 4), (1, ov_r 30)]) (st2 := [ov_r 30, ov_r 4]) (pc2 := 10) b_197_8_2 rfl rfl ?_
  refine ov_getf (v := ov_i (h 30 1)) d_197_10 fl_State_28 (zb_30 I2) (zs_30 I2) rfl ?_
  have g3 := rg_30_1 I
  refine ov_putf (x := (h 30 1)) d_197_13 fl_State_28 (zb_4 I2) (zs_4 I2) rfl nk_0 rfl ?_
  have I4 := up_4_1 (x := (h 30 1)) I2 (by omega) (hw 4 (by decide +kernel))
  refine ov_blk (ls2 := [(0, ov_r 4), (1, ov_r 30)]) (st2 := [ov_r 30, ov_r 4]) (pc2 := 18) b_197_16_2 rfl rfl ?_
  refine ov_getf (v := ov_i (h 30 2)) d_197_18 fl_State_31 (zb_30 I4) (zs_30 I4) rfl ?_
  have g5 := rg_30_2 I
  refine ov_putf (x := (h 30 2)) d_197_21 fl_State_31 (zb_4 I4) (zs_4 I4) rfl nk_0 rfl ?_
  have I6 := up_4_2 (x := (h 30 2)) I4 (by omega) (hw 4 (by decide +kernel))
  refine ov_blk (ls2 := [(0, ov_r 4), (1, ov_r 30)]) (st2 := [ov_r 30, ov_r 4]) (pc2 := 26) b_197_24_2 rfl rfl ?_
  refine ov_getf (v := ov_l (h 30 3)) d_197_26 fl_State_34 (zb_30 I6) (zs_30 I6) rfl ?_
  refine ov_putf (x := (h 30 3)) d_197_29 fl_State_34 (zb_4 I6) (zs_4 I6) rfl nk_1 rfl ?_
  have I7 := up_4_3 (x := (h 30 3)) I6 (hw 4 (by decide +kernel))
  refine ov_blk (ls2 := [(0, ov_r 4), (1, ov_r 30)]) (st2 := [ov_r 30, ov_r 4]) (pc2 := 34) b_197_32_2 rfl rfl ?_
  refine ov_getf (v := ov_i (h 30 4)) d_197_34 fl_State_38 (zb_30 I7) (zs_30 I7) rfl ?_
  have g8 := rg_30_4 I
  refine ov_putf (x := (h 30 4)) d_197_37 fl_State_38 (zb_4 I7) (zs_4 I7) rfl nk_0 rfl ?_
  have I9 := up_4_4 (x := (h 30 4)) I7 (by omega) (hw 4 (by decide +kernel))
  refine ov_blk (ls2 := [(0, ov_r 4), (1, ov_r 30)]) (st2 := [ov_r 30, ov_r 4]) (pc2 := 42) b_197_40_2 rfl rfl ?_
  refine ov_getf (v := ov_i (h 30 5)) d_197_42 fl_State_41 (zb_30 I9) (zs_30 I9) rfl ?_
  have g10 := rg_30_5 I
  refine ov_putf (x := (h 30 5)) d_197_45 fl_State_41 (zb_4 I9) (zs_4 I9) rfl nk_0 rfl ?_
  have I11 := up_4_5 (x := (h 30 5)) I9 (by omega) (hw 4 (by decide +kernel))
  refine ov_blk (ls2 := [(0, ov_r 4), (1, ov_r 30)]) (st2 := [ov_r 30]) (pc2 := 49) b_197_48_1 rfl rfl ?_
  refine ov_getf (v := ov_r 31) d_197_49 fl_State_11 (zb_30 I11) (zs_30 I11) (congrArg ov_r (rg_30_6 I11)) ?_
  refine ov_blk (ls2 := [(0, ov_r 4), (1, ov_r 30)]) (st2 := [ov_r 4, ov_i 0, ov_r 31]) (pc2 := 54) b_197_52_2 rfl rfl ?_
  refine ov_getf (v := ov_r 5) d_197_54 fl_State_11 (zb_4 I11) (zs_4 I11) (congrArg ov_r (rg_4_6 I11)) ?_
  refine ov_blk (ls2 := [(0, ov_r 4), (1, ov_r 30)]) (st2 := [ov_i 10, ov_i 0, ov_r 5, ov_i 0, ov_r 31]) (pc2 := 60) b_197_57_2 rfl rfl ?_
  refine ov_acp d_197_60 la_State_44 la_1 la_2 la_3 (zb_31 I11) (zs_31 I11) (zb_5 I11) (zs_5 I11) (by omega) (Nat.le_of_ble_eq_true rfl) (by omega) ?_
  have I12 := ov_I_cp (s := 31) (t := 5) (n := 10) I11 (by decide) (fun k => ra_31 I11 k) (fun _ => (hw 5 (by decide +kernel)))
  refine ov_blk (ls2 := [(0, ov_r 4), (1, ov_r 30)]) (st2 := [ov_r 30]) (pc2 := 64) b_197_63_1 rfl rfl ?_
  refine ov_getf (v := ov_r 32) d_197_64 fl_State_15 (zb_30 I12) (zs_30 I12) (congrArg ov_r (rg_30_7 I12)) ?_
  refine ov_blk (ls2 := [(0, ov_r 4), (1, ov_r 30)]) (st2 := [ov_r 4, ov_i 0, ov_r 32]) (pc2 := 69) b_197_67_2 rfl rfl ?_
  refine ov_getf (v := ov_r 6) d_197_69 fl_State_15 (zb_4 I12) (zs_4 I12) (congrArg ov_r (rg_4_7 I12)) ?_
  refine ov_blk (ls2 := [(0, ov_r 4), (1, ov_r 30)]) (st2 := [ov_i 10, ov_i 0, ov_r 6, ov_i 0, ov_r 32]) (pc2 := 75) b_197_72_2 rfl rfl ?_
  refine ov_acp d_197_75 la_State_44 la_1 la_2 la_3 (zb_32 I12) (zs_32 I12) (zb_6 I12) (zs_6 I12) (by omega) (Nat.le_of_ble_eq_true rfl) (by omega) ?_
  have I13 := ov_I_cp (s := 32) (t := 6) (n := 10) I12 (by decide) (fun k => ra_32 I12 k) (fun _ => (hw 6 (by decide +kernel)))
  refine ov_blk (ls2 := [(0, ov_r 4), (1, ov_r 30)]) (st2 := [ov_r 30]) (pc2 := 79) b_197_78_1 rfl rfl ?_
  refine ov_getf (v := ov_r 33) d_197_79 fl_State_18 (zb_30 I13) (zs_30 I13) (congrArg ov_r (rg_30_8 I13)) ?_
  refine ov_blk (ls2 := [(0, ov_r 4), (1, ov_r 30)]) (st2 := [ov_r 4, ov_i 0, ov_r 33]) (pc2 := 84) b_197_82_2 rfl rfl ?_
  refine ov_getf (v := ov_r 7) d_197_84 fl_State_18 (zb_4 I13) (zs_4 I13) (congrArg ov_r (rg_4_8 I13)) ?_
  refine ov_blk (ls2 := [(0, ov_r 4), (1, ov_r 30)]) (st2 := [ov_i 8, ov_i 0, ov_r 7, ov_i 0, ov_r 33]) (pc2 := 90) b_197_87_2 rfl rfl ?_
  refine ov_acp d_197_90 la_State_44 la_1 la_2 la_3 (zb_33 I13) (zs_33 I13) (zb_7 I13) (zs_7 I13) (by omega) (Nat.le_of_ble_eq_true rfl) (by omega) ?_
  have I14 := ov_I_cp (s := 33) (t := 7) (n := 8) I13 (by decide) (fun k => ra_33 I13 k) (fun _ => (hw 7 (by decide +kernel)))
  refine ov_blk (ls2 := [(0, ov_r 4), (1, ov_r 30)]) (st2 := [ov_r 30]) (pc2 := 94) b_197_93_1 rfl rfl ?_
  refine ov_getf (v := ov_r 34) d_197_94 fl_State_21 (zb_30 I14) (zs_30 I14) (congrArg ov_r (rg_30_9 I14)) ?_
  refine ov_blk (ls2 := [(0, ov_r 4), (1, ov_r 30)]) (st2 := [ov_r 4, ov_i 0, ov_r 34]) (pc2 := 99) b_197_97_2 rfl rfl ?_
  refine ov_getf (v := ov_r 8) d_197_99 fl_State_21 (zb_4 I14) (zs_4 I14) (congrArg ov_r (rg_4_9 I14)) ?_
  refine ov_blk (ls2 := [(0, ov_r 4), (1, ov_r 30)]) (st2 := [ov_i 8, ov_i 0, ov_r 8, ov_i 0, ov_r 34]) (pc2 := 105) b_197_102_2 rfl rfl ?_
  refine ov_acp d_197_105 la_State_44 la_1 la_2 la_3 (zb_34 I14) (zs_34 I14) (zb_8 I14) (zs_8 I14) (by omega) (Nat.le_of_ble_eq_true rfl) (by omega) ?_
  have I15 := ov_I_cp (s := 34) (t := 8) (n := 8) I14 (by decide) (fun k => ra_34 I14 k) (fun _ => (hw 8 (by decide +kernel)))
  exact ov_retv (st := []) d_197_108 rfl ⟨rfl, I15, (by show (h 36 7) = (h 36 7) ∧ (h 1 1) = (h 1 1) ∧ (h 90 2) = (h 90 2) ∧ (h 0 10) = (h 0 10) ∧ (h 0 11) = (h 0 11) ∧ (h 0 12) = (h 0 12) ∧ (h 0 13) = (h 0 13) ∧ (h 3 1) = (h 3 1) ∧ (h 36 8) = (h 36 8) ∧ (h 46 3) = (h 46 3) ∧ (h 46 4) = (h 46 4) ∧ (h 49 4) = (h 49 4) ∧ (h 49 5) = (h 49 5) ∧ (h 64 0) = (h 64 0) ∧ (h 76 0) = (h 76 0); omega), ⟨⟨rfl, rfl, rfl, rfl, rfl, rfl⟩, (fun i h0 h1 => by show (ov_cp (ov_cp (ov_cp (ov_cp (ov_up (ov_up (ov_up (ov_up (ov_up (ov_up h 4 0 (h 30 0)) 4 1 (h 30 1)) 4 2 (h 30 2)) 4 3 (h 30 3)) 4 4 (h 30 4)) 4 5 (h 30 5)) 31 5 10) 32 6 10) 33 7 8) 34 8 8) 5 i = h 31 i; rw [ov_cp_ne (by decide), ov_cp_ne (by decide), ov_cp_ne (by decide)]; exact ov_cp_i h0 h1), (fun i h0 h1 => by show (ov_cp (ov_cp (ov_cp (ov_cp (ov_up (ov_up (ov_up (ov_up (ov_up (ov_up h 4 0 (h 30 0)) 4 1 (h 30 1)) 4 2 (h 30 2)) 4 3 (h 30 3)) 4 4 (h 30 4)) 4 5 (h 30 5)) 31 5 10) 32 6 10) 33 7 8) 34 8 8) 6 i = h 32 i; rw [ov_cp_ne (by decide), ov_cp_ne (by decide)]; exact ov_cp_i h0 h1), (fun i h0 h1 => by show (ov_cp (ov_cp (ov_cp (ov_cp (ov_up (ov_up (ov_up (ov_up (ov_up (ov_up h 4 0 (h 30 0)) 4 1 (h 30 1)) 4 2 (h 30 2)) 4 3 (h 30 3)) 4 4 (h 30 4)) 4 5 (h 30 5)) 31 5 10) 32 6 10) 33 7 8) 34 8 8) 7 i = h 33 i; rw [ov_cp_ne (by decide)]; exact ov_cp_i h0 h1), (fun i h0 h1 => by show (ov_cp (ov_cp (ov_cp (ov_cp (ov_up (ov_up (ov_up (ov_up (ov_up (ov_up h 4 0 (h 30 0)) 4 1 (h 30 1)) 4 2 (h 30 2)) 4 3 (h 30 3)) 4 4 (h 30 4)) 4 5 (h 30 5)) 31 5 10) 32 6 10) 33 7 8) 34 8 8) 8 i = h 34 i; exact ov_cp_i h0 h1)⟩⟩
abbrev P_State_copy_15_4_t (F : ov_H) (z : ov_Z) (h : ov_H)  : Option ov_V → ov_Z → ov_H → Prop := fun r0 z' h' => r0 = none ∧ ov_I F z' h' ∧ ((h' 36 7) = (h 36 7) ∧ (h' 1 1) = (h 1 1) ∧ (h' 90 2) = (h 90 2) ∧ (h' 0 10) = (h 0 10) ∧ (h' 0 11) = (h 0 11) ∧ (h' 0 12) = (h 0 12) ∧ (h' 0 13) = (h 0 13) ∧ (h' 3 1) = (h 3 1) ∧ (h' 36 8) = (h 36 8) ∧ (h' 46 3) = (h 46 3) ∧ (h' 46 4) = (h 46 4) ∧ (h' 49 4) = (h 49 4) ∧ (h' 49 5) = (h 49 5) ∧ (h' 64 0) = (h 64 0) ∧ (h' 76 0) = (h 76 0)) ∧ (st_C (h' 15) (h' 16) (h' 17) (h' 18) (h' 19) (h 4) (h 5) (h 6) (h 7) (h 8))
set_option maxHeartbeats 4000000 in
theorem c_State_copy_15_4_t {u : ov_U} {F : ov_H} {z : ov_Z} {h : ov_H} (d : Nat) (hd : 2 ≤ d) (U : ov_cap u) (I : ov_I F z h) (hw : ov_kw 1015808 F) : ov_T u d ov_m197 [ov_r 15, ov_r 4] z h (P_State_copy_15_4_t F z h) := by
  refine ov_en rfl (Nat.le_of_ble_eq_true rfl) ?_
  show ov_R u d ov_m197 0 [(0, ov_r 15), (1, ov_r 4)] [] z h (P_State_copy_15_4_t F z h)
  refine ov_blk (ls2 := [(0, ov_r 15), (1, ov_r 4)]) (st2 := [ov_r 4, ov_r 15]) (pc2 := 2) b_197_0_2 rfl rfl ?_
  refine ov_getf (v := ov_i (h 4 0)) d_197_2 fl_State_24 (zb_4 I) (zs_4 I) rfl ?_
  have g1 := rg_4_0 I
  refine ov_putf (x := (h 4 0)) d_197_5 fl_State_24 (zb_15 I) (zs_15 I) rfl nk_0 rfl ?_
  have I2 := up_15_0 (x := (h 4 0)) I (by omega) (hw 15 (by decide +kernel))
  refine ov_blk (ls2 := [(0, ov_r 15), (1, ov_r 4)]) (st2 := [ov_r 4, ov_r 15]) (pc2 := 10) b_197_8_2 rfl rfl ?_
  refine ov_getf (v := ov_i (h 4 1)) d_197_10 fl_State_28 (zb_4 I2) (zs_4 I2) rfl ?_
  have g3 := rg_4_1 I
  refine ov_putf (x := (h 4 1)) d_197_13 fl_State_28 (zb_15 I2) (zs_15 I2) rfl nk_0 rfl ?_
  have I4 := up_15_1 (x := (h 4 1)) I2 (by omega) (hw 15 (by decide +kernel))
  refine ov_blk (ls2 := [(0, ov_r 15), (1, ov_r 4)]) (st2 := [ov_r 4, ov_r 15]) (pc2 := 18) b_197_16_2 rfl rfl ?_
  refine ov_getf (v := ov_i (h 4 2)) d_197_18 fl_State_31 (zb_4 I4) (zs_4 I4) rfl ?_
  have g5 := rg_4_2 I
  refine ov_putf (x := (h 4 2)) d_197_21 fl_State_31 (zb_15 I4) (zs_15 I4) rfl nk_0 rfl ?_
  have I6 := up_15_2 (x := (h 4 2)) I4 (by omega) (hw 15 (by decide +kernel))
  refine ov_blk (ls2 := [(0, ov_r 15), (1, ov_r 4)]) (st2 := [ov_r 4, ov_r 15]) (pc2 := 26) b_197_24_2 rfl rfl ?_
  refine ov_getf (v := ov_l (h 4 3)) d_197_26 fl_State_34 (zb_4 I6) (zs_4 I6) rfl ?_
  refine ov_putf (x := (h 4 3)) d_197_29 fl_State_34 (zb_15 I6) (zs_15 I6) rfl nk_1 rfl ?_
  have I7 := up_15_3 (x := (h 4 3)) I6 (hw 15 (by decide +kernel))
  refine ov_blk (ls2 := [(0, ov_r 15), (1, ov_r 4)]) (st2 := [ov_r 4, ov_r 15]) (pc2 := 34) b_197_32_2 rfl rfl ?_
  refine ov_getf (v := ov_i (h 4 4)) d_197_34 fl_State_38 (zb_4 I7) (zs_4 I7) rfl ?_
  have g8 := rg_4_4 I
  refine ov_putf (x := (h 4 4)) d_197_37 fl_State_38 (zb_15 I7) (zs_15 I7) rfl nk_0 rfl ?_
  have I9 := up_15_4 (x := (h 4 4)) I7 (by omega) (hw 15 (by decide +kernel))
  refine ov_blk (ls2 := [(0, ov_r 15), (1, ov_r 4)]) (st2 := [ov_r 4, ov_r 15]) (pc2 := 42) b_197_40_2 rfl rfl ?_
  refine ov_getf (v := ov_i (h 4 5)) d_197_42 fl_State_41 (zb_4 I9) (zs_4 I9) rfl ?_
  have g10 := rg_4_5 I
  refine ov_putf (x := (h 4 5)) d_197_45 fl_State_41 (zb_15 I9) (zs_15 I9) rfl nk_0 rfl ?_
  have I11 := up_15_5 (x := (h 4 5)) I9 (by omega) (hw 15 (by decide +kernel))
  refine ov_blk (ls2 := [(0, ov_r 15), (1, ov_r 4)]) (st2 := [ov_r 4]) (pc2 := 49) b_197_48_1 rfl rfl ?_
  refine ov_getf (v := ov_r 5) d_197_49 fl_State_11 (zb_4 I11) (zs_4 I11) (congrArg ov_r (rg_4_6 I11)) ?_
  refine ov_blk (ls2 := [(0, ov_r 15), (1, ov_r 4)]) (st2 := [ov_r 15, ov_i 0, ov_r 5]) (pc2 := 54) b_197_52_2 rfl rfl ?_
  refine ov_getf (v := ov_r 16) d_197_54 fl_State_11 (zb_15 I11) (zs_15 I11) (congrArg ov_r (rg_15_6 I11)) ?_
  refine ov_blk (ls2 := [(0, ov_r 15), (1, ov_r 4)]) (st2 := [ov_i 10, ov_i 0, ov_r 16, ov_i 0, ov_r 5]) (pc2 := 60) b_197_57_2 rfl rfl ?_
  refine ov_acp d_197_60 la_State_44 la_1 la_2 la_3 (zb_5 I11) (zs_5 I11) (zb_16 I11) (zs_16 I11) (by omega) (Nat.le_of_ble_eq_true rfl) (by omega) ?_
  have I12 := ov_I_cp (s := 5) (t := 16) (n := 10) I11 (by decide) (fun k => ra_5 I11 k) (fun _ => (hw 16 (by decide +kernel)))
  refine ov_blk (ls2 := [(0, ov_r 15), (1, ov_r 4)]) (st2 := [ov_r 4]) (pc2 := 64) b_197_63_1 rfl rfl ?_
  refine ov_getf (v := ov_r 6) d_197_64 fl_State_15 (zb_4 I12) (zs_4 I12) (congrArg ov_r (rg_4_7 I12)) ?_
  refine ov_blk (ls2 := [(0, ov_r 15), (1, ov_r 4)]) (st2 := [ov_r 15, ov_i 0, ov_r 6]) (pc2 := 69) b_197_67_2 rfl rfl ?_
  refine ov_getf (v := ov_r 17) d_197_69 fl_State_15 (zb_15 I12) (zs_15 I12) (congrArg ov_r (rg_15_7 I12)) ?_
  refine ov_blk (ls2 := [(0, ov_r 15), (1, ov_r 4)]) (st2 := [ov_i 10, ov_i 0, ov_r 17, ov_i 0, ov_r 6]) (pc2 := 75) b_197_72_2 rfl rfl ?_
  refine ov_acp d_197_75 la_State_44 la_1 la_2 la_3 (zb_6 I12) (zs_6 I12) (zb_17 I12) (zs_17 I12) (by omega) (Nat.le_of_ble_eq_true rfl) (by omega) ?_
  have I13 := ov_I_cp (s := 6) (t := 17) (n := 10) I12 (by decide) (fun k => ra_6 I12 k) (fun _ => (hw 17 (by decide +kernel)))
  refine ov_blk (ls2 := [(0, ov_r 15), (1, ov_r 4)]) (st2 := [ov_r 4]) (pc2 := 79) b_197_78_1 rfl rfl ?_
  refine ov_getf (v := ov_r 7) d_197_79 fl_State_18 (zb_4 I13) (zs_4 I13) (congrArg ov_r (rg_4_8 I13)) ?_
  refine ov_blk (ls2 := [(0, ov_r 15), (1, ov_r 4)]) (st2 := [ov_r 15, ov_i 0, ov_r 7]) (pc2 := 84) b_197_82_2 rfl rfl ?_
  refine ov_getf (v := ov_r 18) d_197_84 fl_State_18 (zb_15 I13) (zs_15 I13) (congrArg ov_r (rg_15_8 I13)) ?_
  refine ov_blk (ls2 := [(0, ov_r 15), (1, ov_r 4)]) (st2 := [ov_i 8, ov_i 0, ov_r 18, ov_i 0, ov_r 7]) (pc2 := 90) b_197_87_2 rfl rfl ?_
  refine ov_acp d_197_90 la_State_44 la_1 la_2 la_3 (zb_7 I13) (zs_7 I13) (zb_18 I13) (zs_18 I13) (by omega) (Nat.le_of_ble_eq_true rfl) (by omega) ?_
  have I14 := ov_I_cp (s := 7) (t := 18) (n := 8) I13 (by decide) (fun k => ra_7 I13 k) (fun _ => (hw 18 (by decide +kernel)))
  refine ov_blk (ls2 := [(0, ov_r 15), (1, ov_r 4)]) (st2 := [ov_r 4]) (pc2 := 94) b_197_93_1 rfl rfl ?_
  refine ov_getf (v := ov_r 8) d_197_94 fl_State_21 (zb_4 I14) (zs_4 I14) (congrArg ov_r (rg_4_9 I14)) ?_
  refine ov_blk (ls2 := [(0, ov_r 15), (1, ov_r 4)]) (st2 := [ov_r 15, ov_i 0, ov_r 8]) (pc2 := 99) b_197_97_2 rfl rfl ?_
  refine ov_getf (v := ov_r 19) d_197_99 fl_State_21 (zb_15 I14) (zs_15 I14) (congrArg ov_r (rg_15_9 I14)) ?_
  refine ov_blk (ls2 := [(0, ov_r 15), (1, ov_r 4)]) (st2 := [ov_i 8, ov_i 0, ov_r 19, ov_i 0, ov_r 8]) (pc2 := 105) b_197_102_2 rfl rfl ?_
  refine ov_acp d_197_105 la_State_44 la_1 la_2 la_3 (zb_8 I14) (zs_8 I14) (zb_19 I14) (zs_19 I14) (by omega) (Nat.le_of_ble_eq_true rfl) (by omega) ?_
  have I15 := ov_I_cp (s := 8) (t := 19) (n := 8) I14 (by decide) (fun k => ra_8 I14 k) (fun _ => (hw 19 (by decide +kernel)))
  exact ov_retv (st := []) d_197_108 rfl ⟨rfl, I15, (by show (h 36 7) = (h 36 7) ∧ (h 1 1) = (h 1 1) ∧ (h 90 2) = (h 90 2) ∧ (h 0 10) = (h 0 10) ∧ (h 0 11) = (h 0 11) ∧ (h 0 12) = (h 0 12) ∧ (h 0 13) = (h 0 13) ∧ (h 3 1) = (h 3 1) ∧ (h 36 8) = (h 36 8) ∧ (h 46 3) = (h 46 3) ∧ (h 46 4) = (h 46 4) ∧ (h 49 4) = (h 49 4) ∧ (h 49 5) = (h 49 5) ∧ (h 64 0) = (h 64 0) ∧ (h 76 0) = (h 76 0); omega), ⟨⟨rfl, rfl, rfl, rfl, rfl, rfl⟩, (fun i h0 h1 => by show (ov_cp (ov_cp (ov_cp (ov_cp (ov_up (ov_up (ov_up (ov_up (ov_up (ov_up h 15 0 (h 4 0)) 15 1 (h 4 1)) 15 2 (h 4 2)) 15 3 (h 4 3)) 15 4 (h 4 4)) 15 5 (h 4 5)) 5 16 10) 6 17 10) 7 18 8) 8 19 8) 16 i = h 5 i; rw [ov_cp_ne (by decide), ov_cp_ne (by decide), ov_cp_ne (by decide)]; exact ov_cp_i h0 h1), (fun i h0 h1 => by show (ov_cp (ov_cp (ov_cp (ov_cp (ov_up (ov_up (ov_up (ov_up (ov_up (ov_up h 15 0 (h 4 0)) 15 1 (h 4 1)) 15 2 (h 4 2)) 15 3 (h 4 3)) 15 4 (h 4 4)) 15 5 (h 4 5)) 5 16 10) 6 17 10) 7 18 8) 8 19 8) 17 i = h 6 i; rw [ov_cp_ne (by decide), ov_cp_ne (by decide)]; exact ov_cp_i h0 h1), (fun i h0 h1 => by show (ov_cp (ov_cp (ov_cp (ov_cp (ov_up (ov_up (ov_up (ov_up (ov_up (ov_up h 15 0 (h 4 0)) 15 1 (h 4 1)) 15 2 (h 4 2)) 15 3 (h 4 3)) 15 4 (h 4 4)) 15 5 (h 4 5)) 5 16 10) 6 17 10) 7 18 8) 8 19 8) 18 i = h 7 i; rw [ov_cp_ne (by decide)]; exact ov_cp_i h0 h1), (fun i h0 h1 => by show (ov_cp (ov_cp (ov_cp (ov_cp (ov_up (ov_up (ov_up (ov_up (ov_up (ov_up h 15 0 (h 4 0)) 15 1 (h 4 1)) 15 2 (h 4 2)) 15 3 (h 4 3)) 15 4 (h 4 4)) 15 5 (h 4 5)) 5 16 10) 6 17 10) 7 18 8) 8 19 8) 19 i = h 8 i; exact ov_cp_i h0 h1)⟩⟩
abbrev P_State_copy_20_4_t (F : ov_H) (z : ov_Z) (h : ov_H)  : Option ov_V → ov_Z → ov_H → Prop := fun r0 z' h' => r0 = none ∧ ov_I F z' h' ∧ ((h' 36 7) = (h 36 7) ∧ (h' 1 1) = (h 1 1) ∧ (h' 90 2) = (h 90 2) ∧ (h' 0 10) = (h 0 10) ∧ (h' 0 11) = (h 0 11) ∧ (h' 0 12) = (h 0 12) ∧ (h' 0 13) = (h 0 13) ∧ (h' 3 1) = (h 3 1) ∧ (h' 36 8) = (h 36 8) ∧ (h' 46 3) = (h 46 3) ∧ (h' 46 4) = (h 46 4) ∧ (h' 49 4) = (h 49 4) ∧ (h' 49 5) = (h 49 5) ∧ (h' 64 0) = (h 64 0) ∧ (h' 76 0) = (h 76 0)) ∧ (st_C (h' 20) (h' 21) (h' 22) (h' 23) (h' 24) (h 4) (h 5) (h 6) (h 7) (h 8))
set_option maxHeartbeats 4000000 in
theorem c_State_copy_20_4_t {u : ov_U} {F : ov_H} {z : ov_Z} {h : ov_H} (d : Nat) (hd : 2 ≤ d) (U : ov_cap u) (I : ov_I F z h) (hw : ov_kw 32505856 F) : ov_T u d ov_m197 [ov_r 20, ov_r 4] z h (P_State_copy_20_4_t F z h) := by
  refine ov_en rfl (Nat.le_of_ble_eq_true rfl) ?_
  show ov_R u d ov_m197 0 [(0, ov_r 20), (1, ov_r 4)] [] z h (P_State_copy_20_4_t F z h)
  refine ov_blk (ls2 := [(0, ov_r 20), (1, ov_r 4)]) (st2 := [ov_r 4, ov_r 20]) (pc2 := 2) b_197_0_2 rfl rfl ?_
  refine ov_getf (v := ov_i (h 4 0)) d_197_2 fl_State_24 (zb_4 I) (zs_4 I) rfl ?_
  have g1 := rg_4_0 I
  refine ov_putf (x := (h 4 0)) d_197_5 fl_State_24 (zb_20 I) (zs_20 I) rfl nk_0 rfl ?_
  have I2 := up_20_0 (x := (h 4 0)) I (by omega) (hw 20 (by decide +kernel))
  refine ov_blk (ls2 := [(0, ov_r 20), (1, ov_r 4)]) (st2 := [ov_r 4, ov_r 20]) (pc2 := 10) b_197_8_2 rfl rfl ?_
  refine ov_getf (v := ov_i (h 4 1)) d_197_10 fl_State_28 (zb_4 I2) (zs_4 I2) rfl ?_
  have g3 := rg_4_1 I
  refine ov_putf (x := (h 4 1)) d_197_13 fl_State_28 (zb_20 I2) (zs_20 I2) rfl nk_0 rfl ?_
  have I4 := up_20_1 (x := (h 4 1)) I2 (by omega) (hw 20 (by decide +kernel))
  refine ov_blk (ls2 := [(0, ov_r 20), (1, ov_r 4)]) (st2 := [ov_r 4, ov_r 20]) (pc2 := 18) b_197_16_2 rfl rfl ?_
  refine ov_getf (v := ov_i (h 4 2)) d_197_18 fl_State_31 (zb_4 I4) (zs_4 I4) rfl ?_
  have g5 := rg_4_2 I
  refine ov_putf (x := (h 4 2)) d_197_21 fl_State_31 (zb_20 I4) (zs_20 I4) rfl nk_0 rfl ?_
  have I6 := up_20_2 (x := (h 4 2)) I4 (by omega) (hw 20 (by decide +kernel))
  refine ov_blk (ls2 := [(0, ov_r 20), (1, ov_r 4)]) (st2 := [ov_r 4, ov_r 20]) (pc2 := 26) b_197_24_2 rfl rfl ?_
  refine ov_getf (v := ov_l (h 4 3)) d_197_26 fl_State_34 (zb_4 I6) (zs_4 I6) rfl ?_
  refine ov_putf (x := (h 4 3)) d_197_29 fl_State_34 (zb_20 I6) (zs_20 I6) rfl nk_1 rfl ?_
  have I7 := up_20_3 (x := (h 4 3)) I6 (hw 20 (by decide +kernel))
  refine ov_blk (ls2 := [(0, ov_r 20), (1, ov_r 4)]) (st2 := [ov_r 4, ov_r 20]) (pc2 := 34) b_197_32_2 rfl rfl ?_
  refine ov_getf (v := ov_i (h 4 4)) d_197_34 fl_State_38 (zb_4 I7) (zs_4 I7) rfl ?_
  have g8 := rg_4_4 I
  refine ov_putf (x := (h 4 4)) d_197_37 fl_State_38 (zb_20 I7) (zs_20 I7) rfl nk_0 rfl ?_
  have I9 := up_20_4 (x := (h 4 4)) I7 (by omega) (hw 20 (by decide +kernel))
  refine ov_blk (ls2 := [(0, ov_r 20), (1, ov_r 4)]) (st2 := [ov_r 4, ov_r 20]) (pc2 := 42) b_197_40_2 rfl rfl ?_
  refine ov_getf (v := ov_i (h 4 5)) d_197_42 fl_State_41 (zb_4 I9) (zs_4 I9) rfl ?_
  have g10 := rg_4_5 I
  refine ov_putf (x := (h 4 5)) d_197_45 fl_State_41 (zb_20 I9) (zs_20 I9) rfl nk_0 rfl ?_
  have I11 := up_20_5 (x := (h 4 5)) I9 (by omega) (hw 20 (by decide +kernel))
  refine ov_blk (ls2 := [(0, ov_r 20), (1, ov_r 4)]) (st2 := [ov_r 4]) (pc2 := 49) b_197_48_1 rfl rfl ?_
  refine ov_getf (v := ov_r 5) d_197_49 fl_State_11 (zb_4 I11) (zs_4 I11) (congrArg ov_r (rg_4_6 I11)) ?_
  refine ov_blk (ls2 := [(0, ov_r 20), (1, ov_r 4)]) (st2 := [ov_r 20, ov_i 0, ov_r 5]) (pc2 := 54) b_197_52_2 rfl rfl ?_
  refine ov_getf (v := ov_r 21) d_197_54 fl_State_11 (zb_20 I11) (zs_20 I11) (congrArg ov_r (rg_20_6 I11)) ?_
  refine ov_blk (ls2 := [(0, ov_r 20), (1, ov_r 4)]) (st2 := [ov_i 10, ov_i 0, ov_r 21, ov_i 0, ov_r 5]) (pc2 := 60) b_197_57_2 rfl rfl ?_
  refine ov_acp d_197_60 la_State_44 la_1 la_2 la_3 (zb_5 I11) (zs_5 I11) (zb_21 I11) (zs_21 I11) (by omega) (Nat.le_of_ble_eq_true rfl) (by omega) ?_
  have I12 := ov_I_cp (s := 5) (t := 21) (n := 10) I11 (by decide) (fun k => ra_5 I11 k) (fun _ => (hw 21 (by decide +kernel)))
  refine ov_blk (ls2 := [(0, ov_r 20), (1, ov_r 4)]) (st2 := [ov_r 4]) (pc2 := 64) b_197_63_1 rfl rfl ?_
  refine ov_getf (v := ov_r 6) d_197_64 fl_State_15 (zb_4 I12) (zs_4 I12) (congrArg ov_r (rg_4_7 I12)) ?_
  refine ov_blk (ls2 := [(0, ov_r 20), (1, ov_r 4)]) (st2 := [ov_r 20, ov_i 0, ov_r 6]) (pc2 := 69) b_197_67_2 rfl rfl ?_
  refine ov_getf (v := ov_r 22) d_197_69 fl_State_15 (zb_20 I12) (zs_20 I12) (congrArg ov_r (rg_20_7 I12)) ?_
  refine ov_blk (ls2 := [(0, ov_r 20), (1, ov_r 4)]) (st2 := [ov_i 10, ov_i 0, ov_r 22, ov_i 0, ov_r 6]) (pc2 := 75) b_197_72_2 rfl rfl ?_
  refine ov_acp d_197_75 la_State_44 la_1 la_2 la_3 (zb_6 I12) (zs_6 I12) (zb_22 I12) (zs_22 I12) (by omega) (Nat.le_of_ble_eq_true rfl) (by omega) ?_
  have I13 := ov_I_cp (s := 6) (t := 22) (n := 10) I12 (by decide) (fun k => ra_6 I12 k) (fun _ => (hw 22 (by decide +kernel)))
  refine ov_blk (ls2 := [(0, ov_r 20), (1, ov_r 4)]) (st2 := [ov_r 4]) (pc2 := 79) b_197_78_1 rfl rfl ?_
  refine ov_getf (v := ov_r 7) d_197_79 fl_State_18 (zb_4 I13) (zs_4 I13) (congrArg ov_r (rg_4_8 I13)) ?_
  refine ov_blk (ls2 := [(0, ov_r 20), (1, ov_r 4)]) (st2 := [ov_r 20, ov_i 0, ov_r 7]) (pc2 := 84) b_197_82_2 rfl rfl ?_
  refine ov_getf (v := ov_r 23) d_197_84 fl_State_18 (zb_20 I13) (zs_20 I13) (congrArg ov_r (rg_20_8 I13)) ?_
  refine ov_blk (ls2 := [(0, ov_r 20), (1, ov_r 4)]) (st2 := [ov_i 8, ov_i 0, ov_r 23, ov_i 0, ov_r 7]) (pc2 := 90) b_197_87_2 rfl rfl ?_
  refine ov_acp d_197_90 la_State_44 la_1 la_2 la_3 (zb_7 I13) (zs_7 I13) (zb_23 I13) (zs_23 I13) (by omega) (Nat.le_of_ble_eq_true rfl) (by omega) ?_
  have I14 := ov_I_cp (s := 7) (t := 23) (n := 8) I13 (by decide) (fun k => ra_7 I13 k) (fun _ => (hw 23 (by decide +kernel)))
  refine ov_blk (ls2 := [(0, ov_r 20), (1, ov_r 4)]) (st2 := [ov_r 4]) (pc2 := 94) b_197_93_1 rfl rfl ?_
  refine ov_getf (v := ov_r 8) d_197_94 fl_State_21 (zb_4 I14) (zs_4 I14) (congrArg ov_r (rg_4_9 I14)) ?_
  refine ov_blk (ls2 := [(0, ov_r 20), (1, ov_r 4)]) (st2 := [ov_r 20, ov_i 0, ov_r 8]) (pc2 := 99) b_197_97_2 rfl rfl ?_
  refine ov_getf (v := ov_r 24) d_197_99 fl_State_21 (zb_20 I14) (zs_20 I14) (congrArg ov_r (rg_20_9 I14)) ?_
  refine ov_blk (ls2 := [(0, ov_r 20), (1, ov_r 4)]) (st2 := [ov_i 8, ov_i 0, ov_r 24, ov_i 0, ov_r 8]) (pc2 := 105) b_197_102_2 rfl rfl ?_
  refine ov_acp d_197_105 la_State_44 la_1 la_2 la_3 (zb_8 I14) (zs_8 I14) (zb_24 I14) (zs_24 I14) (by omega) (Nat.le_of_ble_eq_true rfl) (by omega) ?_
  have I15 := ov_I_cp (s := 8) (t := 24) (n := 8) I14 (by decide) (fun k => ra_8 I14 k) (fun _ => (hw 24 (by decide +kernel)))
  exact ov_retv (st := []) d_197_108 rfl ⟨rfl, I15, (by show (h 36 7) = (h 36 7) ∧ (h 1 1) = (h 1 1) ∧ (h 90 2) = (h 90 2) ∧ (h 0 10) = (h 0 10) ∧ (h 0 11) = (h 0 11) ∧ (h 0 12) = (h 0 12) ∧ (h 0 13) = (h 0 13) ∧ (h 3 1) = (h 3 1) ∧ (h 36 8) = (h 36 8) ∧ (h 46 3) = (h 46 3) ∧ (h 46 4) = (h 46 4) ∧ (h 49 4) = (h 49 4) ∧ (h 49 5) = (h 49 5) ∧ (h 64 0) = (h 64 0) ∧ (h 76 0) = (h 76 0); omega), ⟨⟨rfl, rfl, rfl, rfl, rfl, rfl⟩, (fun i h0 h1 => by show (ov_cp (ov_cp (ov_cp (ov_cp (ov_up (ov_up (ov_up (ov_up (ov_up (ov_up h 20 0 (h 4 0)) 20 1 (h 4 1)) 20 2 (h 4 2)) 20 3 (h 4 3)) 20 4 (h 4 4)) 20 5 (h 4 5)) 5 21 10) 6 22 10) 7 23 8) 8 24 8) 21 i = h 5 i; rw [ov_cp_ne (by decide), ov_cp_ne (by decide), ov_cp_ne (by decide)]; exact ov_cp_i h0 h1), (fun i h0 h1 => by show (ov_cp (ov_cp (ov_cp (ov_cp (ov_up (ov_up (ov_up (ov_up (ov_up (ov_up h 20 0 (h 4 0)) 20 1 (h 4 1)) 20 2 (h 4 2)) 20 3 (h 4 3)) 20 4 (h 4 4)) 20 5 (h 4 5)) 5 21 10) 6 22 10) 7 23 8) 8 24 8) 22 i = h 6 i; rw [ov_cp_ne (by decide), ov_cp_ne (by decide)]; exact ov_cp_i h0 h1), (fun i h0 h1 => by show (ov_cp (ov_cp (ov_cp (ov_cp (ov_up (ov_up (ov_up (ov_up (ov_up (ov_up h 20 0 (h 4 0)) 20 1 (h 4 1)) 20 2 (h 4 2)) 20 3 (h 4 3)) 20 4 (h 4 4)) 20 5 (h 4 5)) 5 21 10) 6 22 10) 7 23 8) 8 24 8) 23 i = h 7 i; rw [ov_cp_ne (by decide)]; exact ov_cp_i h0 h1), (fun i h0 h1 => by show (ov_cp (ov_cp (ov_cp (ov_cp (ov_up (ov_up (ov_up (ov_up (ov_up (ov_up h 20 0 (h 4 0)) 20 1 (h 4 1)) 20 2 (h 4 2)) 20 3 (h 4 3)) 20 4 (h 4 4)) 20 5 (h 4 5)) 5 21 10) 6 22 10) 7 23 8) 8 24 8) 24 i = h 8 i; exact ov_cp_i h0 h1)⟩⟩
abbrev P_State_copy_25_4_t (F : ov_H) (z : ov_Z) (h : ov_H)  : Option ov_V → ov_Z → ov_H → Prop := fun r0 z' h' => r0 = none ∧ ov_I F z' h' ∧ ((h' 36 7) = (h 36 7) ∧ (h' 1 1) = (h 1 1) ∧ (h' 90 2) = (h 90 2) ∧ (h' 0 10) = (h 0 10) ∧ (h' 0 11) = (h 0 11) ∧ (h' 0 12) = (h 0 12) ∧ (h' 0 13) = (h 0 13) ∧ (h' 3 1) = (h 3 1) ∧ (h' 36 8) = (h 36 8) ∧ (h' 46 3) = (h 46 3) ∧ (h' 46 4) = (h 46 4) ∧ (h' 49 4) = (h 49 4) ∧ (h' 49 5) = (h 49 5) ∧ (h' 64 0) = (h 64 0) ∧ (h' 76 0) = (h 76 0)) ∧ (st_C (h' 25) (h' 26) (h' 27) (h' 28) (h' 29) (h 4) (h 5) (h 6) (h 7) (h 8))
set_option maxHeartbeats 4000000 in
theorem c_State_copy_25_4_t {u : ov_U} {F : ov_H} {z : ov_Z} {h : ov_H} (d : Nat) (hd : 2 ≤ d) (U : ov_cap u) (I : ov_I F z h) (hw : ov_kw 1040187392 F) : ov_T u d ov_m197 [ov_r 25, ov_r 4] z h (P_State_copy_25_4_t F z h) := by
  refine ov_en rfl (Nat.le_of_ble_eq_true rfl) ?_
  show ov_R u d ov_m197 0 [(0, ov_r 25), (1, ov_r 4)] [] z h (P_State_copy_25_4_t F z h)
  refine ov_blk (ls2 := [(0, ov_r 25), (1, ov_r 4)]) (st2 := [ov_r 4, ov_r 25]) (pc2 := 2) b_197_0_2 rfl rfl ?_
  refine ov_getf (v := ov_i (h 4 0)) d_197_2 fl_State_24 (zb_4 I) (zs_4 I) rfl ?_
  have g1 := rg_4_0 I
  refine ov_putf (x := (h 4 0)) d_197_5 fl_State_24 (zb_25 I) (zs_25 I) rfl nk_0 rfl ?_
  have I2 := up_25_0 (x := (h 4 0)) I (by omega) (hw 25 (by decide +kernel))
  refine ov_blk (ls2 := [(0, ov_r 25), (1, ov_r 4)]) (st2 := [ov_r 4, ov_r 25]) (pc2 := 10) b_197_8_2 rfl rfl ?_
  refine ov_getf (v := ov_i (h 4 1)) d_197_10 fl_State_28 (zb_4 I2) (zs_4 I2) rfl ?_
  have g3 := rg_4_1 I
  refine ov_putf (x := (h 4 1)) d_197_13 fl_State_28 (zb_25 I2) (zs_25 I2) rfl nk_0 rfl ?_
  have I4 := up_25_1 (x := (h 4 1)) I2 (by omega) (hw 25 (by decide +kernel))
  refine ov_blk (ls2 := [(0, ov_r 25), (1, ov_r 4)]) (st2 := [ov_r 4, ov_r 25]) (pc2 := 18) b_197_16_2 rfl rfl ?_
  refine ov_getf (v := ov_i (h 4 2)) d_197_18 fl_State_31 (zb_4 I4) (zs_4 I4) rfl ?_
  have g5 := rg_4_2 I
  refine ov_putf (x := (h 4 2)) d_197_21 fl_State_31 (zb_25 I4) (zs_25 I4) rfl nk_0 rfl ?_
  have I6 := up_25_2 (x := (h 4 2)) I4 (by omega) (hw 25 (by decide +kernel))
  refine ov_blk (ls2 := [(0, ov_r 25), (1, ov_r 4)]) (st2 := [ov_r 4, ov_r 25]) (pc2 := 26) b_197_24_2 rfl rfl ?_
  refine ov_getf (v := ov_l (h 4 3)) d_197_26 fl_State_34 (zb_4 I6) (zs_4 I6) rfl ?_
  refine ov_putf (x := (h 4 3)) d_197_29 fl_State_34 (zb_25 I6) (zs_25 I6) rfl nk_1 rfl ?_
  have I7 := up_25_3 (x := (h 4 3)) I6 (hw 25 (by decide +kernel))
  refine ov_blk (ls2 := [(0, ov_r 25), (1, ov_r 4)]) (st2 := [ov_r 4, ov_r 25]) (pc2 := 34) b_197_32_2 rfl rfl ?_
  refine ov_getf (v := ov_i (h 4 4)) d_197_34 fl_State_38 (zb_4 I7) (zs_4 I7) rfl ?_
  have g8 := rg_4_4 I
  refine ov_putf (x := (h 4 4)) d_197_37 fl_State_38 (zb_25 I7) (zs_25 I7) rfl nk_0 rfl ?_
  have I9 := up_25_4 (x := (h 4 4)) I7 (by omega) (hw 25 (by decide +kernel))
  refine ov_blk (ls2 := [(0, ov_r 25), (1, ov_r 4)]) (st2 := [ov_r 4, ov_r 25]) (pc2 := 42) b_197_40_2 rfl rfl ?_
  refine ov_getf (v := ov_i (h 4 5)) d_197_42 fl_State_41 (zb_4 I9) (zs_4 I9) rfl ?_
  have g10 := rg_4_5 I
  refine ov_putf (x := (h 4 5)) d_197_45 fl_State_41 (zb_25 I9) (zs_25 I9) rfl nk_0 rfl ?_
  have I11 := up_25_5 (x := (h 4 5)) I9 (by omega) (hw 25 (by decide +kernel))
  refine ov_blk (ls2 := [(0, ov_r 25), (1, ov_r 4)]) (st2 := [ov_r 4]) (pc2 := 49) b_197_48_1 rfl rfl ?_
  refine ov_getf (v := ov_r 5) d_197_49 fl_State_11 (zb_4 I11) (zs_4 I11) (congrArg ov_r (rg_4_6 I11)) ?_
  refine ov_blk (ls2 := [(0, ov_r 25), (1, ov_r 4)]) (st2 := [ov_r 25, ov_i 0, ov_r 5]) (pc2 := 54) b_197_52_2 rfl rfl ?_
  refine ov_getf (v := ov_r 26) d_197_54 fl_State_11 (zb_25 I11) (zs_25 I11) (congrArg ov_r (rg_25_6 I11)) ?_
  refine ov_blk (ls2 := [(0, ov_r 25), (1, ov_r 4)]) (st2 := [ov_i 10, ov_i 0, ov_r 26, ov_i 0, ov_r 5]) (pc2 := 60) b_197_57_2 rfl rfl ?_
  refine ov_acp d_197_60 la_State_44 la_1 la_2 la_3 (zb_5 I11) (zs_5 I11) (zb_26 I11) (zs_26 I11) (by omega) (Nat.le_of_ble_eq_true rfl) (by omega) ?_
  have I12 := ov_I_cp (s := 5) (t := 26) (n := 10) I11 (by decide) (fun k => ra_5 I11 k) (fun _ => (hw 26 (by decide +kernel)))
  refine ov_blk (ls2 := [(0, ov_r 25), (1, ov_r 4)]) (st2 := [ov_r 4]) (pc2 := 64) b_197_63_1 rfl rfl ?_
  refine ov_getf (v := ov_r 6) d_197_64 fl_State_15 (zb_4 I12) (zs_4 I12) (congrArg ov_r (rg_4_7 I12)) ?_
  refine ov_blk (ls2 := [(0, ov_r 25), (1, ov_r 4)]) (st2 := [ov_r 25, ov_i 0, ov_r 6]) (pc2 := 69) b_197_67_2 rfl rfl ?_
  refine ov_getf (v := ov_r 27) d_197_69 fl_State_15 (zb_25 I12) (zs_25 I12) (congrArg ov_r (rg_25_7 I12)) ?_
  refine ov_blk (ls2 := [(0, ov_r 25), (1, ov_r 4)]) (st2 := [ov_i 10, ov_i 0, ov_r 27, ov_i 0, ov_r 6]) (pc2 := 75) b_197_72_2 rfl rfl ?_
  refine ov_acp d_197_75 la_State_44 la_1 la_2 la_3 (zb_6 I12) (zs_6 I12) (zb_27 I12) (zs_27 I12) (by omega) (Nat.le_of_ble_eq_true rfl) (by omega) ?_
  have I13 := ov_I_cp (s := 6) (t := 27) (n := 10) I12 (by decide) (fun k => ra_6 I12 k) (fun _ => (hw 27 (by decide +kernel)))
  refine ov_blk (ls2 := [(0, ov_r 25), (1, ov_r 4)]) (st2 := [ov_r 4]) (pc2 := 79) b_197_78_1 rfl rfl ?_
  refine ov_getf (v := ov_r 7) d_197_79 fl_State_18 (zb_4 I13) (zs_4 I13) (congrArg ov_r (rg_4_8 I13)) ?_
  refine ov_blk (ls2 := [(0, ov_r 25), (1, ov_r 4)]) (st2 := [ov_r 25, ov_i 0, ov_r 7]) (pc2 := 84) b_197_82_2 rfl rfl ?_
  refine ov_getf (v := ov_r 28) d_197_84 fl_State_18 (zb_25 I13) (zs_25 I13) (congrArg ov_r (rg_25_8 I13)) ?_
  refine ov_blk (ls2 := [(0, ov_r 25), (1, ov_r 4)]) (st2 := [ov_i 8, ov_i 0, ov_r 28, ov_i 0, ov_r 7]) (pc2 := 90) b_197_87_2 rfl rfl ?_
  refine ov_acp d_197_90 la_State_44 la_1 la_2 la_3 (zb_7 I13) (zs_7 I13) (zb_28 I13) (zs_28 I13) (by omega) (Nat.le_of_ble_eq_true rfl) (by omega) ?_
  have I14 := ov_I_cp (s := 7) (t := 28) (n := 8) I13 (by decide) (fun k => ra_7 I13 k) (fun _ => (hw 28 (by decide +kernel)))
  refine ov_blk (ls2 := [(0, ov_r 25), (1, ov_r 4)]) (st2 := [ov_r 4]) (pc2 := 94) b_197_93_1 rfl rfl ?_
  refine ov_getf (v := ov_r 8) d_197_94 fl_State_21 (zb_4 I14) (zs_4 I14) (congrArg ov_r (rg_4_9 I14)) ?_
  refine ov_blk (ls2 := [(0, ov_r 25), (1, ov_r 4)]) (st2 := [ov_r 25, ov_i 0, ov_r 8]) (pc2 := 99) b_197_97_2 rfl rfl ?_
  refine ov_getf (v := ov_r 29) d_197_99 fl_State_21 (zb_25 I14) (zs_25 I14) (congrArg ov_r (rg_25_9 I14)) ?_
  refine ov_blk (ls2 := [(0, ov_r 25), (1, ov_r 4)]) (st2 := [ov_i 8, ov_i 0, ov_r 29, ov_i 0, ov_r 8]) (pc2 := 105) b_197_102_2 rfl rfl ?_
  refine ov_acp d_197_105 la_State_44 la_1 la_2 la_3 (zb_8 I14) (zs_8 I14) (zb_29 I14) (zs_29 I14) (by omega) (Nat.le_of_ble_eq_true rfl) (by omega) ?_
  have I15 := ov_I_cp (s := 8) (t := 29) (n := 8) I14 (by decide) (fun k => ra_8 I14 k) (fun _ => (hw 29 (by decide +kernel)))
  exact ov_retv (st := []) d_197_108 rfl ⟨rfl, I15, (by show (h 36 7) = (h 36 7) ∧ (h 1 1) = (h 1 1) ∧ (h 90 2) = (h 90 2) ∧ (h 0 10) = (h 0 10) ∧ (h 0 11) = (h 0 11) ∧ (h 0 12) = (h 0 12) ∧ (h 0 13) = (h 0 13) ∧ (h 3 1) = (h 3 1) ∧ (h 36 8) = (h 36 8) ∧ (h 46 3) = (h 46 3) ∧ (h 46 4) = (h 46 4) ∧ (h 49 4) = (h 49 4) ∧ (h 49 5) = (h 49 5) ∧ (h 64 0) = (h 64 0) ∧ (h 76 0) = (h 76 0); omega), ⟨⟨rfl, rfl, rfl, rfl, rfl, rfl⟩, (fun i h0 h1 => by show (ov_cp (ov_cp (ov_cp (ov_cp (ov_up (ov_up (ov_up (ov_up (ov_up (ov_up h 25 0 (h 4 0)) 25 1 (h 4 1)) 25 2 (h 4 2)) 25 3 (h 4 3)) 25 4 (h 4 4)) 25 5 (h 4 5)) 5 26 10) 6 27 10) 7 28 8) 8 29 8) 26 i = h 5 i; rw [ov_cp_ne (by decide), ov_cp_ne (by decide), ov_cp_ne (by decide)]; exact ov_cp_i h0 h1), (fun i h0 h1 => by show (ov_cp (ov_cp (ov_cp (ov_cp (ov_up (ov_up (ov_up (ov_up (ov_up (ov_up h 25 0 (h 4 0)) 25 1 (h 4 1)) 25 2 (h 4 2)) 25 3 (h 4 3)) 25 4 (h 4 4)) 25 5 (h 4 5)) 5 26 10) 6 27 10) 7 28 8) 8 29 8) 27 i = h 6 i; rw [ov_cp_ne (by decide), ov_cp_ne (by decide)]; exact ov_cp_i h0 h1), (fun i h0 h1 => by show (ov_cp (ov_cp (ov_cp (ov_cp (ov_up (ov_up (ov_up (ov_up (ov_up (ov_up h 25 0 (h 4 0)) 25 1 (h 4 1)) 25 2 (h 4 2)) 25 3 (h 4 3)) 25 4 (h 4 4)) 25 5 (h 4 5)) 5 26 10) 6 27 10) 7 28 8) 8 29 8) 28 i = h 7 i; rw [ov_cp_ne (by decide)]; exact ov_cp_i h0 h1), (fun i h0 h1 => by show (ov_cp (ov_cp (ov_cp (ov_cp (ov_up (ov_up (ov_up (ov_up (ov_up (ov_up h 25 0 (h 4 0)) 25 1 (h 4 1)) 25 2 (h 4 2)) 25 3 (h 4 3)) 25 4 (h 4 4)) 25 5 (h 4 5)) 5 26 10) 6 27 10) 7 28 8) 8 29 8) 29 i = h 8 i; exact ov_cp_i h0 h1)⟩⟩
abbrev P_State_copy_30_4_t (F : ov_H) (z : ov_Z) (h : ov_H)  : Option ov_V → ov_Z → ov_H → Prop := fun r0 z' h' => r0 = none ∧ ov_I F z' h' ∧ ((h' 36 7) = (h 36 7) ∧ (h' 1 1) = (h 1 1) ∧ (h' 90 2) = (h 90 2) ∧ (h' 0 10) = (h 0 10) ∧ (h' 0 11) = (h 0 11) ∧ (h' 0 12) = (h 0 12) ∧ (h' 0 13) = (h 0 13) ∧ (h' 3 1) = (h 3 1) ∧ (h' 36 8) = (h 36 8) ∧ (h' 46 3) = (h 46 3) ∧ (h' 46 4) = (h 46 4) ∧ (h' 49 4) = (h 49 4) ∧ (h' 49 5) = (h 49 5) ∧ (h' 64 0) = (h 64 0) ∧ (h' 76 0) = (h 76 0)) ∧ (st_C (h' 30) (h' 31) (h' 32) (h' 33) (h' 34) (h 4) (h 5) (h 6) (h 7) (h 8))
set_option maxHeartbeats 4000000 in
theorem c_State_copy_30_4_t {u : ov_U} {F : ov_H} {z : ov_Z} {h : ov_H} (d : Nat) (hd : 2 ≤ d) (U : ov_cap u) (I : ov_I F z h) (hw : ov_kw 33285996544 F) : ov_T u d ov_m197 [ov_r 30, ov_r 4] z h (P_State_copy_30_4_t F z h) := by
  refine ov_en rfl (Nat.le_of_ble_eq_true rfl) ?_
  show ov_R u d ov_m197 0 [(0, ov_r 30), (1, ov_r 4)] [] z h (P_State_copy_30_4_t F z h)
  refine ov_blk (ls2 := [(0, ov_r 30), (1, ov_r 4)]) (st2 := [ov_r 4, ov_r 30]) (pc2 := 2) b_197_0_2 rfl rfl ?_
  refine ov_getf (v := ov_i (h 4 0)) d_197_2 fl_State_24 (zb_4 I) (zs_4 I) rfl ?_
  have g1 := rg_4_0 I
  refine ov_putf (x := (h 4 0)) d_197_5 fl_State_24 (zb_30 I) (zs_30 I) rfl nk_0 rfl ?_
  have I2 := up_30_0 (x := (h 4 0)) I (by omega) (hw 30 (by decide +kernel))
  refine ov_blk (ls2 := [(0, ov_r 30), (1, ov_r 4)]) (st2 := [ov_r 4, ov_r 30]) (pc2 := 10) b_197_8_2 rfl rfl ?_
  refine ov_getf (v := ov_i (h 4 1)) d_197_10 fl_State_28 (zb_4 I2) (zs_4 I2) rfl ?_
  have g3 := rg_4_1 I
  refine ov_putf (x := (h 4 1)) d_197_13 fl_State_28 (zb_30 I2) (zs_30 I2) rfl nk_0 rfl ?_
  have I4 := up_30_1 (x := (h 4 1)) I2 (by omega) (hw 30 (by decide +kernel))
  refine ov_blk (ls2 := [(0, ov_r 30), (1, ov_r 4)]) (st2 := [ov_r 4, ov_r 30]) (pc2 := 18) b_197_16_2 rfl rfl ?_
  refine ov_getf (v := ov_i (h 4 2)) d_197_18 fl_State_31 (zb_4 I4) (zs_4 I4) rfl ?_
  have g5 := rg_4_2 I
  refine ov_putf (x := (h 4 2)) d_197_21 fl_State_31 (zb_30 I4) (zs_30 I4) rfl nk_0 rfl ?_
  have I6 := up_30_2 (x := (h 4 2)) I4 (by omega) (hw 30 (by decide +kernel))
  refine ov_blk (ls2 := [(0, ov_r 30), (1, ov_r 4)]) (st2 := [ov_r 4, ov_r 30]) (pc2 := 26) b_197_24_2 rfl rfl ?_
  refine ov_getf (v := ov_l (h 4 3)) d_197_26 fl_State_34 (zb_4 I6) (zs_4 I6) rfl ?_
  refine ov_putf (x := (h 4 3)) d_197_29 fl_State_34 (zb_30 I6) (zs_30 I6) rfl nk_1 rfl ?_
  have I7 := up_30_3 (x := (h 4 3)) I6 (hw 30 (by decide +kernel))
  refine ov_blk (ls2 := [(0, ov_r 30), (1, ov_r 4)]) (st2 := [ov_r 4, ov_r 30]) (pc2 := 34) b_197_32_2 rfl rfl ?_
  refine ov_getf (v := ov_i (h 4 4)) d_197_34 fl_State_38 (zb_4 I7) (zs_4 I7) rfl ?_
  have g8 := rg_4_4 I
  refine ov_putf (x := (h 4 4)) d_197_37 fl_State_38 (zb_30 I7) (zs_30 I7) rfl nk_0 rfl ?_
  have I9 := up_30_4 (x := (h 4 4)) I7 (by omega) (hw 30 (by decide +kernel))
  refine ov_blk (ls2 := [(0, ov_r 30), (1, ov_r 4)]) (st2 := [ov_r 4, ov_r 30]) (pc2 := 42) b_197_40_2 rfl rfl ?_
  refine ov_getf (v := ov_i (h 4 5)) d_197_42 fl_State_41 (zb_4 I9) (zs_4 I9) rfl ?_
  have g10 := rg_4_5 I
  refine ov_putf (x := (h 4 5)) d_197_45 fl_State_41 (zb_30 I9) (zs_30 I9) rfl nk_0 rfl ?_
  have I11 := up_30_5 (x := (h 4 5)) I9 (by omega) (hw 30 (by decide +kernel))
  refine ov_blk (ls2 := [(0, ov_r 30), (1, ov_r 4)]) (st2 := [ov_r 4]) (pc2 := 49) b_197_48_1 rfl rfl ?_
  refine ov_getf (v := ov_r 5) d_197_49 fl_State_11 (zb_4 I11) (zs_4 I11) (congrArg ov_r (rg_4_6 I11)) ?_
  refine ov_blk (ls2 := [(0, ov_r 30), (1, ov_r 4)]) (st2 := [ov_r 30, ov_i 0, ov_r 5]) (pc2 := 54) b_197_52_2 rfl rfl ?_
  refine ov_getf (v := ov_r 31) d_197_54 fl_State_11 (zb_30 I11) (zs_30 I11) (congrArg ov_r (rg_30_6 I11)) ?_
  refine ov_blk (ls2 := [(0, ov_r 30), (1, ov_r 4)]) (st2 := [ov_i 10, ov_i 0, ov_r 31, ov_i 0, ov_r 5]) (pc2 := 60) b_197_57_2 rfl rfl ?_
  refine ov_acp d_197_60 la_State_44 la_1 la_2 la_3 (zb_5 I11) (zs_5 I11) (zb_31 I11) (zs_31 I11) (by omega) (Nat.le_of_ble_eq_true rfl) (by omega) ?_
  have I12 := ov_I_cp (s := 5) (t := 31) (n := 10) I11 (by decide) (fun k => ra_5 I11 k) (fun _ => (hw 31 (by decide +kernel)))
  refine ov_blk (ls2 := [(0, ov_r 30), (1, ov_r 4)]) (st2 := [ov_r 4]) (pc2 := 64) b_197_63_1 rfl rfl ?_
  refine ov_getf (v := ov_r 6) d_197_64 fl_State_15 (zb_4 I12) (zs_4 I12) (congrArg ov_r (rg_4_7 I12)) ?_
  refine ov_blk (ls2 := [(0, ov_r 30), (1, ov_r 4)]) (st2 := [ov_r 30, ov_i 0, ov_r 6]) (pc2 := 69) b_197_67_2 rfl rfl ?_
  refine ov_getf (v := ov_r 32) d_197_69 fl_State_15 (zb_30 I12) (zs_30 I12) (congrArg ov_r (rg_30_7 I12)) ?_
  refine ov_blk (ls2 := [(0, ov_r 30), (1, ov_r 4)]) (st2 := [ov_i 10, ov_i 0, ov_r 32, ov_i 0, ov_r 6]) (pc2 := 75) b_197_72_2 rfl rfl ?_
  refine ov_acp d_197_75 la_State_44 la_1 la_2 la_3 (zb_6 I12) (zs_6 I12) (zb_32 I12) (zs_32 I12) (by omega) (Nat.le_of_ble_eq_true rfl) (by omega) ?_
  have I13 := ov_I_cp (s := 6) (t := 32) (n := 10) I12 (by decide) (fun k => ra_6 I12 k) (fun _ => (hw 32 (by decide +kernel)))
  refine ov_blk (ls2 := [(0, ov_r 30), (1, ov_r 4)]) (st2 := [ov_r 4]) (pc2 := 79) b_197_78_1 rfl rfl ?_
  refine ov_getf (v := ov_r 7) d_197_79 fl_State_18 (zb_4 I13) (zs_4 I13) (congrArg ov_r (rg_4_8 I13)) ?_
  refine ov_blk (ls2 := [(0, ov_r 30), (1, ov_r 4)]) (st2 := [ov_r 30, ov_i 0, ov_r 7]) (pc2 := 84) b_197_82_2 rfl rfl ?_
  refine ov_getf (v := ov_r 33) d_197_84 fl_State_18 (zb_30 I13) (zs_30 I13) (congrArg ov_r (rg_30_8 I13)) ?_
  refine ov_blk (ls2 := [(0, ov_r 30), (1, ov_r 4)]) (st2 := [ov_i 8, ov_i 0, ov_r 33, ov_i 0, ov_r 7]) (pc2 := 90) b_197_87_2 rfl rfl ?_
  refine ov_acp d_197_90 la_State_44 la_1 la_2 la_3 (zb_7 I13) (zs_7 I13) (zb_33 I13) (zs_33 I13) (by omega) (Nat.le_of_ble_eq_true rfl) (by omega) ?_
  have I14 := ov_I_cp (s := 7) (t := 33) (n := 8) I13 (by decide) (fun k => ra_7 I13 k) (fun _ => (hw 33 (by decide +kernel)))
  refine ov_blk (ls2 := [(0, ov_r 30), (1, ov_r 4)]) (st2 := [ov_r 4]) (pc2 := 94) b_197_93_1 rfl rfl ?_
  refine ov_getf (v := ov_r 8) d_197_94 fl_State_21 (zb_4 I14) (zs_4 I14) (congrArg ov_r (rg_4_9 I14)) ?_
  refine ov_blk (ls2 := [(0, ov_r 30), (1, ov_r 4)]) (st2 := [ov_r 30, ov_i 0, ov_r 8]) (pc2 := 99) b_197_97_2 rfl rfl ?_
  refine ov_getf (v := ov_r 34) d_197_99 fl_State_21 (zb_30 I14) (zs_30 I14) (congrArg ov_r (rg_30_9 I14)) ?_
  refine ov_blk (ls2 := [(0, ov_r 30), (1, ov_r 4)]) (st2 := [ov_i 8, ov_i 0, ov_r 34, ov_i 0, ov_r 8]) (pc2 := 105) b_197_102_2 rfl rfl ?_
  refine ov_acp d_197_105 la_State_44 la_1 la_2 la_3 (zb_8 I14) (zs_8 I14) (zb_34 I14) (zs_34 I14) (by omega) (Nat.le_of_ble_eq_true rfl) (by omega) ?_
  have I15 := ov_I_cp (s := 8) (t := 34) (n := 8) I14 (by decide) (fun k => ra_8 I14 k) (fun _ => (hw 34 (by decide +kernel)))
  exact ov_retv (st := []) d_197_108 rfl ⟨rfl, I15, (by show (h 36 7) = (h 36 7) ∧ (h 1 1) = (h 1 1) ∧ (h 90 2) = (h 90 2) ∧ (h 0 10) = (h 0 10) ∧ (h 0 11) = (h 0 11) ∧ (h 0 12) = (h 0 12) ∧ (h 0 13) = (h 0 13) ∧ (h 3 1) = (h 3 1) ∧ (h 36 8) = (h 36 8) ∧ (h 46 3) = (h 46 3) ∧ (h 46 4) = (h 46 4) ∧ (h 49 4) = (h 49 4) ∧ (h 49 5) = (h 49 5) ∧ (h 64 0) = (h 64 0) ∧ (h 76 0) = (h 76 0); omega), ⟨⟨rfl, rfl, rfl, rfl, rfl, rfl⟩, (fun i h0 h1 => by show (ov_cp (ov_cp (ov_cp (ov_cp (ov_up (ov_up (ov_up (ov_up (ov_up (ov_up h 30 0 (h 4 0)) 30 1 (h 4 1)) 30 2 (h 4 2)) 30 3 (h 4 3)) 30 4 (h 4 4)) 30 5 (h 4 5)) 5 31 10) 6 32 10) 7 33 8) 8 34 8) 31 i = h 5 i; rw [ov_cp_ne (by decide), ov_cp_ne (by decide), ov_cp_ne (by decide)]; exact ov_cp_i h0 h1), (fun i h0 h1 => by show (ov_cp (ov_cp (ov_cp (ov_cp (ov_up (ov_up (ov_up (ov_up (ov_up (ov_up h 30 0 (h 4 0)) 30 1 (h 4 1)) 30 2 (h 4 2)) 30 3 (h 4 3)) 30 4 (h 4 4)) 30 5 (h 4 5)) 5 31 10) 6 32 10) 7 33 8) 8 34 8) 32 i = h 6 i; rw [ov_cp_ne (by decide), ov_cp_ne (by decide)]; exact ov_cp_i h0 h1), (fun i h0 h1 => by show (ov_cp (ov_cp (ov_cp (ov_cp (ov_up (ov_up (ov_up (ov_up (ov_up (ov_up h 30 0 (h 4 0)) 30 1 (h 4 1)) 30 2 (h 4 2)) 30 3 (h 4 3)) 30 4 (h 4 4)) 30 5 (h 4 5)) 5 31 10) 6 32 10) 7 33 8) 8 34 8) 33 i = h 7 i; rw [ov_cp_ne (by decide)]; exact ov_cp_i h0 h1), (fun i h0 h1 => by show (ov_cp (ov_cp (ov_cp (ov_cp (ov_up (ov_up (ov_up (ov_up (ov_up (ov_up h 30 0 (h 4 0)) 30 1 (h 4 1)) 30 2 (h 4 2)) 30 3 (h 4 3)) 30 4 (h 4 4)) 30 5 (h 4 5)) 5 31 10) 6 32 10) 7 33 8) 8 34 8) 34 i = h 8 i; exact ov_cp_i h0 h1)⟩⟩
theorem b_95_4_4 : ov_ds ov_m95.2.1 4 [.iload_n 1, .lshr, .lconst 1, .land] = true := by decide +kernel
theorem b_95_8_2 : ov_ds ov_m95.2.1 8 [.lconst 0, .lcmp] = true := by decide +kernel
abbrev P_State_knows_4_t (F : ov_H) (z : ov_Z) (h : ov_H) (w : Int) : Option ov_V → ov_Z → ov_H → Prop := fun r0 z' h' => ∃ r : Int, r0 = some (ov_i r) ∧ z = z' ∧ h = h' ∧ ((r = 0 ∨ r = 1) ∧ (r = 1 → ¬ ov_land (ov_lshr (h 4 3) w) 1 = 0) ∧ (r = 0 → ov_land (ov_lshr (h 4 3) w) 1 = 0))
set_option maxHeartbeats 4000000 in
theorem c_State_knows_4_t {u : ov_U} {F : ov_H} {z : ov_Z} {h : ov_H} (d : Nat) (hd : 0 ≤ d) (U : ov_cap u) (I : ov_I F z h) (w : Int) (g_w : ov_g w) (p0 : 0 ≤ w ∧ w ≤ 53) : ov_T u d ov_m95 [ov_r 4, ov_i w] z h (P_State_knows_4_t F z h w) := by
  refine ov_en rfl (Nat.le_of_ble_eq_true rfl) ?_
  show ov_R u d ov_m95 0 [(0, ov_r 4), (1, ov_i w)] [] z h (P_State_knows_4_t F z h w)
  refine ov_blk (ls2 := [(0, ov_r 4), (1, ov_i w)]) (st2 := [ov_r 4]) (pc2 := 1) b_95_0_1 rfl rfl ?_
  refine ov_getf (v := ov_l (h 4 3)) d_95_1 fl_State_34 (zb_4 I) (zs_4 I) rfl ?_
  refine ov_blk (ls2 := [(0, ov_r 4), (1, ov_i w)]) (st2 := [ov_l (ov_land (ov_lshr (h 4 3) w) 1)]) (pc2 := 8) b_95_4_4 rfl rfl ?_
  have gk : ov_land (ov_lshr (h 4 3) w) 1 = 0 ∨ ov_land (ov_lshr (h 4 3) w) 1 = 1 := kb_01 (by omega) (by omega)
  refine ov_blk (ls2 := [(0, ov_r 4), (1, ov_i w)]) (st2 := [ov_i (ov_lcmp (ov_land (ov_lshr (h 4 3) w) 1) 0)]) (pc2 := 10) b_95_8_2 rfl rfl ?_
  have g1 := ov_lcg (ov_land (ov_lshr (h 4 3) w) 1) 0
  have g2 := ov_lcs (a := (ov_land (ov_lshr (h 4 3) w) 1)) (b := 0) (by omega) (by omega)
  refine ov_ifeq (tgt := 17) d_95_10 (by decide) (by omega) (fun c3 => ?_) (fun c3 => ?_)
  · skip
    refine ov_blk (ls2 := [(0, ov_r 4), (1, ov_i w)]) (st2 := [ov_i 0]) (pc2 := 18) b_95_17_1 rfl rfl ?_
    exact ov_retz (st := []) d_95_18 rfl (by omega) ⟨_, rfl, rfl, rfl, (by show (0 = 0 ∨ 0 = 1) ∧ (0 = 1 → ¬ ov_land (ov_lshr (h 4 3) w) 1 = 0) ∧ (0 = 0 → ov_land (ov_lshr (h 4 3) w) 1 = 0); omega)⟩
  · skip
    refine ov_blk (ls2 := [(0, ov_r 4), (1, ov_i w)]) (st2 := [ov_i 1]) (pc2 := 14) b_95_13_1 rfl rfl ?_
    refine ov_goto (tgt := 18) d_95_14 (by decide) ?_
    exact ov_retz (st := []) d_95_18 rfl (by omega) ⟨_, rfl, rfl, rfl, (by show (1 = 0 ∨ 1 = 1) ∧ (1 = 1 → ¬ ov_land (ov_lshr (h 4 3) w) 1 = 0) ∧ (1 = 0 → ov_land (ov_lshr (h 4 3) w) 1 = 0); omega)⟩
abbrev P_State_addTry_4_t (F : ov_H) (z : ov_Z) (h : ov_H) (w : Int) (p : Int) (t : Int) : Option ov_V → ov_Z → ov_H → Prop := fun r0 z' h' => ∃ r : Int, r0 = some (ov_i r) ∧ ov_I F z' h' ∧ ((r = 0 ∨ r = 1) ∧ (h' 36 7) = (h 36 7) ∧ (h' 1 1) = (h 1 1) ∧ (h' 90 2) = (h 90 2) ∧ (h' 0 10) = (h 0 10) ∧ (h' 0 11) = (h 0 11) ∧ (h' 0 12) = (h 0 12) ∧ (h' 0 13) = (h 0 13) ∧ (h' 3 1) = (h 3 1) ∧ (h' 36 8) = (h 36 8) ∧ (h' 46 3) = (h 46 3) ∧ (h' 46 4) = (h 46 4) ∧ (h' 49 4) = (h 49 4) ∧ (h' 49 5) = (h 49 5) ∧ (h' 64 0) = (h 64 0) ∧ (h' 76 0) = (h 76 0)) ∧ ((r = 0 ∧ ¬ h 4 4 < 10 ∧ st_Z h h') ∨ (r = 1 ∧ h 4 4 < 10 ∧ st_At h h' w p t))
set_option maxHeartbeats 4000000 in
theorem c_State_addTry_4_t {u : ov_U} {F : ov_H} {z : ov_Z} {h : ov_H} (d : Nat) (hd : 0 ≤ d) (U : ov_cap u) (I : ov_I F z h) (hw : ov_kw 112 F) (w : Int) (p : Int) (t : Int) (g_w : ov_g w) (g_p : p = 0 ∨ p = 1) (g_t : ov_g t) : ov_T u d ov_m173 [ov_r 4, ov_i w, ov_i p, ov_i t] z h (P_State_addTry_4_t F z h w p t) := by
  refine ov_en rfl (Nat.le_of_ble_eq_true rfl) ?_
  show ov_R u d ov_m173 0 [(0, ov_r 4), (1, ov_i w), (2, ov_i p), (3, ov_i t)] [] z h (P_State_addTry_4_t F z h w p t)
  refine ov_blk (ls2 := [(0, ov_r 4), (1, ov_i w), (2, ov_i p), (3, ov_i t)]) (st2 := [ov_r 4]) (pc2 := 1) b_173_0_1 rfl rfl ?_
  refine ov_getf (v := ov_i (h 4 4)) d_173_1 fl_State_38 (zb_4 I) (zs_4 I) rfl ?_
  have g1 := rg_4_4 I
  refine ov_blk (ls2 := [(0, ov_r 4), (1, ov_i w), (2, ov_i p), (3, ov_i t)]) (st2 := [ov_i 10, ov_i (h 4 4)]) (pc2 := 6) b_173_4_1 rfl rfl ?_
  refine ov_iclt (tgt := 11) d_173_6 (by decide) (by omega) (by omega) (fun c2 => ?_) (fun c2 => ?_)
  · skip
    refine ov_blk (ls2 := [(0, ov_r 4), (1, ov_i w), (2, ov_i p), (3, ov_i t)]) (st2 := [ov_r 4]) (pc2 := 12) b_173_11_1 rfl rfl ?_
    refine ov_getf (v := ov_r 5) d_173_12 fl_State_11 (zb_4 I) (zs_4 I) (congrArg ov_r (rg_4_6 I)) ?_
    refine ov_blk (ls2 := [(0, ov_r 4), (1, ov_i w), (2, ov_i p), (3, ov_i t)]) (st2 := [ov_r 4, ov_r 5]) (pc2 := 16) b_173_15_1 rfl rfl ?_
    refine ov_getf (v := ov_i (h 4 4)) d_173_16 fl_State_38 (zb_4 I) (zs_4 I) rfl ?_
    refine ov_blk (ls2 := [(0, ov_r 4), (1, ov_i w), (2, ov_i p), (3, ov_i t)]) (st2 := [ov_i w, ov_i (h 4 4), ov_r 5]) (pc2 := 20) b_173_19_1 rfl rfl ?_
    refine ov_iast d_173_20 (zb_5 I) (zs_5 I) (by omega) ?_
    have I4 := ua_5 (k := (h 4 4)) (x := w) I (by omega) (hw 5 (by decide +kernel))
    refine ov_blk (ls2 := [(0, ov_r 4), (1, ov_i w), (2, ov_i p), (3, ov_i t)]) (st2 := [ov_r 4]) (pc2 := 22) b_173_21_1 rfl rfl ?_
    refine ov_getf (v := ov_r 6) d_173_22 fl_State_15 (zb_4 I4) (zs_4 I4) (congrArg ov_r (rg_4_7 I4)) ?_
    refine ov_blk (ls2 := [(0, ov_r 4), (1, ov_i w), (2, ov_i p), (3, ov_i t)]) (st2 := [ov_r 4, ov_r 6]) (pc2 := 26) b_173_25_1 rfl rfl ?_
    refine ov_getf (v := ov_i (h 4 4)) d_173_26 fl_State_38 (zb_4 I4) (zs_4 I4) rfl ?_
    refine ov_blk (ls2 := [(0, ov_r 4), (1, ov_i w), (2, ov_i p), (3, ov_i t)]) (st2 := [ov_i p, ov_i (h 4 4), ov_r 6]) (pc2 := 30) b_173_29_1 rfl rfl ?_
    refine ov_ifeq (tgt := 37) d_173_30 (by decide) (by omega) (fun c6 => ?_) (fun c6 => ?_)
    · skip
      refine ov_blk (ls2 := [(0, ov_r 4), (1, ov_i w), (2, ov_i p), (3, ov_i t)]) (st2 := [ov_i (-1), ov_i (h 4 4), ov_r 6]) (pc2 := 38) b_173_37_1 rfl rfl ?_
      refine ov_iast d_173_38 (zb_6 I4) (zs_6 I4) (by omega) ?_
      have I7 := ua_6 (k := (h 4 4)) (x := (-1)) I4 (by omega) (hw 6 (by decide +kernel))
      refine ov_blk (ls2 := [(0, ov_r 4), (1, ov_i w), (2, ov_i p), (3, ov_i t)]) (st2 := [ov_r 4, ov_r 4]) (pc2 := 41) b_173_39_2 rfl rfl ?_
      refine ov_getf (v := ov_i (h 4 4)) d_173_41 fl_State_38 (zb_4 I7) (zs_4 I7) rfl ?_
      refine ov_blk (ls2 := [(0, ov_r 4), (1, ov_i w), (2, ov_i p), (3, ov_i t)]) (st2 := [ov_i ((h 4 4) + 1), ov_r 4]) (pc2 := 46) b_173_44_2 rfl rfl ?_
      refine ov_putf (x := ((h 4 4) + 1)) d_173_46 fl_State_38 (zb_4 I7) (zs_4 I7) rfl nk_0 rfl ?_
      have I9 := up_4_4 (x := ((h 4 4) + 1)) I7 (by omega) (hw 4 (by decide +kernel))
      refine ov_blk (ls2 := [(0, ov_r 4), (1, ov_i w), (2, ov_i p), (3, ov_i t)]) (st2 := [ov_i 1]) (pc2 := 50) b_173_49_1 rfl rfl ?_
      exact ov_retz (st := []) d_173_50 rfl (by omega) ⟨_, rfl, I9, (by show (1 = 0 ∨ 1 = 1) ∧ (h 36 7) = (h 36 7) ∧ (h 1 1) = (h 1 1) ∧ (h 90 2) = (h 90 2) ∧ (h 0 10) = (h 0 10) ∧ (h 0 11) = (h 0 11) ∧ (h 0 12) = (h 0 12) ∧ (h 0 13) = (h 0 13) ∧ (h 3 1) = (h 3 1) ∧ (h 36 8) = (h 36 8) ∧ (h 46 3) = (h 46 3) ∧ (h 46 4) = (h 46 4) ∧ (h 49 4) = (h 49 4) ∧ (h 49 5) = (h 49 5) ∧ (h 64 0) = (h 64 0) ∧ (h 76 0) = (h 76 0); omega), (Or.inr ⟨rfl, (by omega), ⟨⟨(by show ((h 4 4) + 1) = _; omega), rfl, rfl, rfl, rfl, rfl⟩, (by show (ov_up (ov_up (ov_up h 5 (h 4 4) w) 6 (h 4 4) (-1)) 4 4 ((h 4 4) + 1)) 5 = _; rw [ov_up_ne (by decide), ov_up_ne (by decide), ov_up_row]), ⟨(-1), (by show (ov_up (ov_up (ov_up h 5 (h 4 4) w) 6 (h 4 4) (-1)) 4 4 ((h 4 4) + 1)) 6 = _; rw [ov_up_ne (by decide), ov_up_row, ov_up_ne (by decide)]), (by omega), (by omega)⟩⟩⟩)⟩
    · skip
      refine ov_blk (ls2 := [(0, ov_r 4), (1, ov_i w), (2, ov_i p), (3, ov_i t)]) (st2 := [ov_i t, ov_i (h 4 4), ov_r 6]) (pc2 := 34) b_173_33_1 rfl rfl ?_
      refine ov_goto (tgt := 38) d_173_34 (by decide) ?_
      refine ov_iast d_173_38 (zb_6 I4) (zs_6 I4) (by omega) ?_
      have I10 := ua_6 (k := (h 4 4)) (x := t) I4 (by omega) (hw 6 (by decide +kernel))
      refine ov_blk (ls2 := [(0, ov_r 4), (1, ov_i w), (2, ov_i p), (3, ov_i t)]) (st2 := [ov_r 4, ov_r 4]) (pc2 := 41) b_173_39_2 rfl rfl ?_
      refine ov_getf (v := ov_i (h 4 4)) d_173_41 fl_State_38 (zb_4 I10) (zs_4 I10) rfl ?_
      refine ov_blk (ls2 := [(0, ov_r 4), (1, ov_i w), (2, ov_i p), (3, ov_i t)]) (st2 := [ov_i ((h 4 4) + 1), ov_r 4]) (pc2 := 46) b_173_44_2 rfl rfl ?_
      refine ov_putf (x := ((h 4 4) + 1)) d_173_46 fl_State_38 (zb_4 I10) (zs_4 I10) rfl nk_0 rfl ?_
      have I12 := up_4_4 (x := ((h 4 4) + 1)) I10 (by omega) (hw 4 (by decide +kernel))
      refine ov_blk (ls2 := [(0, ov_r 4), (1, ov_i w), (2, ov_i p), (3, ov_i t)]) (st2 := [ov_i 1]) (pc2 := 50) b_173_49_1 rfl rfl ?_
      exact ov_retz (st := []) d_173_50 rfl (by omega) ⟨_, rfl, I12, (by show (1 = 0 ∨ 1 = 1) ∧ (h 36 7) = (h 36 7) ∧ (h 1 1) = (h 1 1) ∧ (h 90 2) = (h 90 2) ∧ (h 0 10) = (h 0 10) ∧ (h 0 11) = (h 0 11) ∧ (h 0 12) = (h 0 12) ∧ (h 0 13) = (h 0 13) ∧ (h 3 1) = (h 3 1) ∧ (h 36 8) = (h 36 8) ∧ (h 46 3) = (h 46 3) ∧ (h 46 4) = (h 46 4) ∧ (h 49 4) = (h 49 4) ∧ (h 49 5) = (h 49 5) ∧ (h 64 0) = (h 64 0) ∧ (h 76 0) = (h 76 0); omega), (Or.inr ⟨rfl, (by omega), ⟨⟨(by show ((h 4 4) + 1) = _; omega), rfl, rfl, rfl, rfl, rfl⟩, (by show (ov_up (ov_up (ov_up h 5 (h 4 4) w) 6 (h 4 4) t) 4 4 ((h 4 4) + 1)) 5 = _; rw [ov_up_ne (by decide), ov_up_ne (by decide), ov_up_row]), ⟨t, (by show (ov_up (ov_up (ov_up h 5 (h 4 4) w) 6 (h 4 4) t) 4 4 ((h 4 4) + 1)) 6 = _; rw [ov_up_ne (by decide), ov_up_row, ov_up_ne (by decide)]), (by omega), (by omega)⟩⟩⟩)⟩
  · skip
    refine ov_blk (ls2 := [(0, ov_r 4), (1, ov_i w), (2, ov_i p), (3, ov_i t)]) (st2 := [ov_i 0]) (pc2 := 10) b_173_9_1 rfl rfl ?_
    exact ov_retz (st := []) d_173_10 rfl (by omega) ⟨_, rfl, I, (by show (0 = 0 ∨ 0 = 1) ∧ (h 36 7) = (h 36 7) ∧ (h 1 1) = (h 1 1) ∧ (h 90 2) = (h 90 2) ∧ (h 0 10) = (h 0 10) ∧ (h 0 11) = (h 0 11) ∧ (h 0 12) = (h 0 12) ∧ (h 0 13) = (h 0 13) ∧ (h 3 1) = (h 3 1) ∧ (h 36 8) = (h 36 8) ∧ (h 46 3) = (h 46 3) ∧ (h 46 4) = (h 46 4) ∧ (h 49 4) = (h 49 4) ∧ (h 49 5) = (h 49 5) ∧ (h 64 0) = (h 64 0) ∧ (h 76 0) = (h 76 0); omega), (Or.inl ⟨rfl, (by omega), (fun _ _ => rfl)⟩)⟩
abbrev P_State_addSighting_4_t (F : ov_H) (z : ov_Z) (h : ov_H) (w : Int) (t : Int) : Option ov_V → ov_Z → ov_H → Prop := fun r0 z' h' => ∃ r : Int, r0 = some (ov_i r) ∧ ov_I F z' h' ∧ ((r = 0 ∨ r = 1) ∧ (h' 36 7) = (h 36 7) ∧ (h' 1 1) = (h 1 1) ∧ (h' 90 2) = (h 90 2) ∧ (h' 0 10) = (h 0 10) ∧ (h' 0 11) = (h 0 11) ∧ (h' 0 12) = (h 0 12) ∧ (h' 0 13) = (h 0 13) ∧ (h' 3 1) = (h 3 1) ∧ (h' 36 8) = (h 36 8) ∧ (h' 46 3) = (h 46 3) ∧ (h' 46 4) = (h 46 4) ∧ (h' 49 4) = (h 49 4) ∧ (h' 49 5) = (h 49 5) ∧ (h' 64 0) = (h 64 0) ∧ (h' 76 0) = (h 76 0)) ∧ ((r = 0 ∧ ¬ h 4 5 < 8 ∧ st_Z h h') ∨ (r = 1 ∧ h 4 5 < 8 ∧ st_As h h' w t))
set_option maxHeartbeats 4000000 in
theorem c_State_addSighting_4_t {u : ov_U} {F : ov_H} {z : ov_Z} {h : ov_H} (d : Nat) (hd : 0 ≤ d) (U : ov_cap u) (I : ov_I F z h) (hw : ov_kw 400 F) (w : Int) (t : Int) (g_w : ov_g w) (g_t : ov_g t) : ov_T u d ov_m186 [ov_r 4, ov_i w, ov_i t] z h (P_State_addSighting_4_t F z h w t) := by
  refine ov_en rfl (Nat.le_of_ble_eq_true rfl) ?_
  show ov_R u d ov_m186 0 [(0, ov_r 4), (1, ov_i w), (2, ov_i t)] [] z h (P_State_addSighting_4_t F z h w t)
  refine ov_blk (ls2 := [(0, ov_r 4), (1, ov_i w), (2, ov_i t)]) (st2 := [ov_r 4]) (pc2 := 1) b_186_0_1 rfl rfl ?_
  refine ov_getf (v := ov_i (h 4 5)) d_186_1 fl_State_41 (zb_4 I) (zs_4 I) rfl ?_
  have g1 := rg_4_5 I
  refine ov_blk (ls2 := [(0, ov_r 4), (1, ov_i w), (2, ov_i t)]) (st2 := [ov_i 8, ov_i (h 4 5)]) (pc2 := 6) b_186_4_1 rfl rfl ?_
  refine ov_iclt (tgt := 11) d_186_6 (by decide) (by omega) (by omega) (fun c2 => ?_) (fun c2 => ?_)
  · skip
    refine ov_blk (ls2 := [(0, ov_r 4), (1, ov_i w), (2, ov_i t)]) (st2 := [ov_r 4]) (pc2 := 12) b_186_11_1 rfl rfl ?_
    refine ov_getf (v := ov_r 7) d_186_12 fl_State_18 (zb_4 I) (zs_4 I) (congrArg ov_r (rg_4_8 I)) ?_
    refine ov_blk (ls2 := [(0, ov_r 4), (1, ov_i w), (2, ov_i t)]) (st2 := [ov_r 4, ov_r 7]) (pc2 := 16) b_186_15_1 rfl rfl ?_
    refine ov_getf (v := ov_i (h 4 5)) d_186_16 fl_State_41 (zb_4 I) (zs_4 I) rfl ?_
    refine ov_blk (ls2 := [(0, ov_r 4), (1, ov_i w), (2, ov_i t)]) (st2 := [ov_i w, ov_i (h 4 5), ov_r 7]) (pc2 := 20) b_186_19_1 rfl rfl ?_
    refine ov_iast d_186_20 (zb_7 I) (zs_7 I) (by omega) ?_
    have I4 := ua_7 (k := (h 4 5)) (x := w) I (by omega) (hw 7 (by decide +kernel))
    refine ov_blk (ls2 := [(0, ov_r 4), (1, ov_i w), (2, ov_i t)]) (st2 := [ov_r 4]) (pc2 := 22) b_186_21_1 rfl rfl ?_
    refine ov_getf (v := ov_r 8) d_186_22 fl_State_21 (zb_4 I4) (zs_4 I4) (congrArg ov_r (rg_4_9 I4)) ?_
    refine ov_blk (ls2 := [(0, ov_r 4), (1, ov_i w), (2, ov_i t)]) (st2 := [ov_r 4, ov_r 8]) (pc2 := 26) b_186_25_1 rfl rfl ?_
    refine ov_getf (v := ov_i (h 4 5)) d_186_26 fl_State_41 (zb_4 I4) (zs_4 I4) rfl ?_
    refine ov_blk (ls2 := [(0, ov_r 4), (1, ov_i w), (2, ov_i t)]) (st2 := [ov_i t, ov_i (h 4 5), ov_r 8]) (pc2 := 30) b_186_29_1 rfl rfl ?_
    refine ov_iast d_186_30 (zb_8 I4) (zs_8 I4) (by omega) ?_
    have I6 := ua_8 (k := (h 4 5)) (x := t) I4 (by omega) (hw 8 (by decide +kernel))
    refine ov_blk (ls2 := [(0, ov_r 4), (1, ov_i w), (2, ov_i t)]) (st2 := [ov_r 4, ov_r 4]) (pc2 := 33) b_186_31_2 rfl rfl ?_
    refine ov_getf (v := ov_i (h 4 5)) d_186_33 fl_State_41 (zb_4 I6) (zs_4 I6) rfl ?_
    refine ov_blk (ls2 := [(0, ov_r 4), (1, ov_i w), (2, ov_i t)]) (st2 := [ov_i ((h 4 5) + 1), ov_r 4]) (pc2 := 38) b_186_36_2 rfl rfl ?_
    refine ov_putf (x := ((h 4 5) + 1)) d_186_38 fl_State_41 (zb_4 I6) (zs_4 I6) rfl nk_0 rfl ?_
    have I8 := up_4_5 (x := ((h 4 5) + 1)) I6 (by omega) (hw 4 (by decide +kernel))
    refine ov_blk (ls2 := [(0, ov_r 4), (1, ov_i w), (2, ov_i t)]) (st2 := [ov_i 1]) (pc2 := 42) b_186_41_1 rfl rfl ?_
    exact ov_retz (st := []) d_186_42 rfl (by omega) ⟨_, rfl, I8, (by show (1 = 0 ∨ 1 = 1) ∧ (h 36 7) = (h 36 7) ∧ (h 1 1) = (h 1 1) ∧ (h 90 2) = (h 90 2) ∧ (h 0 10) = (h 0 10) ∧ (h 0 11) = (h 0 11) ∧ (h 0 12) = (h 0 12) ∧ (h 0 13) = (h 0 13) ∧ (h 3 1) = (h 3 1) ∧ (h 36 8) = (h 36 8) ∧ (h 46 3) = (h 46 3) ∧ (h 46 4) = (h 46 4) ∧ (h 49 4) = (h 49 4) ∧ (h 49 5) = (h 49 5) ∧ (h 64 0) = (h 64 0) ∧ (h 76 0) = (h 76 0); omega), (Or.inr ⟨rfl, (by omega), ⟨⟨(by show ((h 4 5) + 1) = _; omega), rfl, rfl, rfl, rfl, rfl⟩, (by show (ov_up (ov_up (ov_up h 7 (h 4 5) w) 8 (h 4 5) t) 4 5 ((h 4 5) + 1)) 7 = _; rw [ov_up_ne (by decide), ov_up_ne (by decide), ov_up_row]), (by show (ov_up (ov_up (ov_up h 7 (h 4 5) w) 8 (h 4 5) t) 4 5 ((h 4 5) + 1)) 8 = _; rw [ov_up_ne (by decide), ov_up_row, ov_up_ne (by decide)])⟩⟩)⟩
  · skip
    refine ov_blk (ls2 := [(0, ov_r 4), (1, ov_i w), (2, ov_i t)]) (st2 := [ov_i 0]) (pc2 := 10) b_186_9_1 rfl rfl ?_
    exact ov_retz (st := []) d_186_10 rfl (by omega) ⟨_, rfl, I, (by show (0 = 0 ∨ 0 = 1) ∧ (h 36 7) = (h 36 7) ∧ (h 1 1) = (h 1 1) ∧ (h 90 2) = (h 90 2) ∧ (h 0 10) = (h 0 10) ∧ (h 0 11) = (h 0 11) ∧ (h 0 12) = (h 0 12) ∧ (h 0 13) = (h 0 13) ∧ (h 3 1) = (h 3 1) ∧ (h 36 8) = (h 36 8) ∧ (h 46 3) = (h 46 3) ∧ (h 46 4) = (h 46 4) ∧ (h 49 4) = (h 49 4) ∧ (h 49 5) = (h 49 5) ∧ (h 64 0) = (h 64 0) ∧ (h 76 0) = (h 76 0); omega), (Or.inl ⟨rfl, (by omega), (fun _ _ => rfl)⟩)⟩
abbrev P_OF_runsLeft_0_k0_10_58_t (F : ov_H) (z : ov_Z) (h : ov_H)  : Option ov_V → ov_Z → ov_H → Prop := fun r0 z' h' => ∃ r : Int, r0 = some (ov_i r) ∧ z = z' ∧ h = h' ∧ (((h 58 8) = 1 → r = 0) ∧ (¬ (h 58 8) = 1 → r = (h 64 3) - (h 4 2)) ∧ -2147483648 ≤ r ∧ r ≤ 2147483647)
set_option maxHeartbeats 4000000 in
theorem c_OF_runsLeft_0_k0_10_58_t {u : ov_U} {F : ov_H} {z : ov_Z} {h : ov_H} (d : Nat) (hd : 0 ≤ d) (U : ov_cap u) (I : ov_I F z h) (k0 : h 0 10 = 58) (p0 : 0 ≤ h 4 2 ∧ h 4 2 ≤ 9) : ov_T u d ov_m103 [ov_r 0] z h (P_OF_runsLeft_0_k0_10_58_t F z h) := by
  refine ov_en rfl (Nat.le_of_ble_eq_true rfl) ?_
  show ov_R u d ov_m103 0 [(0, ov_r 0)] [] z h (P_OF_runsLeft_0_k0_10_58_t F z h)
  refine ov_blk (ls2 := [(0, ov_r 0)]) (st2 := [ov_r 0]) (pc2 := 1) b_103_0_1 rfl rfl ?_
  refine ov_getf (v := ov_r 58) d_103_1 fl_OF_78 (zb_0 I) (zs_0 I) (congrArg ov_r k0) ?_
  refine ov_getf (v := ov_i (h 58 8)) d_103_4 fl_OF_188 (zb_58 I) (zs_58 I) rfl ?_
  have g1 := rg_58_8 I
  refine ov_ifeq (tgt := 14) d_103_7 (by decide) (by omega) (fun c2 => ?_) (fun c2 => ?_)
  · skip
    refine ov_blk (ls2 := [(0, ov_r 0)]) (st2 := [ov_r 0]) (pc2 := 15) b_103_14_1 rfl rfl ?_
    refine ov_getf (v := ov_r 58) d_103_15 fl_OF_78 (zb_0 I) (zs_0 I) (congrArg ov_r k0) ?_
    refine ov_getf (v := ov_r 64) d_103_18 fl_OF_176 (zb_58 I) (zs_58 I) (congrArg ov_r (rg_58_7 I)) ?_
    refine ov_blk (ls2 := [(0, ov_r 0)]) (st2 := [ov_i 3, ov_r 64]) (pc2 := 22) b_103_21_1 rfl rfl ?_
    refine ov_iald d_103_22 (zb_64 I) (zs_64 I) (by omega) ?_
    have g3 := ra_64 I 3
    refine ov_blk (ls2 := [(0, ov_r 0)]) (st2 := [ov_r 0, ov_i (h 64 3)]) (pc2 := 24) b_103_23_1 rfl rfl ?_
    refine ov_getf (v := ov_r 4) d_103_24 fl_OF_28 (zb_0 I) (zs_0 I) (congrArg ov_r (rg_0_2 I)) ?_
    refine ov_getf (v := ov_i (h 4 2)) d_103_27 fl_OF_185 (zb_4 I) (zs_4 I) rfl ?_
    have g4 := rg_4_2 I
    refine ov_blk (ls2 := [(0, ov_r 0)]) (st2 := [ov_i ((h 64 3) - (h 4 2))]) (pc2 := 31) b_103_30_1 rfl rfl ?_
    exact ov_reti (st := []) d_103_31 rfl ⟨_, rfl, rfl, rfl, (by show ((h 58 8) = 1 → ((h 64 3) - (h 4 2)) = 0) ∧ (¬ (h 58 8) = 1 → ((h 64 3) - (h 4 2)) = (h 64 3) - (h 4 2)) ∧ -2147483648 ≤ ((h 64 3) - (h 4 2)) ∧ ((h 64 3) - (h 4 2)) ≤ 2147483647; omega)⟩
  · skip
    refine ov_blk (ls2 := [(0, ov_r 0)]) (st2 := [ov_i 0]) (pc2 := 11) b_103_10_1 rfl rfl ?_
    refine ov_goto (tgt := 31) d_103_11 (by decide) ?_
    exact ov_reti (st := []) d_103_31 rfl ⟨_, rfl, rfl, rfl, (by show ((h 58 8) = 1 → 0 = 0) ∧ (¬ (h 58 8) = 1 → 0 = (h 64 3) - (h 4 2)) ∧ -2147483648 ≤ 0 ∧ 0 ≤ 2147483647; omega)⟩
abbrev P_OF_runsLeft_0_k0_10_70_t (F : ov_H) (z : ov_Z) (h : ov_H)  : Option ov_V → ov_Z → ov_H → Prop := fun r0 z' h' => ∃ r : Int, r0 = some (ov_i r) ∧ z = z' ∧ h = h' ∧ (((h 70 8) = 1 → r = 0) ∧ (¬ (h 70 8) = 1 → r = (h 76 3) - (h 4 2)) ∧ -2147483648 ≤ r ∧ r ≤ 2147483647)
set_option maxHeartbeats 4000000 in
theorem c_OF_runsLeft_0_k0_10_70_t {u : ov_U} {F : ov_H} {z : ov_Z} {h : ov_H} (d : Nat) (hd : 0 ≤ d) (U : ov_cap u) (I : ov_I F z h) (k0 : h 0 10 = 70) (p0 : 0 ≤ h 4 2 ∧ h 4 2 ≤ 9) : ov_T u d ov_m103 [ov_r 0] z h (P_OF_runsLeft_0_k0_10_70_t F z h) := by
  refine ov_en rfl (Nat.le_of_ble_eq_true rfl) ?_
  show ov_R u d ov_m103 0 [(0, ov_r 0)] [] z h (P_OF_runsLeft_0_k0_10_70_t F z h)
  refine ov_blk (ls2 := [(0, ov_r 0)]) (st2 := [ov_r 0]) (pc2 := 1) b_103_0_1 rfl rfl ?_
  refine ov_getf (v := ov_r 70) d_103_1 fl_OF_78 (zb_0 I) (zs_0 I) (congrArg ov_r k0) ?_
  refine ov_getf (v := ov_i (h 70 8)) d_103_4 fl_OF_188 (zb_70 I) (zs_70 I) rfl ?_
  have g1 := rg_70_8 I
  refine ov_ifeq (tgt := 14) d_103_7 (by decide) (by omega) (fun c2 => ?_) (fun c2 => ?_)
  · skip
    refine ov_blk (ls2 := [(0, ov_r 0)]) (st2 := [ov_r 0]) (pc2 := 15) b_103_14_1 rfl rfl ?_
    refine ov_getf (v := ov_r 70) d_103_15 fl_OF_78 (zb_0 I) (zs_0 I) (congrArg ov_r k0) ?_
    refine ov_getf (v := ov_r 76) d_103_18 fl_OF_176 (zb_70 I) (zs_70 I) (congrArg ov_r (rg_70_7 I)) ?_
    refine ov_blk (ls2 := [(0, ov_r 0)]) (st2 := [ov_i 3, ov_r 76]) (pc2 := 22) b_103_21_1 rfl rfl ?_
    refine ov_iald d_103_22 (zb_76 I) (zs_76 I) (by omega) ?_
    have g3 := ra_76 I 3
    refine ov_blk (ls2 := [(0, ov_r 0)]) (st2 := [ov_r 0, ov_i (h 76 3)]) (pc2 := 24) b_103_23_1 rfl rfl ?_
    refine ov_getf (v := ov_r 4) d_103_24 fl_OF_28 (zb_0 I) (zs_0 I) (congrArg ov_r (rg_0_2 I)) ?_
    refine ov_getf (v := ov_i (h 4 2)) d_103_27 fl_OF_185 (zb_4 I) (zs_4 I) rfl ?_
    have g4 := rg_4_2 I
    refine ov_blk (ls2 := [(0, ov_r 0)]) (st2 := [ov_i ((h 76 3) - (h 4 2))]) (pc2 := 31) b_103_30_1 rfl rfl ?_
    exact ov_reti (st := []) d_103_31 rfl ⟨_, rfl, rfl, rfl, (by show ((h 70 8) = 1 → ((h 76 3) - (h 4 2)) = 0) ∧ (¬ (h 70 8) = 1 → ((h 76 3) - (h 4 2)) = (h 76 3) - (h 4 2)) ∧ -2147483648 ≤ ((h 76 3) - (h 4 2)) ∧ ((h 76 3) - (h 4 2)) ≤ 2147483647; omega)⟩
  · skip
    refine ov_blk (ls2 := [(0, ov_r 0)]) (st2 := [ov_i 0]) (pc2 := 11) b_103_10_1 rfl rfl ?_
    refine ov_goto (tgt := 31) d_103_11 (by decide) ?_
    exact ov_reti (st := []) d_103_31 rfl ⟨_, rfl, rfl, rfl, (by show ((h 70 8) = 1 → 0 = 0) ∧ (¬ (h 70 8) = 1 → 0 = (h 76 3) - (h 4 2)) ∧ -2147483648 ≤ 0 ∧ 0 ≤ 2147483647; omega)⟩
theorem b_102_90_3 : ov_ds ov_m102.2.1 90 [.iload_n 3, .iadd, .iadd] = true := by decide +kernel
abbrev P_OF_go_0_t (F : ov_H) (z : ov_Z) (h : ov_H) (way : Int) (run : Int) : Option ov_V → ov_Z → ov_H → Prop := fun r0 z' h' => ∃ r : Int, r0 = some (ov_i r) ∧ ov_I F z' h' ∧ ((h' 36 7) = (h 36 7) ∧ (h' 1 1) = (h 1 1) ∧ (h' 90 2) = (h 90 2) ∧ (h' 0 10) = (h 0 10) ∧ (h' 0 11) = (h 0 11) ∧ (h' 0 12) = (h 0 12) ∧ (h' 0 13) = (h 0 13) ∧ (h' 3 1) = (h 3 1) ∧ (h' 36 8) = (h 36 8) ∧ (h' 46 3) = (h 46 3) ∧ (h' 46 4) = (h 46 4) ∧ (h' 49 4) = (h 49 4) ∧ (h' 49 5) = (h 49 5) ∧ (h' 64 0) = (h 64 0) ∧ (h' 76 0) = (h 76 0)) ∧ ((h 0 10 = 58 → st_Xgo (h 58) (h 59) (h 60) (h 61) (h 62) (h 64) (h 65) h h' way run r) ∧ (h 0 10 = 70 → st_Xgo (h 70) (h 71) (h 72) (h 73) (h 74) (h 76) (h 77) h h' way run r))
set_option maxHeartbeats 4000000 in
theorem c_OF_go_0_t {u : ov_U} {F : ov_H} {z : ov_Z} {h : ov_H} (d : Nat) (hd : 2 ≤ d) (U : ov_cap u) (I : ov_I F z h) (hw : ov_kw 15888 F) (way : Int) (run : Int) (g_way : ov_g way) (g_run : run = 0 ∨ run = 1) (p0 : 0 ≤ h 4 1 ∧ h 4 1 ≤ 1000000) (p1 : 0 ≤ h 4 2 ∧ h 4 2 ≤ 9) : ov_T u d ov_m102 [ov_r 0, ov_i way, ov_i run] z h (P_OF_go_0_t F z h way run) := by
  refine ov_en rfl (Nat.le_of_ble_eq_true rfl) ?_
  show ov_R u d ov_m102 0 [(0, ov_r 0), (1, ov_i way), (2, ov_i run)] [] z h (P_OF_go_0_t F z h way run)
  refine ov_blk (ls2 := [(0, ov_r 0), (1, ov_i way), (2, ov_i run)]) (st2 := [ov_r 0]) (pc2 := 1) b_102_0_1 rfl rfl ?_
  rcases rg_0_10 I with e1 | e1
  · skip
    refine ov_getf (v := ov_r 58) d_102_1 fl_OF_78 (zb_0 I) (zs_0 I) (congrArg ov_r e1) ?_
    refine ov_blk (ls2 := [(0, ov_r 0), (1, ov_i way), (2, ov_i run)]) (st2 := [ov_r 0, ov_r 58]) (pc2 := 5) b_102_4_1 rfl rfl ?_
    refine ov_getf (v := ov_r 4) d_102_5 fl_OF_28 (zb_0 I) (zs_0 I) (congrArg ov_r (rg_0_2 I)) ?_
    refine ov_getf (v := ov_i (h 4 0)) d_102_8 fl_OF_166 (zb_4 I) (zs_4 I) rfl ?_
    have g2 := rg_4_0 I
    refine ov_blk (ls2 := [(0, ov_r 0), (1, ov_i way), (2, ov_i run)]) (st2 := [ov_i way, ov_i (h 4 0), ov_r 58]) (pc2 := 12) b_102_11_1 rfl rfl ?_
    refine ov_cV (as := [ov_i (h 4 0), ov_i way]) (st := []) (d2 := d - 1) d_102_12 lk_OF_158 rfl (Nat.le_of_ble_eq_true rfl) (c := 9) (zb_58 I) (zs_58 I) ⟨by decide, rfl⟩ (by omega) (c_Town_isOpen_58_t (d - 1) (by omega) U I (h 4 0) way (by omega) (by omega) (by omega)) ?_
    rintro _ _ _ ⟨v4, rfl, rfl, rfl, f3⟩
    show ov_R u d ov_m102 15 [(0, ov_r 0), (1, ov_i way), (2, ov_i run)] [ov_i v4] z h (P_OF_go_0_t F z h way run)
    have f5 : (v4 = 0 ∨ v4 = 1) ∧ (way = 0 → v4 = (h 65 (h 4 0)) % 2) ∧ (way = 1 → v4 = (h 65 (h 4 0)) / 2) ∧ (way < 0 ∨ 1 < way → v4 = 0) := f3
    clear f3
    refine ov_ifeq (tgt := 29) d_102_15 (by decide) (by omega) (fun c6 => ?_) (fun c6 => ?_)
    · skip
      refine ov_blk (ls2 := [(0, ov_r 0), (1, ov_i way), (2, ov_i run)]) (st2 := [ov_i (-1)]) (pc2 := 30) b_102_29_1 rfl rfl ?_
      exact ov_reti (st := []) d_102_30 rfl ⟨_, rfl, I, (by show (h 36 7) = (h 36 7) ∧ (h 1 1) = (h 1 1) ∧ (h 90 2) = (h 90 2) ∧ (h 0 10) = (h 0 10) ∧ (h 0 11) = (h 0 11) ∧ (h 0 12) = (h 0 12) ∧ (h 0 13) = (h 0 13) ∧ (h 3 1) = (h 3 1) ∧ (h 36 8) = (h 36 8) ∧ (h 46 3) = (h 46 3) ∧ (h 46 4) = (h 46 4) ∧ (h 49 4) = (h 49 4) ∧ (h 49 5) = (h 49 5) ∧ (h 64 0) = (h 64 0) ∧ (h 76 0) = (h 76 0); omega), ⟨fun _ => (by unfold st_Xgo; exact (Or.inl ⟨rfl, (by omega), (fun _ _ => rfl)⟩)), (fun e => absurd e (by omega))⟩⟩
    · skip
      refine ov_blk (ls2 := [(0, ov_r 0), (1, ov_i way), (2, ov_i run)]) (st2 := [ov_i run]) (pc2 := 19) b_102_18_1 rfl rfl ?_
      refine ov_ifeq (tgt := 31) d_102_19 (by decide) (by omega) (fun c7 => ?_) (fun c7 => ?_)
      · skip
        refine ov_blk (ls2 := [(0, ov_r 0), (1, ov_i way), (2, ov_i run)]) (st2 := [ov_r 0]) (pc2 := 32) b_102_31_1 rfl rfl ?_
        refine ov_getf (v := ov_r 9) d_102_32 fl_OF_35 (zb_0 I) (zs_0 I) (congrArg ov_r (rg_0_3 I)) ?_
        refine ov_blk (ls2 := [(0, ov_r 0), (1, ov_i way), (2, ov_i run)]) (st2 := [ov_r 0, ov_r 9]) (pc2 := 36) b_102_35_1 rfl rfl ?_
        refine ov_getf (v := ov_r 4) d_102_36 fl_OF_28 (zb_0 I) (zs_0 I) (congrArg ov_r (rg_0_2 I)) ?_
        refine ov_cV (as := [ov_r 4]) (st := []) (d2 := d - 1) d_102_39 lk_OF_172 rfl (Nat.le_of_ble_eq_true rfl) (c := 3) (zb_9 I) (zs_9 I) ⟨by decide, rfl⟩ (by omega) (c_History_keep_9_4_t (d - 1) (by omega) U (ov_I_ff (M := 1237940038997149967466873343) I) (ov_kw_ff (ov_kws hw (by decide +kernel)) (by decide +kernel))) ?_
        rintro _ z9 h10 ⟨rfl, I11, f8, xk⟩
        have I11k := I11
        have I11 := ov_I_fr I I11k
        have er12 : h10 0 = h 0 := ov_ff_k I11k (Or.inl (by decide)) (by decide +kernel)
        have ek13 : h10 0 10 = (h 0 10) := congrFun er12 10
        have er14 : h10 4 = h 4 := ov_ff_k I11k (Or.inl (by decide)) (by decide +kernel)
        have ek15 : h10 4 0 = (h 4 0) := congrFun er14 0
        have ek16 : h10 4 1 = (h 4 1) := congrFun er14 1
        have ek17 : h10 4 2 = (h 4 2) := congrFun er14 2
        have ek18 : h10 4 3 = (h 4 3) := congrFun er14 3
        have ek19 : h10 4 4 = (h 4 4) := congrFun er14 4
        have ek20 : h10 4 5 = (h 4 5) := congrFun er14 5
        have er21 : h10 58 = h 58 := ov_ff_k I11k (Or.inr (by decide)) (by decide +kernel)
        have er22 : h10 59 = h 59 := ov_ff_k I11k (Or.inr (by decide)) (by decide +kernel)
        have er23 : h10 60 = h 60 := ov_ff_k I11k (Or.inr (by decide)) (by decide +kernel)
        have er24 : h10 61 = h 61 := ov_ff_k I11k (Or.inr (by decide)) (by decide +kernel)
        have er25 : h10 62 = h 62 := ov_ff_k I11k (Or.inr (by decide)) (by decide +kernel)
        have er26 : h10 63 = h 63 := ov_ff_k I11k (Or.inr (by decide)) (by decide +kernel)
        have er27 : h10 64 = h 64 := ov_ff_k I11k (Or.inr (by decide)) (by decide +kernel)
        have ek28 : h10 64 0 = (h 64 0) := congrFun er27 0
        have ek29 : h10 64 1 = (h 64 1) := congrFun er27 1
        have ek30 : h10 64 2 = (h 64 2) := congrFun er27 2
        have ek31 : h10 64 3 = (h 64 3) := congrFun er27 3
        have er32 : h10 65 = h 65 := ov_ff_k I11k (Or.inr (by decide)) (by decide +kernel)
        have er33 : h10 70 = h 70 := ov_ff_k I11k (Or.inr (by decide)) (by decide +kernel)
        have er34 : h10 71 = h 71 := ov_ff_k I11k (Or.inr (by decide)) (by decide +kernel)
        have er35 : h10 72 = h 72 := ov_ff_k I11k (Or.inr (by decide)) (by decide +kernel)
        have er36 : h10 73 = h 73 := ov_ff_k I11k (Or.inr (by decide)) (by decide +kernel)
        have er37 : h10 74 = h 74 := ov_ff_k I11k (Or.inr (by decide)) (by decide +kernel)
        have er38 : h10 75 = h 75 := ov_ff_k I11k (Or.inr (by decide)) (by decide +kernel)
        have er39 : h10 76 = h 76 := ov_ff_k I11k (Or.inr (by decide)) (by decide +kernel)
        have ek40 : h10 76 0 = (h 76 0) := congrFun er39 0
        have ek41 : h10 76 1 = (h 76 1) := congrFun er39 1
        have ek42 : h10 76 2 = (h 76 2) := congrFun er39 2
        have ek43 : h10 76 3 = (h 76 3) := congrFun er39 3
        have er44 : h10 77 = h 77 := ov_ff_k I11k (Or.inr (by decide)) (by decide +kernel)
        show ov_R u d ov_m102 42 [(0, ov_r 0), (1, ov_i way), (2, ov_i run)] [] z9 h10 (P_OF_go_0_t F z h way run)
        have f45 : (h10 36 7) = (h 36 7) ∧ (h10 1 1) = (h 1 1) ∧ (h10 90 2) = (h 90 2) ∧ (h10 0 10) = (h 0 10) ∧ (h10 0 11) = (h 0 11) ∧ (h10 0 12) = (h 0 12) ∧ (h10 0 13) = (h 0 13) ∧ (h10 3 1) = (h 3 1) ∧ (h10 36 8) = (h 36 8) ∧ (h10 46 3) = (h 46 3) ∧ (h10 46 4) = (h 46 4) ∧ (h10 49 4) = (h 49 4) ∧ (h10 49 5) = (h 49 5) ∧ (h10 64 0) = (h 64 0) ∧ (h10 76 0) = (h 76 0) := f8
        clear f8
        have e46 : h10 0 10 = 58 := by omega
        refine ov_blk (ls2 := [(0, ov_r 0), (1, ov_i way), (2, ov_i run)]) (st2 := [ov_r 0]) (pc2 := 43) b_102_42_1 rfl rfl ?_
        refine ov_getf (v := ov_r 58) d_102_43 fl_OF_78 (zb_0 I11) (zs_0 I11) (congrArg ov_r e46) ?_
        refine ov_getf (v := ov_r 64) d_102_46 fl_OF_176 (zb_58 I11) (zs_58 I11) (congrArg ov_r (rg_58_7 I11)) ?_
        refine ov_blk (ls2 := [(0, ov_r 0), (1, ov_i way), (2, ov_i run)]) (st2 := [ov_i run, ov_r 64]) (pc2 := 50) b_102_49_1 rfl rfl ?_
        refine ov_ifeq (tgt := 57) d_102_50 (by decide) (by omega) (fun c47 => ?_) (fun c47 => ?_)
        · skip
          refine ov_blk (ls2 := [(0, ov_r 0), (1, ov_i way), (2, ov_i run)]) (st2 := [ov_i 0, ov_r 64]) (pc2 := 58) b_102_57_1 rfl rfl ?_
          refine ov_iald d_102_58 (zb_64 I11) (zs_64 I11) (by omega) ?_
          have g48 := ra_64 I11 0
          refine ov_blk (ls2 := [(0, ov_r 0), (1, ov_i way), (2, ov_i run), (3, ov_i (h10 64 0))]) (st2 := [ov_r 0]) (pc2 := 61) b_102_59_2 rfl rfl ?_
          refine ov_getf (v := ov_r 4) d_102_61 fl_OF_28 (zb_0 I11) (zs_0 I11) (congrArg ov_r (rg_0_2 I11)) ?_
          refine ov_blk (ls2 := [(0, ov_r 0), (1, ov_i way), (2, ov_i run), (3, ov_i (h10 64 0))]) (st2 := [ov_r 4, ov_r 4]) (pc2 := 65) b_102_64_1 rfl rfl ?_
          refine ov_getf (v := ov_i (h10 4 1)) d_102_65 fl_OF_179 (zb_4 I11) (zs_4 I11) rfl ?_
          have g49 := rg_4_1 I11
          refine ov_blk (ls2 := [(0, ov_r 0), (1, ov_i way), (2, ov_i run), (3, ov_i (h10 64 0))]) (st2 := [ov_r 0, ov_i (h10 4 1), ov_r 4]) (pc2 := 69) b_102_68_1 rfl rfl ?_
          refine ov_getf (v := ov_r 58) d_102_69 fl_OF_78 (zb_0 I11) (zs_0 I11) (congrArg ov_r e46) ?_
          refine ov_blk (ls2 := [(0, ov_r 0), (1, ov_i way), (2, ov_i run), (3, ov_i (h10 64 0))]) (st2 := [ov_r 0, ov_r 58, ov_i (h10 4 1), ov_r 4]) (pc2 := 73) b_102_72_1 rfl rfl ?_
          refine ov_getf (v := ov_r 4) d_102_73 fl_OF_28 (zb_0 I11) (zs_0 I11) (congrArg ov_r (rg_0_2 I11)) ?_
          refine ov_getf (v := ov_i (h10 4 0)) d_102_76 fl_OF_166 (zb_4 I11) (zs_4 I11) rfl ?_
          have g50 := rg_4_0 I11
          refine ov_blk (ls2 := [(0, ov_r 0), (1, ov_i way), (2, ov_i run), (3, ov_i (h10 64 0))]) (st2 := [ov_r 0, ov_i way, ov_i (h10 4 0), ov_r 58, ov_i (h10 4 1), ov_r 4]) (pc2 := 81) b_102_79_2 rfl rfl ?_
          refine ov_getf (v := ov_r 4) d_102_81 fl_OF_28 (zb_0 I11) (zs_0 I11) (congrArg ov_r (rg_0_2 I11)) ?_
          refine ov_getf (v := ov_i (h10 4 1)) d_102_84 fl_OF_179 (zb_4 I11) (zs_4 I11) rfl ?_
          refine ov_cV (as := [ov_i (h10 4 0), ov_i way, ov_i (h10 4 1)]) (st := [ov_i (h10 4 1), ov_r 4]) (d2 := d - 1) d_102_87 lk_OF_162 rfl (Nat.le_of_ble_eq_true rfl) (c := 9) (zb_58 I11) (zs_58 I11) ⟨by decide, rfl⟩ (by omega) (c_Town_waitFor_58_b (d - 1) (by omega) U I11 (h10 4 0) way (h10 4 1) (by omega) (by omega) (by omega) (by omega) (by omega)) ?_
          rintro _ _ _ ⟨v53, rfl, rfl, rfl, f52⟩
          show ov_R u d ov_m102 90 [(0, ov_r 0), (1, ov_i way), (2, ov_i run), (3, ov_i (h10 64 0))] [ov_i v53, ov_i (h10 4 1), ov_r 4] z9 h10 (P_OF_go_0_t F z h way run)
          have f54 : v53 = ov_wtv (h10 59 (h10 4 0)) (h10 60 (h10 4 0)) (h10 61 (h10 4 0)) (h10 62 (h10 4 0)) way (h10 4 1) ∧ 0 ≤ v53 ∧ v53 ≤ 60 := f52
          clear f52
          have gop := ra_65 I (h 4 0)
          have ewt : v53 = ov_wtv (h 59 (h 4 0)) (h 60 (h 4 0)) (h 61 (h 4 0)) (h 62 (h 4 0)) way (h 4 1) := by rw [← er22, ← er23, ← er24, ← er25, ← er14]; omega
          refine ov_blk (ls2 := [(0, ov_r 0), (1, ov_i way), (2, ov_i run), (3, ov_i (h10 64 0))]) (st2 := [ov_i ((h10 4 1) + (v53 + (h10 64 0))), ov_r 4]) (pc2 := 93) b_102_90_3 rfl rfl ?_
          refine ov_putf (x := ((h10 4 1) + (v53 + (h10 64 0)))) d_102_93 fl_OF_179 (zb_4 I11) (zs_4 I11) rfl nk_0 rfl ?_
          have I55 := up_4_1 (x := ((h10 4 1) + (v53 + (h10 64 0)))) I11 (by omega) (hw 4 (by decide +kernel))
          refine ov_blk (ls2 := [(0, ov_r 0), (1, ov_i way), (2, ov_i run), (3, ov_i (h10 64 0))]) (st2 := [ov_r 0]) (pc2 := 97) b_102_96_1 rfl rfl ?_
          refine ov_getf (v := ov_r 4) d_102_97 fl_OF_28 (zb_0 I55) (zs_0 I55) (congrArg ov_r (rg_0_2 I55)) ?_
          refine ov_blk (ls2 := [(0, ov_r 0), (1, ov_i way), (2, ov_i run), (3, ov_i (h10 64 0))]) (st2 := [ov_r 0, ov_r 4]) (pc2 := 101) b_102_100_1 rfl rfl ?_
          refine ov_getf (v := ov_r 58) d_102_101 fl_OF_78 (zb_0 I55) (zs_0 I55) (congrArg ov_r e46) ?_
          refine ov_blk (ls2 := [(0, ov_r 0), (1, ov_i way), (2, ov_i run), (3, ov_i (h10 64 0))]) (st2 := [ov_r 0, ov_r 58, ov_r 4]) (pc2 := 105) b_102_104_1 rfl rfl ?_
          refine ov_getf (v := ov_r 4) d_102_105 fl_OF_28 (zb_0 I55) (zs_0 I55) (congrArg ov_r (rg_0_2 I55)) ?_
          refine ov_getf (v := ov_i (h10 4 0)) d_102_108 fl_OF_166 (zb_4 I55) (zs_4 I55) rfl ?_
          refine ov_blk (ls2 := [(0, ov_r 0), (1, ov_i way), (2, ov_i run), (3, ov_i (h10 64 0))]) (st2 := [ov_i way, ov_i (h10 4 0), ov_r 58, ov_r 4]) (pc2 := 112) b_102_111_1 rfl rfl ?_
          refine ov_cV (as := [ov_i (h10 4 0), ov_i way]) (st := [ov_r 4]) (d2 := d - 1) d_102_112 lk_OF_182 rfl (Nat.le_of_ble_eq_true rfl) (c := 9) (zb_58 I55) (zs_58 I55) ⟨by decide, rfl⟩ (by omega) (c_Town_after_58 (d - 1) (by omega) U I55 (h10 4 0) way (by omega) (by omega) (by omega)) ?_
          rintro _ _ _ ⟨v58, rfl, rfl, rfl, f57⟩
          show ov_R u d ov_m102 115 [(0, ov_r 0), (1, ov_i way), (2, ov_i run), (3, ov_i (h10 64 0))] [ov_i v58, ov_r 4] z9 (ov_up h10 4 1 ((h10 4 1) + (v53 + (h10 64 0)))) (P_OF_go_0_t F z h way run)
          have f59 : (way = 0 → v58 = (h10 4 0) + 1) ∧ (¬ way = 0 → v58 = (h10 4 0) + 6) := f57
          clear f57
          refine ov_putf (x := v58) d_102_115 fl_OF_166 (zb_4 I55) (zs_4 I55) rfl nk_0 rfl ?_
          have I60 := up_4_0 (x := v58) I55 (by omega) (hw 4 (by decide +kernel))
          refine ov_blk (ls2 := [(0, ov_r 0), (1, ov_i way), (2, ov_i run), (3, ov_i (h10 64 0))]) (st2 := [ov_r 0]) (pc2 := 119) b_102_118_1 rfl rfl ?_
          refine ov_getf (v := ov_r 4) d_102_119 fl_OF_28 (zb_0 I60) (zs_0 I60) (congrArg ov_r (rg_0_2 I60)) ?_
          refine ov_blk (ls2 := [(0, ov_r 0), (1, ov_i way), (2, ov_i run), (3, ov_i (h10 64 0))]) (st2 := [ov_r 4, ov_r 4]) (pc2 := 123) b_102_122_1 rfl rfl ?_
          refine ov_getf (v := ov_i (h10 4 2)) d_102_123 fl_OF_185 (zb_4 I60) (zs_4 I60) rfl ?_
          have g61 := rg_4_2 I11
          refine ov_blk (ls2 := [(0, ov_r 0), (1, ov_i way), (2, ov_i run), (3, ov_i (h10 64 0))]) (st2 := [ov_i run, ov_i (h10 4 2), ov_r 4]) (pc2 := 127) b_102_126_1 rfl rfl ?_
          refine ov_ifeq (tgt := 134) d_102_127 (by decide) (by omega) (fun c62 => ?_) (fun c62 => ?_)
          · skip
            refine ov_blk (ls2 := [(0, ov_r 0), (1, ov_i way), (2, ov_i run), (3, ov_i (h10 64 0))]) (st2 := [ov_i ((h10 4 2) + 0), ov_r 4]) (pc2 := 136) b_102_134_2 rfl rfl ?_
            refine ov_putf (x := ((h10 4 2) + 0)) d_102_136 fl_OF_185 (zb_4 I60) (zs_4 I60) rfl nk_0 rfl ?_
            have I63 := up_4_2 (x := ((h10 4 2) + 0)) I60 (by omega) (hw 4 (by decide +kernel))
            refine ov_blk (ls2 := [(0, ov_r 0), (1, ov_i way), (2, ov_i run), (3, ov_i (h10 64 0))]) (st2 := [ov_r 0]) (pc2 := 140) b_102_139_1 rfl rfl ?_
            refine ov_getf (v := ov_r 4) d_102_140 fl_OF_28 (zb_0 I63) (zs_0 I63) (congrArg ov_r (rg_0_2 I63)) ?_
            refine ov_getf (v := ov_i ((h10 4 1) + (v53 + (h10 64 0)))) d_102_143 fl_OF_179 (zb_4 I63) (zs_4 I63) rfl ?_
            exact ov_reti (st := []) d_102_146 rfl ⟨_, rfl, I63, (by show (h10 36 7) = (h 36 7) ∧ (h10 1 1) = (h 1 1) ∧ (h10 90 2) = (h 90 2) ∧ (h10 0 10) = (h 0 10) ∧ (h10 0 11) = (h 0 11) ∧ (h10 0 12) = (h 0 12) ∧ (h10 0 13) = (h 0 13) ∧ (h10 3 1) = (h 3 1) ∧ (h10 36 8) = (h 36 8) ∧ (h10 46 3) = (h 46 3) ∧ (h10 46 4) = (h 46 4) ∧ (h10 49 4) = (h 49 4) ∧ (h10 49 5) = (h 49 5) ∧ (h10 64 0) = (h 64 0) ∧ (h10 76 0) = (h 76 0); omega), ⟨fun _ => (by unfold st_Xgo; exact (Or.inr ⟨(by omega), (by show ((h10 4 1) + (v53 + (h10 64 0))) = ((h10 4 1) + (v53 + (h10 64 0))); rfl), (by rw [← ewt]; omega), (st_K_up (st_K_up (st_K_up xk))), (by show v58 = _; omega), (by show ((h10 4 2) + 0) = _; omega), (by show (h10 4 3) = _; rw [er14]), (by show (h10 4 4) = _; rw [er14]), (by show (h10 4 5) = _; rw [er14])⟩)), (fun e => absurd e (by omega))⟩⟩
          · skip
            refine ov_blk (ls2 := [(0, ov_r 0), (1, ov_i way), (2, ov_i run), (3, ov_i (h10 64 0))]) (st2 := [ov_i 1, ov_i (h10 4 2), ov_r 4]) (pc2 := 131) b_102_130_1 rfl rfl ?_
            refine ov_goto (tgt := 135) d_102_131 (by decide) ?_
            refine ov_blk (ls2 := [(0, ov_r 0), (1, ov_i way), (2, ov_i run), (3, ov_i (h10 64 0))]) (st2 := [ov_i ((h10 4 2) + 1), ov_r 4]) (pc2 := 136) b_102_135_1 rfl rfl ?_
            refine ov_putf (x := ((h10 4 2) + 1)) d_102_136 fl_OF_185 (zb_4 I60) (zs_4 I60) rfl nk_0 rfl ?_
            have I64 := up_4_2 (x := ((h10 4 2) + 1)) I60 (by omega) (hw 4 (by decide +kernel))
            refine ov_blk (ls2 := [(0, ov_r 0), (1, ov_i way), (2, ov_i run), (3, ov_i (h10 64 0))]) (st2 := [ov_r 0]) (pc2 := 140) b_102_139_1 rfl rfl ?_
            refine ov_getf (v := ov_r 4) d_102_140 fl_OF_28 (zb_0 I64) (zs_0 I64) (congrArg ov_r (rg_0_2 I64)) ?_
            refine ov_getf (v := ov_i ((h10 4 1) + (v53 + (h10 64 0)))) d_102_143 fl_OF_179 (zb_4 I64) (zs_4 I64) rfl ?_
            exact ov_reti (st := []) d_102_146 rfl ⟨_, rfl, I64, (by show (h10 36 7) = (h 36 7) ∧ (h10 1 1) = (h 1 1) ∧ (h10 90 2) = (h 90 2) ∧ (h10 0 10) = (h 0 10) ∧ (h10 0 11) = (h 0 11) ∧ (h10 0 12) = (h 0 12) ∧ (h10 0 13) = (h 0 13) ∧ (h10 3 1) = (h 3 1) ∧ (h10 36 8) = (h 36 8) ∧ (h10 46 3) = (h 46 3) ∧ (h10 46 4) = (h 46 4) ∧ (h10 49 4) = (h 49 4) ∧ (h10 49 5) = (h 49 5) ∧ (h10 64 0) = (h 64 0) ∧ (h10 76 0) = (h 76 0); omega), ⟨fun _ => (by unfold st_Xgo; exact (Or.inr ⟨(by omega), (by show ((h10 4 1) + (v53 + (h10 64 0))) = ((h10 4 1) + (v53 + (h10 64 0))); rfl), (by rw [← ewt]; omega), (st_K_up (st_K_up (st_K_up xk))), (by show v58 = _; omega), (by show ((h10 4 2) + 1) = _; omega), (by show (h10 4 3) = _; rw [er14]), (by show (h10 4 4) = _; rw [er14]), (by show (h10 4 5) = _; rw [er14])⟩)), (fun e => absurd e (by omega))⟩⟩
        · skip
          refine ov_blk (ls2 := [(0, ov_r 0), (1, ov_i way), (2, ov_i run)]) (st2 := [ov_i 1, ov_r 64]) (pc2 := 54) b_102_53_1 rfl rfl ?_
          refine ov_goto (tgt := 58) d_102_54 (by decide) ?_
          refine ov_iald d_102_58 (zb_64 I11) (zs_64 I11) (by omega) ?_
          have g65 := ra_64 I11 1
          refine ov_blk (ls2 := [(0, ov_r 0), (1, ov_i way), (2, ov_i run), (3, ov_i (h10 64 1))]) (st2 := [ov_r 0]) (pc2 := 61) b_102_59_2 rfl rfl ?_
          refine ov_getf (v := ov_r 4) d_102_61 fl_OF_28 (zb_0 I11) (zs_0 I11) (congrArg ov_r (rg_0_2 I11)) ?_
          refine ov_blk (ls2 := [(0, ov_r 0), (1, ov_i way), (2, ov_i run), (3, ov_i (h10 64 1))]) (st2 := [ov_r 4, ov_r 4]) (pc2 := 65) b_102_64_1 rfl rfl ?_
          refine ov_getf (v := ov_i (h10 4 1)) d_102_65 fl_OF_179 (zb_4 I11) (zs_4 I11) rfl ?_
          have g66 := rg_4_1 I11
          refine ov_blk (ls2 := [(0, ov_r 0), (1, ov_i way), (2, ov_i run), (3, ov_i (h10 64 1))]) (st2 := [ov_r 0, ov_i (h10 4 1), ov_r 4]) (pc2 := 69) b_102_68_1 rfl rfl ?_
          refine ov_getf (v := ov_r 58) d_102_69 fl_OF_78 (zb_0 I11) (zs_0 I11) (congrArg ov_r e46) ?_
          refine ov_blk (ls2 := [(0, ov_r 0), (1, ov_i way), (2, ov_i run), (3, ov_i (h10 64 1))]) (st2 := [ov_r 0, ov_r 58, ov_i (h10 4 1), ov_r 4]) (pc2 := 73) b_102_72_1 rfl rfl ?_
          refine ov_getf (v := ov_r 4) d_102_73 fl_OF_28 (zb_0 I11) (zs_0 I11) (congrArg ov_r (rg_0_2 I11)) ?_
          refine ov_getf (v := ov_i (h10 4 0)) d_102_76 fl_OF_166 (zb_4 I11) (zs_4 I11) rfl ?_
          have g67 := rg_4_0 I11
          refine ov_blk (ls2 := [(0, ov_r 0), (1, ov_i way), (2, ov_i run), (3, ov_i (h10 64 1))]) (st2 := [ov_r 0, ov_i way, ov_i (h10 4 0), ov_r 58, ov_i (h10 4 1), ov_r 4]) (pc2 := 81) b_102_79_2 rfl rfl ?_
          refine ov_getf (v := ov_r 4) d_102_81 fl_OF_28 (zb_0 I11) (zs_0 I11) (congrArg ov_r (rg_0_2 I11)) ?_
          refine ov_getf (v := ov_i (h10 4 1)) d_102_84 fl_OF_179 (zb_4 I11) (zs_4 I11) rfl ?_
          refine ov_cV (as := [ov_i (h10 4 0), ov_i way, ov_i (h10 4 1)]) (st := [ov_i (h10 4 1), ov_r 4]) (d2 := d - 1) d_102_87 lk_OF_162 rfl (Nat.le_of_ble_eq_true rfl) (c := 9) (zb_58 I11) (zs_58 I11) ⟨by decide, rfl⟩ (by omega) (c_Town_waitFor_58_b (d - 1) (by omega) U I11 (h10 4 0) way (h10 4 1) (by omega) (by omega) (by omega) (by omega) (by omega)) ?_
          rintro _ _ _ ⟨v70, rfl, rfl, rfl, f69⟩
          show ov_R u d ov_m102 90 [(0, ov_r 0), (1, ov_i way), (2, ov_i run), (3, ov_i (h10 64 1))] [ov_i v70, ov_i (h10 4 1), ov_r 4] z9 h10 (P_OF_go_0_t F z h way run)
          have f71 : v70 = ov_wtv (h10 59 (h10 4 0)) (h10 60 (h10 4 0)) (h10 61 (h10 4 0)) (h10 62 (h10 4 0)) way (h10 4 1) ∧ 0 ≤ v70 ∧ v70 ≤ 60 := f69
          clear f69
          have gop := ra_65 I (h 4 0)
          have ewt : v70 = ov_wtv (h 59 (h 4 0)) (h 60 (h 4 0)) (h 61 (h 4 0)) (h 62 (h 4 0)) way (h 4 1) := by rw [← er22, ← er23, ← er24, ← er25, ← er14]; omega
          refine ov_blk (ls2 := [(0, ov_r 0), (1, ov_i way), (2, ov_i run), (3, ov_i (h10 64 1))]) (st2 := [ov_i ((h10 4 1) + (v70 + (h10 64 1))), ov_r 4]) (pc2 := 93) b_102_90_3 rfl rfl ?_
          refine ov_putf (x := ((h10 4 1) + (v70 + (h10 64 1)))) d_102_93 fl_OF_179 (zb_4 I11) (zs_4 I11) rfl nk_0 rfl ?_
          have I72 := up_4_1 (x := ((h10 4 1) + (v70 + (h10 64 1)))) I11 (by omega) (hw 4 (by decide +kernel))
          refine ov_blk (ls2 := [(0, ov_r 0), (1, ov_i way), (2, ov_i run), (3, ov_i (h10 64 1))]) (st2 := [ov_r 0]) (pc2 := 97) b_102_96_1 rfl rfl ?_
          refine ov_getf (v := ov_r 4) d_102_97 fl_OF_28 (zb_0 I72) (zs_0 I72) (congrArg ov_r (rg_0_2 I72)) ?_
          refine ov_blk (ls2 := [(0, ov_r 0), (1, ov_i way), (2, ov_i run), (3, ov_i (h10 64 1))]) (st2 := [ov_r 0, ov_r 4]) (pc2 := 101) b_102_100_1 rfl rfl ?_
          refine ov_getf (v := ov_r 58) d_102_101 fl_OF_78 (zb_0 I72) (zs_0 I72) (congrArg ov_r e46) ?_
          refine ov_blk (ls2 := [(0, ov_r 0), (1, ov_i way), (2, ov_i run), (3, ov_i (h10 64 1))]) (st2 := [ov_r 0, ov_r 58, ov_r 4]) (pc2 := 105) b_102_104_1 rfl rfl ?_
          refine ov_getf (v := ov_r 4) d_102_105 fl_OF_28 (zb_0 I72) (zs_0 I72) (congrArg ov_r (rg_0_2 I72)) ?_
          refine ov_getf (v := ov_i (h10 4 0)) d_102_108 fl_OF_166 (zb_4 I72) (zs_4 I72) rfl ?_
          refine ov_blk (ls2 := [(0, ov_r 0), (1, ov_i way), (2, ov_i run), (3, ov_i (h10 64 1))]) (st2 := [ov_i way, ov_i (h10 4 0), ov_r 58, ov_r 4]) (pc2 := 112) b_102_111_1 rfl rfl ?_
          refine ov_cV (as := [ov_i (h10 4 0), ov_i way]) (st := [ov_r 4]) (d2 := d - 1) d_102_112 lk_OF_182 rfl (Nat.le_of_ble_eq_true rfl) (c := 9) (zb_58 I72) (zs_58 I72) ⟨by decide, rfl⟩ (by omega) (c_Town_after_58 (d - 1) (by omega) U I72 (h10 4 0) way (by omega) (by omega) (by omega)) ?_
          rintro _ _ _ ⟨v75, rfl, rfl, rfl, f74⟩
          show ov_R u d ov_m102 115 [(0, ov_r 0), (1, ov_i way), (2, ov_i run), (3, ov_i (h10 64 1))] [ov_i v75, ov_r 4] z9 (ov_up h10 4 1 ((h10 4 1) + (v70 + (h10 64 1)))) (P_OF_go_0_t F z h way run)
          have f76 : (way = 0 → v75 = (h10 4 0) + 1) ∧ (¬ way = 0 → v75 = (h10 4 0) + 6) := f74
          clear f74
          refine ov_putf (x := v75) d_102_115 fl_OF_166 (zb_4 I72) (zs_4 I72) rfl nk_0 rfl ?_
          have I77 := up_4_0 (x := v75) I72 (by omega) (hw 4 (by decide +kernel))
          refine ov_blk (ls2 := [(0, ov_r 0), (1, ov_i way), (2, ov_i run), (3, ov_i (h10 64 1))]) (st2 := [ov_r 0]) (pc2 := 119) b_102_118_1 rfl rfl ?_
          refine ov_getf (v := ov_r 4) d_102_119 fl_OF_28 (zb_0 I77) (zs_0 I77) (congrArg ov_r (rg_0_2 I77)) ?_
          refine ov_blk (ls2 := [(0, ov_r 0), (1, ov_i way), (2, ov_i run), (3, ov_i (h10 64 1))]) (st2 := [ov_r 4, ov_r 4]) (pc2 := 123) b_102_122_1 rfl rfl ?_
          refine ov_getf (v := ov_i (h10 4 2)) d_102_123 fl_OF_185 (zb_4 I77) (zs_4 I77) rfl ?_
          have g78 := rg_4_2 I11
          refine ov_blk (ls2 := [(0, ov_r 0), (1, ov_i way), (2, ov_i run), (3, ov_i (h10 64 1))]) (st2 := [ov_i run, ov_i (h10 4 2), ov_r 4]) (pc2 := 127) b_102_126_1 rfl rfl ?_
          refine ov_ifeq (tgt := 134) d_102_127 (by decide) (by omega) (fun c79 => ?_) (fun c79 => ?_)
          · skip
            refine ov_blk (ls2 := [(0, ov_r 0), (1, ov_i way), (2, ov_i run), (3, ov_i (h10 64 1))]) (st2 := [ov_i ((h10 4 2) + 0), ov_r 4]) (pc2 := 136) b_102_134_2 rfl rfl ?_
            refine ov_putf (x := ((h10 4 2) + 0)) d_102_136 fl_OF_185 (zb_4 I77) (zs_4 I77) rfl nk_0 rfl ?_
            have I80 := up_4_2 (x := ((h10 4 2) + 0)) I77 (by omega) (hw 4 (by decide +kernel))
            refine ov_blk (ls2 := [(0, ov_r 0), (1, ov_i way), (2, ov_i run), (3, ov_i (h10 64 1))]) (st2 := [ov_r 0]) (pc2 := 140) b_102_139_1 rfl rfl ?_
            refine ov_getf (v := ov_r 4) d_102_140 fl_OF_28 (zb_0 I80) (zs_0 I80) (congrArg ov_r (rg_0_2 I80)) ?_
            refine ov_getf (v := ov_i ((h10 4 1) + (v70 + (h10 64 1)))) d_102_143 fl_OF_179 (zb_4 I80) (zs_4 I80) rfl ?_
            exact ov_reti (st := []) d_102_146 rfl ⟨_, rfl, I80, (by show (h10 36 7) = (h 36 7) ∧ (h10 1 1) = (h 1 1) ∧ (h10 90 2) = (h 90 2) ∧ (h10 0 10) = (h 0 10) ∧ (h10 0 11) = (h 0 11) ∧ (h10 0 12) = (h 0 12) ∧ (h10 0 13) = (h 0 13) ∧ (h10 3 1) = (h 3 1) ∧ (h10 36 8) = (h 36 8) ∧ (h10 46 3) = (h 46 3) ∧ (h10 46 4) = (h 46 4) ∧ (h10 49 4) = (h 49 4) ∧ (h10 49 5) = (h 49 5) ∧ (h10 64 0) = (h 64 0) ∧ (h10 76 0) = (h 76 0); omega), ⟨fun _ => (by unfold st_Xgo; exact (Or.inr ⟨(by omega), (by show ((h10 4 1) + (v70 + (h10 64 1))) = ((h10 4 1) + (v70 + (h10 64 1))); rfl), (by rw [← ewt]; omega), (st_K_up (st_K_up (st_K_up xk))), (by show v75 = _; omega), (by show ((h10 4 2) + 0) = _; omega), (by show (h10 4 3) = _; rw [er14]), (by show (h10 4 4) = _; rw [er14]), (by show (h10 4 5) = _; rw [er14])⟩)), (fun e => absurd e (by omega))⟩⟩
          · skip
            refine ov_blk (ls2 := [(0, ov_r 0), (1, ov_i way), (2, ov_i run), (3, ov_i (h10 64 1))]) (st2 := [ov_i 1, ov_i (h10 4 2), ov_r 4]) (pc2 := 131) b_102_130_1 rfl rfl ?_
            refine ov_goto (tgt := 135) d_102_131 (by decide) ?_
            refine ov_blk (ls2 := [(0, ov_r 0), (1, ov_i way), (2, ov_i run), (3, ov_i (h10 64 1))]) (st2 := [ov_i ((h10 4 2) + 1), ov_r 4]) (pc2 := 136) b_102_135_1 rfl rfl ?_
            refine ov_putf (x := ((h10 4 2) + 1)) d_102_136 fl_OF_185 (zb_4 I77) (zs_4 I77) rfl nk_0 rfl ?_
            have I81 := up_4_2 (x := ((h10 4 2) + 1)) I77 (by omega) (hw 4 (by decide +kernel))
            refine ov_blk (ls2 := [(0, ov_r 0), (1, ov_i way), (2, ov_i run), (3, ov_i (h10 64 1))]) (st2 := [ov_r 0]) (pc2 := 140) b_102_139_1 rfl rfl ?_
            refine ov_getf (v := ov_r 4) d_102_140 fl_OF_28 (zb_0 I81) (zs_0 I81) (congrArg ov_r (rg_0_2 I81)) ?_
            refine ov_getf (v := ov_i ((h10 4 1) + (v70 + (h10 64 1)))) d_102_143 fl_OF_179 (zb_4 I81) (zs_4 I81) rfl ?_
            exact ov_reti (st := []) d_102_146 rfl ⟨_, rfl, I81, (by show (h10 36 7) = (h 36 7) ∧ (h10 1 1) = (h 1 1) ∧ (h10 90 2) = (h 90 2) ∧ (h10 0 10) = (h 0 10) ∧ (h10 0 11) = (h 0 11) ∧ (h10 0 12) = (h 0 12) ∧ (h10 0 13) = (h 0 13) ∧ (h10 3 1) = (h 3 1) ∧ (h10 36 8) = (h 36 8) ∧ (h10 46 3) = (h 46 3) ∧ (h10 46 4) = (h 46 4) ∧ (h10 49 4) = (h 49 4) ∧ (h10 49 5) = (h 49 5) ∧ (h10 64 0) = (h 64 0) ∧ (h10 76 0) = (h 76 0); omega), ⟨fun _ => (by unfold st_Xgo; exact (Or.inr ⟨(by omega), (by show ((h10 4 1) + (v70 + (h10 64 1))) = ((h10 4 1) + (v70 + (h10 64 1))); rfl), (by rw [← ewt]; omega), (st_K_up (st_K_up (st_K_up xk))), (by show v75 = _; omega), (by show ((h10 4 2) + 1) = _; omega), (by show (h10 4 3) = _; rw [er14]), (by show (h10 4 4) = _; rw [er14]), (by show (h10 4 5) = _; rw [er14])⟩)), (fun e => absurd e (by omega))⟩⟩
      · skip
        refine ov_blk (ls2 := [(0, ov_r 0), (1, ov_i way), (2, ov_i run)]) (st2 := [ov_r 0]) (pc2 := 23) b_102_22_1 rfl rfl ?_
        refine ov_cV (as := []) (st := []) (d2 := d - 1) d_102_23 lk_OF_168 rfl (Nat.le_of_ble_eq_true rfl) (c := 0) (zb_0 I) (zs_0 I) ⟨by decide, rfl⟩ (by omega) (c_OF_runsLeft_0_k0_10_58_t (d - 1) (by omega) U I e1 (by omega)) ?_
        rintro _ _ _ ⟨v83, rfl, rfl, rfl, f82⟩
        show ov_R u d ov_m102 26 [(0, ov_r 0), (1, ov_i way), (2, ov_i run)] [ov_i v83] z h (P_OF_go_0_t F z h way run)
        have f84 : ((h 58 8) = 1 → v83 = 0) ∧ (¬ (h 58 8) = 1 → v83 = (h 64 3) - (h 4 2)) ∧ -2147483648 ≤ v83 ∧ v83 ≤ 2147483647 := f82
        clear f82
        refine ov_ifgt (tgt := 31) d_102_26 (by decide) (by omega) (fun c85 => ?_) (fun c85 => ?_)
        · skip
          refine ov_blk (ls2 := [(0, ov_r 0), (1, ov_i way), (2, ov_i run)]) (st2 := [ov_r 0]) (pc2 := 32) b_102_31_1 rfl rfl ?_
          refine ov_getf (v := ov_r 9) d_102_32 fl_OF_35 (zb_0 I) (zs_0 I) (congrArg ov_r (rg_0_3 I)) ?_
          refine ov_blk (ls2 := [(0, ov_r 0), (1, ov_i way), (2, ov_i run)]) (st2 := [ov_r 0, ov_r 9]) (pc2 := 36) b_102_35_1 rfl rfl ?_
          refine ov_getf (v := ov_r 4) d_102_36 fl_OF_28 (zb_0 I) (zs_0 I) (congrArg ov_r (rg_0_2 I)) ?_
          refine ov_cV (as := [ov_r 4]) (st := []) (d2 := d - 1) d_102_39 lk_OF_172 rfl (Nat.le_of_ble_eq_true rfl) (c := 3) (zb_9 I) (zs_9 I) ⟨by decide, rfl⟩ (by omega) (c_History_keep_9_4_t (d - 1) (by omega) U (ov_I_ff (M := 1237940038997149967466873343) I) (ov_kw_ff (ov_kws hw (by decide +kernel)) (by decide +kernel))) ?_
          rintro _ z87 h88 ⟨rfl, I89, f86, xk⟩
          have I89k := I89
          have I89 := ov_I_fr I I89k
          have er90 : h88 0 = h 0 := ov_ff_k I89k (Or.inl (by decide)) (by decide +kernel)
          have ek91 : h88 0 10 = (h 0 10) := congrFun er90 10
          have er92 : h88 4 = h 4 := ov_ff_k I89k (Or.inl (by decide)) (by decide +kernel)
          have ek93 : h88 4 0 = (h 4 0) := congrFun er92 0
          have ek94 : h88 4 1 = (h 4 1) := congrFun er92 1
          have ek95 : h88 4 2 = (h 4 2) := congrFun er92 2
          have ek96 : h88 4 3 = (h 4 3) := congrFun er92 3
          have ek97 : h88 4 4 = (h 4 4) := congrFun er92 4
          have ek98 : h88 4 5 = (h 4 5) := congrFun er92 5
          have er99 : h88 58 = h 58 := ov_ff_k I89k (Or.inr (by decide)) (by decide +kernel)
          have er100 : h88 59 = h 59 := ov_ff_k I89k (Or.inr (by decide)) (by decide +kernel)
          have er101 : h88 60 = h 60 := ov_ff_k I89k (Or.inr (by decide)) (by decide +kernel)
          have er102 : h88 61 = h 61 := ov_ff_k I89k (Or.inr (by decide)) (by decide +kernel)
          have er103 : h88 62 = h 62 := ov_ff_k I89k (Or.inr (by decide)) (by decide +kernel)
          have er104 : h88 63 = h 63 := ov_ff_k I89k (Or.inr (by decide)) (by decide +kernel)
          have er105 : h88 64 = h 64 := ov_ff_k I89k (Or.inr (by decide)) (by decide +kernel)
          have ek106 : h88 64 0 = (h 64 0) := congrFun er105 0
          have ek107 : h88 64 1 = (h 64 1) := congrFun er105 1
          have ek108 : h88 64 2 = (h 64 2) := congrFun er105 2
          have ek109 : h88 64 3 = (h 64 3) := congrFun er105 3
          have er110 : h88 65 = h 65 := ov_ff_k I89k (Or.inr (by decide)) (by decide +kernel)
          have er111 : h88 70 = h 70 := ov_ff_k I89k (Or.inr (by decide)) (by decide +kernel)
          have er112 : h88 71 = h 71 := ov_ff_k I89k (Or.inr (by decide)) (by decide +kernel)
          have er113 : h88 72 = h 72 := ov_ff_k I89k (Or.inr (by decide)) (by decide +kernel)
          have er114 : h88 73 = h 73 := ov_ff_k I89k (Or.inr (by decide)) (by decide +kernel)
          have er115 : h88 74 = h 74 := ov_ff_k I89k (Or.inr (by decide)) (by decide +kernel)
          have er116 : h88 75 = h 75 := ov_ff_k I89k (Or.inr (by decide)) (by decide +kernel)
          have er117 : h88 76 = h 76 := ov_ff_k I89k (Or.inr (by decide)) (by decide +kernel)
          have ek118 : h88 76 0 = (h 76 0) := congrFun er117 0
          have ek119 : h88 76 1 = (h 76 1) := congrFun er117 1
          have ek120 : h88 76 2 = (h 76 2) := congrFun er117 2
          have ek121 : h88 76 3 = (h 76 3) := congrFun er117 3
          have er122 : h88 77 = h 77 := ov_ff_k I89k (Or.inr (by decide)) (by decide +kernel)
          show ov_R u d ov_m102 42 [(0, ov_r 0), (1, ov_i way), (2, ov_i run)] [] z87 h88 (P_OF_go_0_t F z h way run)
          have f123 : (h88 36 7) = (h 36 7) ∧ (h88 1 1) = (h 1 1) ∧ (h88 90 2) = (h 90 2) ∧ (h88 0 10) = (h 0 10) ∧ (h88 0 11) = (h 0 11) ∧ (h88 0 12) = (h 0 12) ∧ (h88 0 13) = (h 0 13) ∧ (h88 3 1) = (h 3 1) ∧ (h88 36 8) = (h 36 8) ∧ (h88 46 3) = (h 46 3) ∧ (h88 46 4) = (h 46 4) ∧ (h88 49 4) = (h 49 4) ∧ (h88 49 5) = (h 49 5) ∧ (h88 64 0) = (h 64 0) ∧ (h88 76 0) = (h 76 0) := f86
          clear f86
          have e124 : h88 0 10 = 58 := by omega
          refine ov_blk (ls2 := [(0, ov_r 0), (1, ov_i way), (2, ov_i run)]) (st2 := [ov_r 0]) (pc2 := 43) b_102_42_1 rfl rfl ?_
          refine ov_getf (v := ov_r 58) d_102_43 fl_OF_78 (zb_0 I89) (zs_0 I89) (congrArg ov_r e124) ?_
          refine ov_getf (v := ov_r 64) d_102_46 fl_OF_176 (zb_58 I89) (zs_58 I89) (congrArg ov_r (rg_58_7 I89)) ?_
          refine ov_blk (ls2 := [(0, ov_r 0), (1, ov_i way), (2, ov_i run)]) (st2 := [ov_i run, ov_r 64]) (pc2 := 50) b_102_49_1 rfl rfl ?_
          refine ov_ifeq (tgt := 57) d_102_50 (by decide) (by omega) (fun c125 => ?_) (fun c125 => ?_)
          · skip
            refine ov_blk (ls2 := [(0, ov_r 0), (1, ov_i way), (2, ov_i run)]) (st2 := [ov_i 0, ov_r 64]) (pc2 := 58) b_102_57_1 rfl rfl ?_
            refine ov_iald d_102_58 (zb_64 I89) (zs_64 I89) (by omega) ?_
            have g126 := ra_64 I89 0
            refine ov_blk (ls2 := [(0, ov_r 0), (1, ov_i way), (2, ov_i run), (3, ov_i (h88 64 0))]) (st2 := [ov_r 0]) (pc2 := 61) b_102_59_2 rfl rfl ?_
            refine ov_getf (v := ov_r 4) d_102_61 fl_OF_28 (zb_0 I89) (zs_0 I89) (congrArg ov_r (rg_0_2 I89)) ?_
            refine ov_blk (ls2 := [(0, ov_r 0), (1, ov_i way), (2, ov_i run), (3, ov_i (h88 64 0))]) (st2 := [ov_r 4, ov_r 4]) (pc2 := 65) b_102_64_1 rfl rfl ?_
            refine ov_getf (v := ov_i (h88 4 1)) d_102_65 fl_OF_179 (zb_4 I89) (zs_4 I89) rfl ?_
            have g127 := rg_4_1 I89
            refine ov_blk (ls2 := [(0, ov_r 0), (1, ov_i way), (2, ov_i run), (3, ov_i (h88 64 0))]) (st2 := [ov_r 0, ov_i (h88 4 1), ov_r 4]) (pc2 := 69) b_102_68_1 rfl rfl ?_
            refine ov_getf (v := ov_r 58) d_102_69 fl_OF_78 (zb_0 I89) (zs_0 I89) (congrArg ov_r e124) ?_
            refine ov_blk (ls2 := [(0, ov_r 0), (1, ov_i way), (2, ov_i run), (3, ov_i (h88 64 0))]) (st2 := [ov_r 0, ov_r 58, ov_i (h88 4 1), ov_r 4]) (pc2 := 73) b_102_72_1 rfl rfl ?_
            refine ov_getf (v := ov_r 4) d_102_73 fl_OF_28 (zb_0 I89) (zs_0 I89) (congrArg ov_r (rg_0_2 I89)) ?_
            refine ov_getf (v := ov_i (h88 4 0)) d_102_76 fl_OF_166 (zb_4 I89) (zs_4 I89) rfl ?_
            have g128 := rg_4_0 I89
            refine ov_blk (ls2 := [(0, ov_r 0), (1, ov_i way), (2, ov_i run), (3, ov_i (h88 64 0))]) (st2 := [ov_r 0, ov_i way, ov_i (h88 4 0), ov_r 58, ov_i (h88 4 1), ov_r 4]) (pc2 := 81) b_102_79_2 rfl rfl ?_
            refine ov_getf (v := ov_r 4) d_102_81 fl_OF_28 (zb_0 I89) (zs_0 I89) (congrArg ov_r (rg_0_2 I89)) ?_
            refine ov_getf (v := ov_i (h88 4 1)) d_102_84 fl_OF_179 (zb_4 I89) (zs_4 I89) rfl ?_
            refine ov_cV (as := [ov_i (h88 4 0), ov_i way, ov_i (h88 4 1)]) (st := [ov_i (h88 4 1), ov_r 4]) (d2 := d - 1) d_102_87 lk_OF_162 rfl (Nat.le_of_ble_eq_true rfl) (c := 9) (zb_58 I89) (zs_58 I89) ⟨by decide, rfl⟩ (by omega) (c_Town_waitFor_58_b (d - 1) (by omega) U I89 (h88 4 0) way (h88 4 1) (by omega) (by omega) (by omega) (by omega) (by omega)) ?_
            rintro _ _ _ ⟨v131, rfl, rfl, rfl, f130⟩
            show ov_R u d ov_m102 90 [(0, ov_r 0), (1, ov_i way), (2, ov_i run), (3, ov_i (h88 64 0))] [ov_i v131, ov_i (h88 4 1), ov_r 4] z87 h88 (P_OF_go_0_t F z h way run)
            have f132 : v131 = ov_wtv (h88 59 (h88 4 0)) (h88 60 (h88 4 0)) (h88 61 (h88 4 0)) (h88 62 (h88 4 0)) way (h88 4 1) ∧ 0 ≤ v131 ∧ v131 ≤ 60 := f130
            clear f130
            have gop := ra_65 I (h 4 0)
            have ewt : v131 = ov_wtv (h 59 (h 4 0)) (h 60 (h 4 0)) (h 61 (h 4 0)) (h 62 (h 4 0)) way (h 4 1) := by rw [← er100, ← er101, ← er102, ← er103, ← er92]; omega
            refine ov_blk (ls2 := [(0, ov_r 0), (1, ov_i way), (2, ov_i run), (3, ov_i (h88 64 0))]) (st2 := [ov_i ((h88 4 1) + (v131 + (h88 64 0))), ov_r 4]) (pc2 := 93) b_102_90_3 rfl rfl ?_
            refine ov_putf (x := ((h88 4 1) + (v131 + (h88 64 0)))) d_102_93 fl_OF_179 (zb_4 I89) (zs_4 I89) rfl nk_0 rfl ?_
            have I133 := up_4_1 (x := ((h88 4 1) + (v131 + (h88 64 0)))) I89 (by omega) (hw 4 (by decide +kernel))
            refine ov_blk (ls2 := [(0, ov_r 0), (1, ov_i way), (2, ov_i run), (3, ov_i (h88 64 0))]) (st2 := [ov_r 0]) (pc2 := 97) b_102_96_1 rfl rfl ?_
            refine ov_getf (v := ov_r 4) d_102_97 fl_OF_28 (zb_0 I133) (zs_0 I133) (congrArg ov_r (rg_0_2 I133)) ?_
            refine ov_blk (ls2 := [(0, ov_r 0), (1, ov_i way), (2, ov_i run), (3, ov_i (h88 64 0))]) (st2 := [ov_r 0, ov_r 4]) (pc2 := 101) b_102_100_1 rfl rfl ?_
            refine ov_getf (v := ov_r 58) d_102_101 fl_OF_78 (zb_0 I133) (zs_0 I133) (congrArg ov_r e124) ?_
            refine ov_blk (ls2 := [(0, ov_r 0), (1, ov_i way), (2, ov_i run), (3, ov_i (h88 64 0))]) (st2 := [ov_r 0, ov_r 58, ov_r 4]) (pc2 := 105) b_102_104_1 rfl rfl ?_
            refine ov_getf (v := ov_r 4) d_102_105 fl_OF_28 (zb_0 I133) (zs_0 I133) (congrArg ov_r (rg_0_2 I133)) ?_
            refine ov_getf (v := ov_i (h88 4 0)) d_102_108 fl_OF_166 (zb_4 I133) (zs_4 I133) rfl ?_
            refine ov_blk (ls2 := [(0, ov_r 0), (1, ov_i way), (2, ov_i run), (3, ov_i (h88 64 0))]) (st2 := [ov_i way, ov_i (h88 4 0), ov_r 58, ov_r 4]) (pc2 := 112) b_102_111_1 rfl rfl ?_
            refine ov_cV (as := [ov_i (h88 4 0), ov_i way]) (st := [ov_r 4]) (d2 := d - 1) d_102_112 lk_OF_182 rfl (Nat.le_of_ble_eq_true rfl) (c := 9) (zb_58 I133) (zs_58 I133) ⟨by decide, rfl⟩ (by omega) (c_Town_after_58 (d - 1) (by omega) U I133 (h88 4 0) way (by omega) (by omega) (by omega)) ?_
            rintro _ _ _ ⟨v136, rfl, rfl, rfl, f135⟩
            show ov_R u d ov_m102 115 [(0, ov_r 0), (1, ov_i way), (2, ov_i run), (3, ov_i (h88 64 0))] [ov_i v136, ov_r 4] z87 (ov_up h88 4 1 ((h88 4 1) + (v131 + (h88 64 0)))) (P_OF_go_0_t F z h way run)
            have f137 : (way = 0 → v136 = (h88 4 0) + 1) ∧ (¬ way = 0 → v136 = (h88 4 0) + 6) := f135
            clear f135
            refine ov_putf (x := v136) d_102_115 fl_OF_166 (zb_4 I133) (zs_4 I133) rfl nk_0 rfl ?_
            have I138 := up_4_0 (x := v136) I133 (by omega) (hw 4 (by decide +kernel))
            refine ov_blk (ls2 := [(0, ov_r 0), (1, ov_i way), (2, ov_i run), (3, ov_i (h88 64 0))]) (st2 := [ov_r 0]) (pc2 := 119) b_102_118_1 rfl rfl ?_
            refine ov_getf (v := ov_r 4) d_102_119 fl_OF_28 (zb_0 I138) (zs_0 I138) (congrArg ov_r (rg_0_2 I138)) ?_
            refine ov_blk (ls2 := [(0, ov_r 0), (1, ov_i way), (2, ov_i run), (3, ov_i (h88 64 0))]) (st2 := [ov_r 4, ov_r 4]) (pc2 := 123) b_102_122_1 rfl rfl ?_
            refine ov_getf (v := ov_i (h88 4 2)) d_102_123 fl_OF_185 (zb_4 I138) (zs_4 I138) rfl ?_
            have g139 := rg_4_2 I89
            refine ov_blk (ls2 := [(0, ov_r 0), (1, ov_i way), (2, ov_i run), (3, ov_i (h88 64 0))]) (st2 := [ov_i run, ov_i (h88 4 2), ov_r 4]) (pc2 := 127) b_102_126_1 rfl rfl ?_
            refine ov_ifeq (tgt := 134) d_102_127 (by decide) (by omega) (fun c140 => ?_) (fun c140 => ?_)
            · skip
              refine ov_blk (ls2 := [(0, ov_r 0), (1, ov_i way), (2, ov_i run), (3, ov_i (h88 64 0))]) (st2 := [ov_i ((h88 4 2) + 0), ov_r 4]) (pc2 := 136) b_102_134_2 rfl rfl ?_
              refine ov_putf (x := ((h88 4 2) + 0)) d_102_136 fl_OF_185 (zb_4 I138) (zs_4 I138) rfl nk_0 rfl ?_
              have I141 := up_4_2 (x := ((h88 4 2) + 0)) I138 (by omega) (hw 4 (by decide +kernel))
              refine ov_blk (ls2 := [(0, ov_r 0), (1, ov_i way), (2, ov_i run), (3, ov_i (h88 64 0))]) (st2 := [ov_r 0]) (pc2 := 140) b_102_139_1 rfl rfl ?_
              refine ov_getf (v := ov_r 4) d_102_140 fl_OF_28 (zb_0 I141) (zs_0 I141) (congrArg ov_r (rg_0_2 I141)) ?_
              refine ov_getf (v := ov_i ((h88 4 1) + (v131 + (h88 64 0)))) d_102_143 fl_OF_179 (zb_4 I141) (zs_4 I141) rfl ?_
              exact ov_reti (st := []) d_102_146 rfl ⟨_, rfl, I141, (by show (h88 36 7) = (h 36 7) ∧ (h88 1 1) = (h 1 1) ∧ (h88 90 2) = (h 90 2) ∧ (h88 0 10) = (h 0 10) ∧ (h88 0 11) = (h 0 11) ∧ (h88 0 12) = (h 0 12) ∧ (h88 0 13) = (h 0 13) ∧ (h88 3 1) = (h 3 1) ∧ (h88 36 8) = (h 36 8) ∧ (h88 46 3) = (h 46 3) ∧ (h88 46 4) = (h 46 4) ∧ (h88 49 4) = (h 49 4) ∧ (h88 49 5) = (h 49 5) ∧ (h88 64 0) = (h 64 0) ∧ (h88 76 0) = (h 76 0); omega), ⟨fun _ => (by unfold st_Xgo; exact (Or.inr ⟨(by omega), (by show ((h88 4 1) + (v131 + (h88 64 0))) = ((h88 4 1) + (v131 + (h88 64 0))); rfl), (by rw [← ewt]; omega), (st_K_up (st_K_up (st_K_up xk))), (by show v136 = _; omega), (by show ((h88 4 2) + 0) = _; omega), (by show (h88 4 3) = _; rw [er92]), (by show (h88 4 4) = _; rw [er92]), (by show (h88 4 5) = _; rw [er92])⟩)), (fun e => absurd e (by omega))⟩⟩
            · skip
              refine ov_blk (ls2 := [(0, ov_r 0), (1, ov_i way), (2, ov_i run), (3, ov_i (h88 64 0))]) (st2 := [ov_i 1, ov_i (h88 4 2), ov_r 4]) (pc2 := 131) b_102_130_1 rfl rfl ?_
              refine ov_goto (tgt := 135) d_102_131 (by decide) ?_
              refine ov_blk (ls2 := [(0, ov_r 0), (1, ov_i way), (2, ov_i run), (3, ov_i (h88 64 0))]) (st2 := [ov_i ((h88 4 2) + 1), ov_r 4]) (pc2 := 136) b_102_135_1 rfl rfl ?_
              refine ov_putf (x := ((h88 4 2) + 1)) d_102_136 fl_OF_185 (zb_4 I138) (zs_4 I138) rfl nk_0 rfl ?_
              have I142 := up_4_2 (x := ((h88 4 2) + 1)) I138 (by omega) (hw 4 (by decide +kernel))
              refine ov_blk (ls2 := [(0, ov_r 0), (1, ov_i way), (2, ov_i run), (3, ov_i (h88 64 0))]) (st2 := [ov_r 0]) (pc2 := 140) b_102_139_1 rfl rfl ?_
              refine ov_getf (v := ov_r 4) d_102_140 fl_OF_28 (zb_0 I142) (zs_0 I142) (congrArg ov_r (rg_0_2 I142)) ?_
              refine ov_getf (v := ov_i ((h88 4 1) + (v131 + (h88 64 0)))) d_102_143 fl_OF_179 (zb_4 I142) (zs_4 I142) rfl ?_
              exact ov_reti (st := []) d_102_146 rfl ⟨_, rfl, I142, (by show (h88 36 7) = (h 36 7) ∧ (h88 1 1) = (h 1 1) ∧ (h88 90 2) = (h 90 2) ∧ (h88 0 10) = (h 0 10) ∧ (h88 0 11) = (h 0 11) ∧ (h88 0 12) = (h 0 12) ∧ (h88 0 13) = (h 0 13) ∧ (h88 3 1) = (h 3 1) ∧ (h88 36 8) = (h 36 8) ∧ (h88 46 3) = (h 46 3) ∧ (h88 46 4) = (h 46 4) ∧ (h88 49 4) = (h 49 4) ∧ (h88 49 5) = (h 49 5) ∧ (h88 64 0) = (h 64 0) ∧ (h88 76 0) = (h 76 0); omega), ⟨fun _ => (by unfold st_Xgo; exact (Or.inr ⟨(by omega), (by show ((h88 4 1) + (v131 + (h88 64 0))) = ((h88 4 1) + (v131 + (h88 64 0))); rfl), (by rw [← ewt]; omega), (st_K_up (st_K_up (st_K_up xk))), (by show v136 = _; omega), (by show ((h88 4 2) + 1) = _; omega), (by show (h88 4 3) = _; rw [er92]), (by show (h88 4 4) = _; rw [er92]), (by show (h88 4 5) = _; rw [er92])⟩)), (fun e => absurd e (by omega))⟩⟩
          · skip
            refine ov_blk (ls2 := [(0, ov_r 0), (1, ov_i way), (2, ov_i run)]) (st2 := [ov_i 1, ov_r 64]) (pc2 := 54) b_102_53_1 rfl rfl ?_
            refine ov_goto (tgt := 58) d_102_54 (by decide) ?_
            refine ov_iald d_102_58 (zb_64 I89) (zs_64 I89) (by omega) ?_
            have g143 := ra_64 I89 1
            refine ov_blk (ls2 := [(0, ov_r 0), (1, ov_i way), (2, ov_i run), (3, ov_i (h88 64 1))]) (st2 := [ov_r 0]) (pc2 := 61) b_102_59_2 rfl rfl ?_
            refine ov_getf (v := ov_r 4) d_102_61 fl_OF_28 (zb_0 I89) (zs_0 I89) (congrArg ov_r (rg_0_2 I89)) ?_
            refine ov_blk (ls2 := [(0, ov_r 0), (1, ov_i way), (2, ov_i run), (3, ov_i (h88 64 1))]) (st2 := [ov_r 4, ov_r 4]) (pc2 := 65) b_102_64_1 rfl rfl ?_
            refine ov_getf (v := ov_i (h88 4 1)) d_102_65 fl_OF_179 (zb_4 I89) (zs_4 I89) rfl ?_
            have g144 := rg_4_1 I89
            refine ov_blk (ls2 := [(0, ov_r 0), (1, ov_i way), (2, ov_i run), (3, ov_i (h88 64 1))]) (st2 := [ov_r 0, ov_i (h88 4 1), ov_r 4]) (pc2 := 69) b_102_68_1 rfl rfl ?_
            refine ov_getf (v := ov_r 58) d_102_69 fl_OF_78 (zb_0 I89) (zs_0 I89) (congrArg ov_r e124) ?_
            refine ov_blk (ls2 := [(0, ov_r 0), (1, ov_i way), (2, ov_i run), (3, ov_i (h88 64 1))]) (st2 := [ov_r 0, ov_r 58, ov_i (h88 4 1), ov_r 4]) (pc2 := 73) b_102_72_1 rfl rfl ?_
            refine ov_getf (v := ov_r 4) d_102_73 fl_OF_28 (zb_0 I89) (zs_0 I89) (congrArg ov_r (rg_0_2 I89)) ?_
            refine ov_getf (v := ov_i (h88 4 0)) d_102_76 fl_OF_166 (zb_4 I89) (zs_4 I89) rfl ?_
            have g145 := rg_4_0 I89
            refine ov_blk (ls2 := [(0, ov_r 0), (1, ov_i way), (2, ov_i run), (3, ov_i (h88 64 1))]) (st2 := [ov_r 0, ov_i way, ov_i (h88 4 0), ov_r 58, ov_i (h88 4 1), ov_r 4]) (pc2 := 81) b_102_79_2 rfl rfl ?_
            refine ov_getf (v := ov_r 4) d_102_81 fl_OF_28 (zb_0 I89) (zs_0 I89) (congrArg ov_r (rg_0_2 I89)) ?_
            refine ov_getf (v := ov_i (h88 4 1)) d_102_84 fl_OF_179 (zb_4 I89) (zs_4 I89) rfl ?_
            refine ov_cV (as := [ov_i (h88 4 0), ov_i way, ov_i (h88 4 1)]) (st := [ov_i (h88 4 1), ov_r 4]) (d2 := d - 1) d_102_87 lk_OF_162 rfl (Nat.le_of_ble_eq_true rfl) (c := 9) (zb_58 I89) (zs_58 I89) ⟨by decide, rfl⟩ (by omega) (c_Town_waitFor_58_b (d - 1) (by omega) U I89 (h88 4 0) way (h88 4 1) (by omega) (by omega) (by omega) (by omega) (by omega)) ?_
            rintro _ _ _ ⟨v148, rfl, rfl, rfl, f147⟩
            show ov_R u d ov_m102 90 [(0, ov_r 0), (1, ov_i way), (2, ov_i run), (3, ov_i (h88 64 1))] [ov_i v148, ov_i (h88 4 1), ov_r 4] z87 h88 (P_OF_go_0_t F z h way run)
            have f149 : v148 = ov_wtv (h88 59 (h88 4 0)) (h88 60 (h88 4 0)) (h88 61 (h88 4 0)) (h88 62 (h88 4 0)) way (h88 4 1) ∧ 0 ≤ v148 ∧ v148 ≤ 60 := f147
            clear f147
            have gop := ra_65 I (h 4 0)
            have ewt : v148 = ov_wtv (h 59 (h 4 0)) (h 60 (h 4 0)) (h 61 (h 4 0)) (h 62 (h 4 0)) way (h 4 1) := by rw [← er100, ← er101, ← er102, ← er103, ← er92]; omega
            refine ov_blk (ls2 := [(0, ov_r 0), (1, ov_i way), (2, ov_i run), (3, ov_i (h88 64 1))]) (st2 := [ov_i ((h88 4 1) + (v148 + (h88 64 1))), ov_r 4]) (pc2 := 93) b_102_90_3 rfl rfl ?_
            refine ov_putf (x := ((h88 4 1) + (v148 + (h88 64 1)))) d_102_93 fl_OF_179 (zb_4 I89) (zs_4 I89) rfl nk_0 rfl ?_
            have I150 := up_4_1 (x := ((h88 4 1) + (v148 + (h88 64 1)))) I89 (by omega) (hw 4 (by decide +kernel))
            refine ov_blk (ls2 := [(0, ov_r 0), (1, ov_i way), (2, ov_i run), (3, ov_i (h88 64 1))]) (st2 := [ov_r 0]) (pc2 := 97) b_102_96_1 rfl rfl ?_
            refine ov_getf (v := ov_r 4) d_102_97 fl_OF_28 (zb_0 I150) (zs_0 I150) (congrArg ov_r (rg_0_2 I150)) ?_
            refine ov_blk (ls2 := [(0, ov_r 0), (1, ov_i way), (2, ov_i run), (3, ov_i (h88 64 1))]) (st2 := [ov_r 0, ov_r 4]) (pc2 := 101) b_102_100_1 rfl rfl ?_
            refine ov_getf (v := ov_r 58) d_102_101 fl_OF_78 (zb_0 I150) (zs_0 I150) (congrArg ov_r e124) ?_
            refine ov_blk (ls2 := [(0, ov_r 0), (1, ov_i way), (2, ov_i run), (3, ov_i (h88 64 1))]) (st2 := [ov_r 0, ov_r 58, ov_r 4]) (pc2 := 105) b_102_104_1 rfl rfl ?_
            refine ov_getf (v := ov_r 4) d_102_105 fl_OF_28 (zb_0 I150) (zs_0 I150) (congrArg ov_r (rg_0_2 I150)) ?_
            refine ov_getf (v := ov_i (h88 4 0)) d_102_108 fl_OF_166 (zb_4 I150) (zs_4 I150) rfl ?_
            refine ov_blk (ls2 := [(0, ov_r 0), (1, ov_i way), (2, ov_i run), (3, ov_i (h88 64 1))]) (st2 := [ov_i way, ov_i (h88 4 0), ov_r 58, ov_r 4]) (pc2 := 112) b_102_111_1 rfl rfl ?_
            refine ov_cV (as := [ov_i (h88 4 0), ov_i way]) (st := [ov_r 4]) (d2 := d - 1) d_102_112 lk_OF_182 rfl (Nat.le_of_ble_eq_true rfl) (c := 9) (zb_58 I150) (zs_58 I150) ⟨by decide, rfl⟩ (by omega) (c_Town_after_58 (d - 1) (by omega) U I150 (h88 4 0) way (by omega) (by omega) (by omega)) ?_
            rintro _ _ _ ⟨v153, rfl, rfl, rfl, f152⟩
            show ov_R u d ov_m102 115 [(0, ov_r 0), (1, ov_i way), (2, ov_i run), (3, ov_i (h88 64 1))] [ov_i v153, ov_r 4] z87 (ov_up h88 4 1 ((h88 4 1) + (v148 + (h88 64 1)))) (P_OF_go_0_t F z h way run)
            have f154 : (way = 0 → v153 = (h88 4 0) + 1) ∧ (¬ way = 0 → v153 = (h88 4 0) + 6) := f152
            clear f152
            refine ov_putf (x := v153) d_102_115 fl_OF_166 (zb_4 I150) (zs_4 I150) rfl nk_0 rfl ?_
            have I155 := up_4_0 (x := v153) I150 (by omega) (hw 4 (by decide +kernel))
            refine ov_blk (ls2 := [(0, ov_r 0), (1, ov_i way), (2, ov_i run), (3, ov_i (h88 64 1))]) (st2 := [ov_r 0]) (pc2 := 119) b_102_118_1 rfl rfl ?_
            refine ov_getf (v := ov_r 4) d_102_119 fl_OF_28 (zb_0 I155) (zs_0 I155) (congrArg ov_r (rg_0_2 I155)) ?_
            refine ov_blk (ls2 := [(0, ov_r 0), (1, ov_i way), (2, ov_i run), (3, ov_i (h88 64 1))]) (st2 := [ov_r 4, ov_r 4]) (pc2 := 123) b_102_122_1 rfl rfl ?_
            refine ov_getf (v := ov_i (h88 4 2)) d_102_123 fl_OF_185 (zb_4 I155) (zs_4 I155) rfl ?_
            have g156 := rg_4_2 I89
            refine ov_blk (ls2 := [(0, ov_r 0), (1, ov_i way), (2, ov_i run), (3, ov_i (h88 64 1))]) (st2 := [ov_i run, ov_i (h88 4 2), ov_r 4]) (pc2 := 127) b_102_126_1 rfl rfl ?_
            refine ov_ifeq (tgt := 134) d_102_127 (by decide) (by omega) (fun c157 => ?_) (fun c157 => ?_)
            · skip
              refine ov_blk (ls2 := [(0, ov_r 0), (1, ov_i way), (2, ov_i run), (3, ov_i (h88 64 1))]) (st2 := [ov_i ((h88 4 2) + 0), ov_r 4]) (pc2 := 136) b_102_134_2 rfl rfl ?_
              refine ov_putf (x := ((h88 4 2) + 0)) d_102_136 fl_OF_185 (zb_4 I155) (zs_4 I155) rfl nk_0 rfl ?_
              have I158 := up_4_2 (x := ((h88 4 2) + 0)) I155 (by omega) (hw 4 (by decide +kernel))
              refine ov_blk (ls2 := [(0, ov_r 0), (1, ov_i way), (2, ov_i run), (3, ov_i (h88 64 1))]) (st2 := [ov_r 0]) (pc2 := 140) b_102_139_1 rfl rfl ?_
              refine ov_getf (v := ov_r 4) d_102_140 fl_OF_28 (zb_0 I158) (zs_0 I158) (congrArg ov_r (rg_0_2 I158)) ?_
              refine ov_getf (v := ov_i ((h88 4 1) + (v148 + (h88 64 1)))) d_102_143 fl_OF_179 (zb_4 I158) (zs_4 I158) rfl ?_
              exact ov_reti (st := []) d_102_146 rfl ⟨_, rfl, I158, (by show (h88 36 7) = (h 36 7) ∧ (h88 1 1) = (h 1 1) ∧ (h88 90 2) = (h 90 2) ∧ (h88 0 10) = (h 0 10) ∧ (h88 0 11) = (h 0 11) ∧ (h88 0 12) = (h 0 12) ∧ (h88 0 13) = (h 0 13) ∧ (h88 3 1) = (h 3 1) ∧ (h88 36 8) = (h 36 8) ∧ (h88 46 3) = (h 46 3) ∧ (h88 46 4) = (h 46 4) ∧ (h88 49 4) = (h 49 4) ∧ (h88 49 5) = (h 49 5) ∧ (h88 64 0) = (h 64 0) ∧ (h88 76 0) = (h 76 0); omega), ⟨fun _ => (by unfold st_Xgo; exact (Or.inr ⟨(by omega), (by show ((h88 4 1) + (v148 + (h88 64 1))) = ((h88 4 1) + (v148 + (h88 64 1))); rfl), (by rw [← ewt]; omega), (st_K_up (st_K_up (st_K_up xk))), (by show v153 = _; omega), (by show ((h88 4 2) + 0) = _; omega), (by show (h88 4 3) = _; rw [er92]), (by show (h88 4 4) = _; rw [er92]), (by show (h88 4 5) = _; rw [er92])⟩)), (fun e => absurd e (by omega))⟩⟩
            · skip
              refine ov_blk (ls2 := [(0, ov_r 0), (1, ov_i way), (2, ov_i run), (3, ov_i (h88 64 1))]) (st2 := [ov_i 1, ov_i (h88 4 2), ov_r 4]) (pc2 := 131) b_102_130_1 rfl rfl ?_
              refine ov_goto (tgt := 135) d_102_131 (by decide) ?_
              refine ov_blk (ls2 := [(0, ov_r 0), (1, ov_i way), (2, ov_i run), (3, ov_i (h88 64 1))]) (st2 := [ov_i ((h88 4 2) + 1), ov_r 4]) (pc2 := 136) b_102_135_1 rfl rfl ?_
              refine ov_putf (x := ((h88 4 2) + 1)) d_102_136 fl_OF_185 (zb_4 I155) (zs_4 I155) rfl nk_0 rfl ?_
              have I159 := up_4_2 (x := ((h88 4 2) + 1)) I155 (by omega) (hw 4 (by decide +kernel))
              refine ov_blk (ls2 := [(0, ov_r 0), (1, ov_i way), (2, ov_i run), (3, ov_i (h88 64 1))]) (st2 := [ov_r 0]) (pc2 := 140) b_102_139_1 rfl rfl ?_
              refine ov_getf (v := ov_r 4) d_102_140 fl_OF_28 (zb_0 I159) (zs_0 I159) (congrArg ov_r (rg_0_2 I159)) ?_
              refine ov_getf (v := ov_i ((h88 4 1) + (v148 + (h88 64 1)))) d_102_143 fl_OF_179 (zb_4 I159) (zs_4 I159) rfl ?_
              exact ov_reti (st := []) d_102_146 rfl ⟨_, rfl, I159, (by show (h88 36 7) = (h 36 7) ∧ (h88 1 1) = (h 1 1) ∧ (h88 90 2) = (h 90 2) ∧ (h88 0 10) = (h 0 10) ∧ (h88 0 11) = (h 0 11) ∧ (h88 0 12) = (h 0 12) ∧ (h88 0 13) = (h 0 13) ∧ (h88 3 1) = (h 3 1) ∧ (h88 36 8) = (h 36 8) ∧ (h88 46 3) = (h 46 3) ∧ (h88 46 4) = (h 46 4) ∧ (h88 49 4) = (h 49 4) ∧ (h88 49 5) = (h 49 5) ∧ (h88 64 0) = (h 64 0) ∧ (h88 76 0) = (h 76 0); omega), ⟨fun _ => (by unfold st_Xgo; exact (Or.inr ⟨(by omega), (by show ((h88 4 1) + (v148 + (h88 64 1))) = ((h88 4 1) + (v148 + (h88 64 1))); rfl), (by rw [← ewt]; omega), (st_K_up (st_K_up (st_K_up xk))), (by show v153 = _; omega), (by show ((h88 4 2) + 1) = _; omega), (by show (h88 4 3) = _; rw [er92]), (by show (h88 4 4) = _; rw [er92]), (by show (h88 4 5) = _; rw [er92])⟩)), (fun e => absurd e (by omega))⟩⟩
        · skip
          refine ov_blk (ls2 := [(0, ov_r 0), (1, ov_i way), (2, ov_i run)]) (st2 := [ov_i (-1)]) (pc2 := 30) b_102_29_1 rfl rfl ?_
          exact ov_reti (st := []) d_102_30 rfl ⟨_, rfl, I, (by show (h 36 7) = (h 36 7) ∧ (h 1 1) = (h 1 1) ∧ (h 90 2) = (h 90 2) ∧ (h 0 10) = (h 0 10) ∧ (h 0 11) = (h 0 11) ∧ (h 0 12) = (h 0 12) ∧ (h 0 13) = (h 0 13) ∧ (h 3 1) = (h 3 1) ∧ (h 36 8) = (h 36 8) ∧ (h 46 3) = (h 46 3) ∧ (h 46 4) = (h 46 4) ∧ (h 49 4) = (h 49 4) ∧ (h 49 5) = (h 49 5) ∧ (h 64 0) = (h 64 0) ∧ (h 76 0) = (h 76 0); omega), ⟨fun _ => (by unfold st_Xgo; exact (Or.inl ⟨rfl, (by omega), (fun _ _ => rfl)⟩)), (fun e => absurd e (by omega))⟩⟩
  · skip
    refine ov_getf (v := ov_r 70) d_102_1 fl_OF_78 (zb_0 I) (zs_0 I) (congrArg ov_r e1) ?_
    refine ov_blk (ls2 := [(0, ov_r 0), (1, ov_i way), (2, ov_i run)]) (st2 := [ov_r 0, ov_r 70]) (pc2 := 5) b_102_4_1 rfl rfl ?_
    refine ov_getf (v := ov_r 4) d_102_5 fl_OF_28 (zb_0 I) (zs_0 I) (congrArg ov_r (rg_0_2 I)) ?_
    refine ov_getf (v := ov_i (h 4 0)) d_102_8 fl_OF_166 (zb_4 I) (zs_4 I) rfl ?_
    have g160 := rg_4_0 I
    refine ov_blk (ls2 := [(0, ov_r 0), (1, ov_i way), (2, ov_i run)]) (st2 := [ov_i way, ov_i (h 4 0), ov_r 70]) (pc2 := 12) b_102_11_1 rfl rfl ?_
    refine ov_cV (as := [ov_i (h 4 0), ov_i way]) (st := []) (d2 := d - 1) d_102_12 lk_OF_158 rfl (Nat.le_of_ble_eq_true rfl) (c := 9) (zb_70 I) (zs_70 I) ⟨by decide, rfl⟩ (by omega) (c_Town_isOpen_70_t (d - 1) (by omega) U I (h 4 0) way (by omega) (by omega) (by omega)) ?_
    rintro _ _ _ ⟨v162, rfl, rfl, rfl, f161⟩
    show ov_R u d ov_m102 15 [(0, ov_r 0), (1, ov_i way), (2, ov_i run)] [ov_i v162] z h (P_OF_go_0_t F z h way run)
    have f163 : (v162 = 0 ∨ v162 = 1) ∧ (way = 0 → v162 = (h 77 (h 4 0)) % 2) ∧ (way = 1 → v162 = (h 77 (h 4 0)) / 2) ∧ (way < 0 ∨ 1 < way → v162 = 0) := f161
    clear f161
    refine ov_ifeq (tgt := 29) d_102_15 (by decide) (by omega) (fun c164 => ?_) (fun c164 => ?_)
    · skip
      refine ov_blk (ls2 := [(0, ov_r 0), (1, ov_i way), (2, ov_i run)]) (st2 := [ov_i (-1)]) (pc2 := 30) b_102_29_1 rfl rfl ?_
      exact ov_reti (st := []) d_102_30 rfl ⟨_, rfl, I, (by show (h 36 7) = (h 36 7) ∧ (h 1 1) = (h 1 1) ∧ (h 90 2) = (h 90 2) ∧ (h 0 10) = (h 0 10) ∧ (h 0 11) = (h 0 11) ∧ (h 0 12) = (h 0 12) ∧ (h 0 13) = (h 0 13) ∧ (h 3 1) = (h 3 1) ∧ (h 36 8) = (h 36 8) ∧ (h 46 3) = (h 46 3) ∧ (h 46 4) = (h 46 4) ∧ (h 49 4) = (h 49 4) ∧ (h 49 5) = (h 49 5) ∧ (h 64 0) = (h 64 0) ∧ (h 76 0) = (h 76 0); omega), ⟨(fun e => absurd e (by omega)), fun _ => (by unfold st_Xgo; exact (Or.inl ⟨rfl, (by omega), (fun _ _ => rfl)⟩))⟩⟩
    · skip
      refine ov_blk (ls2 := [(0, ov_r 0), (1, ov_i way), (2, ov_i run)]) (st2 := [ov_i run]) (pc2 := 19) b_102_18_1 rfl rfl ?_
      refine ov_ifeq (tgt := 31) d_102_19 (by decide) (by omega) (fun c165 => ?_) (fun c165 => ?_)
      · skip
        refine ov_blk (ls2 := [(0, ov_r 0), (1, ov_i way), (2, ov_i run)]) (st2 := [ov_r 0]) (pc2 := 32) b_102_31_1 rfl rfl ?_
        refine ov_getf (v := ov_r 9) d_102_32 fl_OF_35 (zb_0 I) (zs_0 I) (congrArg ov_r (rg_0_3 I)) ?_
        refine ov_blk (ls2 := [(0, ov_r 0), (1, ov_i way), (2, ov_i run)]) (st2 := [ov_r 0, ov_r 9]) (pc2 := 36) b_102_35_1 rfl rfl ?_
        refine ov_getf (v := ov_r 4) d_102_36 fl_OF_28 (zb_0 I) (zs_0 I) (congrArg ov_r (rg_0_2 I)) ?_
        refine ov_cV (as := [ov_r 4]) (st := []) (d2 := d - 1) d_102_39 lk_OF_172 rfl (Nat.le_of_ble_eq_true rfl) (c := 3) (zb_9 I) (zs_9 I) ⟨by decide, rfl⟩ (by omega) (c_History_keep_9_4_t (d - 1) (by omega) U (ov_I_ff (M := 1237940038997149967466873343) I) (ov_kw_ff (ov_kws hw (by decide +kernel)) (by decide +kernel))) ?_
        rintro _ z167 h168 ⟨rfl, I169, f166, xk⟩
        have I169k := I169
        have I169 := ov_I_fr I I169k
        have er170 : h168 0 = h 0 := ov_ff_k I169k (Or.inl (by decide)) (by decide +kernel)
        have ek171 : h168 0 10 = (h 0 10) := congrFun er170 10
        have er172 : h168 4 = h 4 := ov_ff_k I169k (Or.inl (by decide)) (by decide +kernel)
        have ek173 : h168 4 0 = (h 4 0) := congrFun er172 0
        have ek174 : h168 4 1 = (h 4 1) := congrFun er172 1
        have ek175 : h168 4 2 = (h 4 2) := congrFun er172 2
        have ek176 : h168 4 3 = (h 4 3) := congrFun er172 3
        have ek177 : h168 4 4 = (h 4 4) := congrFun er172 4
        have ek178 : h168 4 5 = (h 4 5) := congrFun er172 5
        have er179 : h168 58 = h 58 := ov_ff_k I169k (Or.inr (by decide)) (by decide +kernel)
        have er180 : h168 59 = h 59 := ov_ff_k I169k (Or.inr (by decide)) (by decide +kernel)
        have er181 : h168 60 = h 60 := ov_ff_k I169k (Or.inr (by decide)) (by decide +kernel)
        have er182 : h168 61 = h 61 := ov_ff_k I169k (Or.inr (by decide)) (by decide +kernel)
        have er183 : h168 62 = h 62 := ov_ff_k I169k (Or.inr (by decide)) (by decide +kernel)
        have er184 : h168 63 = h 63 := ov_ff_k I169k (Or.inr (by decide)) (by decide +kernel)
        have er185 : h168 64 = h 64 := ov_ff_k I169k (Or.inr (by decide)) (by decide +kernel)
        have ek186 : h168 64 0 = (h 64 0) := congrFun er185 0
        have ek187 : h168 64 1 = (h 64 1) := congrFun er185 1
        have ek188 : h168 64 2 = (h 64 2) := congrFun er185 2
        have ek189 : h168 64 3 = (h 64 3) := congrFun er185 3
        have er190 : h168 65 = h 65 := ov_ff_k I169k (Or.inr (by decide)) (by decide +kernel)
        have er191 : h168 70 = h 70 := ov_ff_k I169k (Or.inr (by decide)) (by decide +kernel)
        have er192 : h168 71 = h 71 := ov_ff_k I169k (Or.inr (by decide)) (by decide +kernel)
        have er193 : h168 72 = h 72 := ov_ff_k I169k (Or.inr (by decide)) (by decide +kernel)
        have er194 : h168 73 = h 73 := ov_ff_k I169k (Or.inr (by decide)) (by decide +kernel)
        have er195 : h168 74 = h 74 := ov_ff_k I169k (Or.inr (by decide)) (by decide +kernel)
        have er196 : h168 75 = h 75 := ov_ff_k I169k (Or.inr (by decide)) (by decide +kernel)
        have er197 : h168 76 = h 76 := ov_ff_k I169k (Or.inr (by decide)) (by decide +kernel)
        have ek198 : h168 76 0 = (h 76 0) := congrFun er197 0
        have ek199 : h168 76 1 = (h 76 1) := congrFun er197 1
        have ek200 : h168 76 2 = (h 76 2) := congrFun er197 2
        have ek201 : h168 76 3 = (h 76 3) := congrFun er197 3
        have er202 : h168 77 = h 77 := ov_ff_k I169k (Or.inr (by decide)) (by decide +kernel)
        show ov_R u d ov_m102 42 [(0, ov_r 0), (1, ov_i way), (2, ov_i run)] [] z167 h168 (P_OF_go_0_t F z h way run)
        have f203 : (h168 36 7) = (h 36 7) ∧ (h168 1 1) = (h 1 1) ∧ (h168 90 2) = (h 90 2) ∧ (h168 0 10) = (h 0 10) ∧ (h168 0 11) = (h 0 11) ∧ (h168 0 12) = (h 0 12) ∧ (h168 0 13) = (h 0 13) ∧ (h168 3 1) = (h 3 1) ∧ (h168 36 8) = (h 36 8) ∧ (h168 46 3) = (h 46 3) ∧ (h168 46 4) = (h 46 4) ∧ (h168 49 4) = (h 49 4) ∧ (h168 49 5) = (h 49 5) ∧ (h168 64 0) = (h 64 0) ∧ (h168 76 0) = (h 76 0) := f166
        clear f166
        have e204 : h168 0 10 = 70 := by omega
        refine ov_blk (ls2 := [(0, ov_r 0), (1, ov_i way), (2, ov_i run)]) (st2 := [ov_r 0]) (pc2 := 43) b_102_42_1 rfl rfl ?_
        refine ov_getf (v := ov_r 70) d_102_43 fl_OF_78 (zb_0 I169) (zs_0 I169) (congrArg ov_r e204) ?_
        refine ov_getf (v := ov_r 76) d_102_46 fl_OF_176 (zb_70 I169) (zs_70 I169) (congrArg ov_r (rg_70_7 I169)) ?_
        refine ov_blk (ls2 := [(0, ov_r 0), (1, ov_i way), (2, ov_i run)]) (st2 := [ov_i run, ov_r 76]) (pc2 := 50) b_102_49_1 rfl rfl ?_
        refine ov_ifeq (tgt := 57) d_102_50 (by decide) (by omega) (fun c205 => ?_) (fun c205 => ?_)
        · skip
          refine ov_blk (ls2 := [(0, ov_r 0), (1, ov_i way), (2, ov_i run)]) (st2 := [ov_i 0, ov_r 76]) (pc2 := 58) b_102_57_1 rfl rfl ?_
          refine ov_iald d_102_58 (zb_76 I169) (zs_76 I169) (by omega) ?_
          have g206 := ra_76 I169 0
          refine ov_blk (ls2 := [(0, ov_r 0), (1, ov_i way), (2, ov_i run), (3, ov_i (h168 76 0))]) (st2 := [ov_r 0]) (pc2 := 61) b_102_59_2 rfl rfl ?_
          refine ov_getf (v := ov_r 4) d_102_61 fl_OF_28 (zb_0 I169) (zs_0 I169) (congrArg ov_r (rg_0_2 I169)) ?_
          refine ov_blk (ls2 := [(0, ov_r 0), (1, ov_i way), (2, ov_i run), (3, ov_i (h168 76 0))]) (st2 := [ov_r 4, ov_r 4]) (pc2 := 65) b_102_64_1 rfl rfl ?_
          refine ov_getf (v := ov_i (h168 4 1)) d_102_65 fl_OF_179 (zb_4 I169) (zs_4 I169) rfl ?_
          have g207 := rg_4_1 I169
          refine ov_blk (ls2 := [(0, ov_r 0), (1, ov_i way), (2, ov_i run), (3, ov_i (h168 76 0))]) (st2 := [ov_r 0, ov_i (h168 4 1), ov_r 4]) (pc2 := 69) b_102_68_1 rfl rfl ?_
          refine ov_getf (v := ov_r 70) d_102_69 fl_OF_78 (zb_0 I169) (zs_0 I169) (congrArg ov_r e204) ?_
          refine ov_blk (ls2 := [(0, ov_r 0), (1, ov_i way), (2, ov_i run), (3, ov_i (h168 76 0))]) (st2 := [ov_r 0, ov_r 70, ov_i (h168 4 1), ov_r 4]) (pc2 := 73) b_102_72_1 rfl rfl ?_
          refine ov_getf (v := ov_r 4) d_102_73 fl_OF_28 (zb_0 I169) (zs_0 I169) (congrArg ov_r (rg_0_2 I169)) ?_
          refine ov_getf (v := ov_i (h168 4 0)) d_102_76 fl_OF_166 (zb_4 I169) (zs_4 I169) rfl ?_
          have g208 := rg_4_0 I169
          refine ov_blk (ls2 := [(0, ov_r 0), (1, ov_i way), (2, ov_i run), (3, ov_i (h168 76 0))]) (st2 := [ov_r 0, ov_i way, ov_i (h168 4 0), ov_r 70, ov_i (h168 4 1), ov_r 4]) (pc2 := 81) b_102_79_2 rfl rfl ?_
          refine ov_getf (v := ov_r 4) d_102_81 fl_OF_28 (zb_0 I169) (zs_0 I169) (congrArg ov_r (rg_0_2 I169)) ?_
          refine ov_getf (v := ov_i (h168 4 1)) d_102_84 fl_OF_179 (zb_4 I169) (zs_4 I169) rfl ?_
          refine ov_cV (as := [ov_i (h168 4 0), ov_i way, ov_i (h168 4 1)]) (st := [ov_i (h168 4 1), ov_r 4]) (d2 := d - 1) d_102_87 lk_OF_162 rfl (Nat.le_of_ble_eq_true rfl) (c := 9) (zb_70 I169) (zs_70 I169) ⟨by decide, rfl⟩ (by omega) (c_Town_waitFor_70_b (d - 1) (by omega) U I169 (h168 4 0) way (h168 4 1) (by omega) (by omega) (by omega) (by omega) (by omega)) ?_
          rintro _ _ _ ⟨v211, rfl, rfl, rfl, f210⟩
          show ov_R u d ov_m102 90 [(0, ov_r 0), (1, ov_i way), (2, ov_i run), (3, ov_i (h168 76 0))] [ov_i v211, ov_i (h168 4 1), ov_r 4] z167 h168 (P_OF_go_0_t F z h way run)
          have f212 : v211 = ov_wtv (h168 71 (h168 4 0)) (h168 72 (h168 4 0)) (h168 73 (h168 4 0)) (h168 74 (h168 4 0)) way (h168 4 1) ∧ 0 ≤ v211 ∧ v211 ≤ 60 := f210
          clear f210
          have gop := ra_77 I (h 4 0)
          have ewt : v211 = ov_wtv (h 71 (h 4 0)) (h 72 (h 4 0)) (h 73 (h 4 0)) (h 74 (h 4 0)) way (h 4 1) := by rw [← er192, ← er193, ← er194, ← er195, ← er172]; omega
          refine ov_blk (ls2 := [(0, ov_r 0), (1, ov_i way), (2, ov_i run), (3, ov_i (h168 76 0))]) (st2 := [ov_i ((h168 4 1) + (v211 + (h168 76 0))), ov_r 4]) (pc2 := 93) b_102_90_3 rfl rfl ?_
          refine ov_putf (x := ((h168 4 1) + (v211 + (h168 76 0)))) d_102_93 fl_OF_179 (zb_4 I169) (zs_4 I169) rfl nk_0 rfl ?_
          have I213 := up_4_1 (x := ((h168 4 1) + (v211 + (h168 76 0)))) I169 (by omega) (hw 4 (by decide +kernel))
          refine ov_blk (ls2 := [(0, ov_r 0), (1, ov_i way), (2, ov_i run), (3, ov_i (h168 76 0))]) (st2 := [ov_r 0]) (pc2 := 97) b_102_96_1 rfl rfl ?_
          refine ov_getf (v := ov_r 4) d_102_97 fl_OF_28 (zb_0 I213) (zs_0 I213) (congrArg ov_r (rg_0_2 I213)) ?_
          refine ov_blk (ls2 := [(0, ov_r 0), (1, ov_i way), (2, ov_i run), (3, ov_i (h168 76 0))]) (st2 := [ov_r 0, ov_r 4]) (pc2 := 101) b_102_100_1 rfl rfl ?_
          refine ov_getf (v := ov_r 70) d_102_101 fl_OF_78 (zb_0 I213) (zs_0 I213) (congrArg ov_r e204) ?_
          refine ov_blk (ls2 := [(0, ov_r 0), (1, ov_i way), (2, ov_i run), (3, ov_i (h168 76 0))]) (st2 := [ov_r 0, ov_r 70, ov_r 4]) (pc2 := 105) b_102_104_1 rfl rfl ?_
          refine ov_getf (v := ov_r 4) d_102_105 fl_OF_28 (zb_0 I213) (zs_0 I213) (congrArg ov_r (rg_0_2 I213)) ?_
          refine ov_getf (v := ov_i (h168 4 0)) d_102_108 fl_OF_166 (zb_4 I213) (zs_4 I213) rfl ?_
          refine ov_blk (ls2 := [(0, ov_r 0), (1, ov_i way), (2, ov_i run), (3, ov_i (h168 76 0))]) (st2 := [ov_i way, ov_i (h168 4 0), ov_r 70, ov_r 4]) (pc2 := 112) b_102_111_1 rfl rfl ?_
          refine ov_cV (as := [ov_i (h168 4 0), ov_i way]) (st := [ov_r 4]) (d2 := d - 1) d_102_112 lk_OF_182 rfl (Nat.le_of_ble_eq_true rfl) (c := 9) (zb_70 I213) (zs_70 I213) ⟨by decide, rfl⟩ (by omega) (c_Town_after_70 (d - 1) (by omega) U I213 (h168 4 0) way (by omega) (by omega) (by omega)) ?_
          rintro _ _ _ ⟨v216, rfl, rfl, rfl, f215⟩
          show ov_R u d ov_m102 115 [(0, ov_r 0), (1, ov_i way), (2, ov_i run), (3, ov_i (h168 76 0))] [ov_i v216, ov_r 4] z167 (ov_up h168 4 1 ((h168 4 1) + (v211 + (h168 76 0)))) (P_OF_go_0_t F z h way run)
          have f217 : (way = 0 → v216 = (h168 4 0) + 1) ∧ (¬ way = 0 → v216 = (h168 4 0) + 6) := f215
          clear f215
          refine ov_putf (x := v216) d_102_115 fl_OF_166 (zb_4 I213) (zs_4 I213) rfl nk_0 rfl ?_
          have I218 := up_4_0 (x := v216) I213 (by omega) (hw 4 (by decide +kernel))
          refine ov_blk (ls2 := [(0, ov_r 0), (1, ov_i way), (2, ov_i run), (3, ov_i (h168 76 0))]) (st2 := [ov_r 0]) (pc2 := 119) b_102_118_1 rfl rfl ?_
          refine ov_getf (v := ov_r 4) d_102_119 fl_OF_28 (zb_0 I218) (zs_0 I218) (congrArg ov_r (rg_0_2 I218)) ?_
          refine ov_blk (ls2 := [(0, ov_r 0), (1, ov_i way), (2, ov_i run), (3, ov_i (h168 76 0))]) (st2 := [ov_r 4, ov_r 4]) (pc2 := 123) b_102_122_1 rfl rfl ?_
          refine ov_getf (v := ov_i (h168 4 2)) d_102_123 fl_OF_185 (zb_4 I218) (zs_4 I218) rfl ?_
          have g219 := rg_4_2 I169
          refine ov_blk (ls2 := [(0, ov_r 0), (1, ov_i way), (2, ov_i run), (3, ov_i (h168 76 0))]) (st2 := [ov_i run, ov_i (h168 4 2), ov_r 4]) (pc2 := 127) b_102_126_1 rfl rfl ?_
          refine ov_ifeq (tgt := 134) d_102_127 (by decide) (by omega) (fun c220 => ?_) (fun c220 => ?_)
          · skip
            refine ov_blk (ls2 := [(0, ov_r 0), (1, ov_i way), (2, ov_i run), (3, ov_i (h168 76 0))]) (st2 := [ov_i ((h168 4 2) + 0), ov_r 4]) (pc2 := 136) b_102_134_2 rfl rfl ?_
            refine ov_putf (x := ((h168 4 2) + 0)) d_102_136 fl_OF_185 (zb_4 I218) (zs_4 I218) rfl nk_0 rfl ?_
            have I221 := up_4_2 (x := ((h168 4 2) + 0)) I218 (by omega) (hw 4 (by decide +kernel))
            refine ov_blk (ls2 := [(0, ov_r 0), (1, ov_i way), (2, ov_i run), (3, ov_i (h168 76 0))]) (st2 := [ov_r 0]) (pc2 := 140) b_102_139_1 rfl rfl ?_
            refine ov_getf (v := ov_r 4) d_102_140 fl_OF_28 (zb_0 I221) (zs_0 I221) (congrArg ov_r (rg_0_2 I221)) ?_
            refine ov_getf (v := ov_i ((h168 4 1) + (v211 + (h168 76 0)))) d_102_143 fl_OF_179 (zb_4 I221) (zs_4 I221) rfl ?_
            exact ov_reti (st := []) d_102_146 rfl ⟨_, rfl, I221, (by show (h168 36 7) = (h 36 7) ∧ (h168 1 1) = (h 1 1) ∧ (h168 90 2) = (h 90 2) ∧ (h168 0 10) = (h 0 10) ∧ (h168 0 11) = (h 0 11) ∧ (h168 0 12) = (h 0 12) ∧ (h168 0 13) = (h 0 13) ∧ (h168 3 1) = (h 3 1) ∧ (h168 36 8) = (h 36 8) ∧ (h168 46 3) = (h 46 3) ∧ (h168 46 4) = (h 46 4) ∧ (h168 49 4) = (h 49 4) ∧ (h168 49 5) = (h 49 5) ∧ (h168 64 0) = (h 64 0) ∧ (h168 76 0) = (h 76 0); omega), ⟨(fun e => absurd e (by omega)), fun _ => (by unfold st_Xgo; exact (Or.inr ⟨(by omega), (by show ((h168 4 1) + (v211 + (h168 76 0))) = ((h168 4 1) + (v211 + (h168 76 0))); rfl), (by rw [← ewt]; omega), (st_K_up (st_K_up (st_K_up xk))), (by show v216 = _; omega), (by show ((h168 4 2) + 0) = _; omega), (by show (h168 4 3) = _; rw [er172]), (by show (h168 4 4) = _; rw [er172]), (by show (h168 4 5) = _; rw [er172])⟩))⟩⟩
          · skip
            refine ov_blk (ls2 := [(0, ov_r 0), (1, ov_i way), (2, ov_i run), (3, ov_i (h168 76 0))]) (st2 := [ov_i 1, ov_i (h168 4 2), ov_r 4]) (pc2 := 131) b_102_130_1 rfl rfl ?_
            refine ov_goto (tgt := 135) d_102_131 (by decide) ?_
            refine ov_blk (ls2 := [(0, ov_r 0), (1, ov_i way), (2, ov_i run), (3, ov_i (h168 76 0))]) (st2 := [ov_i ((h168 4 2) + 1), ov_r 4]) (pc2 := 136) b_102_135_1 rfl rfl ?_
            refine ov_putf (x := ((h168 4 2) + 1)) d_102_136 fl_OF_185 (zb_4 I218) (zs_4 I218) rfl nk_0 rfl ?_
            have I222 := up_4_2 (x := ((h168 4 2) + 1)) I218 (by omega) (hw 4 (by decide +kernel))
            refine ov_blk (ls2 := [(0, ov_r 0), (1, ov_i way), (2, ov_i run), (3, ov_i (h168 76 0))]) (st2 := [ov_r 0]) (pc2 := 140) b_102_139_1 rfl rfl ?_
            refine ov_getf (v := ov_r 4) d_102_140 fl_OF_28 (zb_0 I222) (zs_0 I222) (congrArg ov_r (rg_0_2 I222)) ?_
            refine ov_getf (v := ov_i ((h168 4 1) + (v211 + (h168 76 0)))) d_102_143 fl_OF_179 (zb_4 I222) (zs_4 I222) rfl ?_
            exact ov_reti (st := []) d_102_146 rfl ⟨_, rfl, I222, (by show (h168 36 7) = (h 36 7) ∧ (h168 1 1) = (h 1 1) ∧ (h168 90 2) = (h 90 2) ∧ (h168 0 10) = (h 0 10) ∧ (h168 0 11) = (h 0 11) ∧ (h168 0 12) = (h 0 12) ∧ (h168 0 13) = (h 0 13) ∧ (h168 3 1) = (h 3 1) ∧ (h168 36 8) = (h 36 8) ∧ (h168 46 3) = (h 46 3) ∧ (h168 46 4) = (h 46 4) ∧ (h168 49 4) = (h 49 4) ∧ (h168 49 5) = (h 49 5) ∧ (h168 64 0) = (h 64 0) ∧ (h168 76 0) = (h 76 0); omega), ⟨(fun e => absurd e (by omega)), fun _ => (by unfold st_Xgo; exact (Or.inr ⟨(by omega), (by show ((h168 4 1) + (v211 + (h168 76 0))) = ((h168 4 1) + (v211 + (h168 76 0))); rfl), (by rw [← ewt]; omega), (st_K_up (st_K_up (st_K_up xk))), (by show v216 = _; omega), (by show ((h168 4 2) + 1) = _; omega), (by show (h168 4 3) = _; rw [er172]), (by show (h168 4 4) = _; rw [er172]), (by show (h168 4 5) = _; rw [er172])⟩))⟩⟩
        · skip
          refine ov_blk (ls2 := [(0, ov_r 0), (1, ov_i way), (2, ov_i run)]) (st2 := [ov_i 1, ov_r 76]) (pc2 := 54) b_102_53_1 rfl rfl ?_
          refine ov_goto (tgt := 58) d_102_54 (by decide) ?_
          refine ov_iald d_102_58 (zb_76 I169) (zs_76 I169) (by omega) ?_
          have g223 := ra_76 I169 1
          refine ov_blk (ls2 := [(0, ov_r 0), (1, ov_i way), (2, ov_i run), (3, ov_i (h168 76 1))]) (st2 := [ov_r 0]) (pc2 := 61) b_102_59_2 rfl rfl ?_
          refine ov_getf (v := ov_r 4) d_102_61 fl_OF_28 (zb_0 I169) (zs_0 I169) (congrArg ov_r (rg_0_2 I169)) ?_
          refine ov_blk (ls2 := [(0, ov_r 0), (1, ov_i way), (2, ov_i run), (3, ov_i (h168 76 1))]) (st2 := [ov_r 4, ov_r 4]) (pc2 := 65) b_102_64_1 rfl rfl ?_
          refine ov_getf (v := ov_i (h168 4 1)) d_102_65 fl_OF_179 (zb_4 I169) (zs_4 I169) rfl ?_
          have g224 := rg_4_1 I169
          refine ov_blk (ls2 := [(0, ov_r 0), (1, ov_i way), (2, ov_i run), (3, ov_i (h168 76 1))]) (st2 := [ov_r 0, ov_i (h168 4 1), ov_r 4]) (pc2 := 69) b_102_68_1 rfl rfl ?_
          refine ov_getf (v := ov_r 70) d_102_69 fl_OF_78 (zb_0 I169) (zs_0 I169) (congrArg ov_r e204) ?_
          refine ov_blk (ls2 := [(0, ov_r 0), (1, ov_i way), (2, ov_i run), (3, ov_i (h168 76 1))]) (st2 := [ov_r 0, ov_r 70, ov_i (h168 4 1), ov_r 4]) (pc2 := 73) b_102_72_1 rfl rfl ?_
          refine ov_getf (v := ov_r 4) d_102_73 fl_OF_28 (zb_0 I169) (zs_0 I169) (congrArg ov_r (rg_0_2 I169)) ?_
          refine ov_getf (v := ov_i (h168 4 0)) d_102_76 fl_OF_166 (zb_4 I169) (zs_4 I169) rfl ?_
          have g225 := rg_4_0 I169
          refine ov_blk (ls2 := [(0, ov_r 0), (1, ov_i way), (2, ov_i run), (3, ov_i (h168 76 1))]) (st2 := [ov_r 0, ov_i way, ov_i (h168 4 0), ov_r 70, ov_i (h168 4 1), ov_r 4]) (pc2 := 81) b_102_79_2 rfl rfl ?_
          refine ov_getf (v := ov_r 4) d_102_81 fl_OF_28 (zb_0 I169) (zs_0 I169) (congrArg ov_r (rg_0_2 I169)) ?_
          refine ov_getf (v := ov_i (h168 4 1)) d_102_84 fl_OF_179 (zb_4 I169) (zs_4 I169) rfl ?_
          refine ov_cV (as := [ov_i (h168 4 0), ov_i way, ov_i (h168 4 1)]) (st := [ov_i (h168 4 1), ov_r 4]) (d2 := d - 1) d_102_87 lk_OF_162 rfl (Nat.le_of_ble_eq_true rfl) (c := 9) (zb_70 I169) (zs_70 I169) ⟨by decide, rfl⟩ (by omega) (c_Town_waitFor_70_b (d - 1) (by omega) U I169 (h168 4 0) way (h168 4 1) (by omega) (by omega) (by omega) (by omega) (by omega)) ?_
          rintro _ _ _ ⟨v228, rfl, rfl, rfl, f227⟩
          show ov_R u d ov_m102 90 [(0, ov_r 0), (1, ov_i way), (2, ov_i run), (3, ov_i (h168 76 1))] [ov_i v228, ov_i (h168 4 1), ov_r 4] z167 h168 (P_OF_go_0_t F z h way run)
          have f229 : v228 = ov_wtv (h168 71 (h168 4 0)) (h168 72 (h168 4 0)) (h168 73 (h168 4 0)) (h168 74 (h168 4 0)) way (h168 4 1) ∧ 0 ≤ v228 ∧ v228 ≤ 60 := f227
          clear f227
          have gop := ra_77 I (h 4 0)
          have ewt : v228 = ov_wtv (h 71 (h 4 0)) (h 72 (h 4 0)) (h 73 (h 4 0)) (h 74 (h 4 0)) way (h 4 1) := by rw [← er192, ← er193, ← er194, ← er195, ← er172]; omega
          refine ov_blk (ls2 := [(0, ov_r 0), (1, ov_i way), (2, ov_i run), (3, ov_i (h168 76 1))]) (st2 := [ov_i ((h168 4 1) + (v228 + (h168 76 1))), ov_r 4]) (pc2 := 93) b_102_90_3 rfl rfl ?_
          refine ov_putf (x := ((h168 4 1) + (v228 + (h168 76 1)))) d_102_93 fl_OF_179 (zb_4 I169) (zs_4 I169) rfl nk_0 rfl ?_
          have I230 := up_4_1 (x := ((h168 4 1) + (v228 + (h168 76 1)))) I169 (by omega) (hw 4 (by decide +kernel))
          refine ov_blk (ls2 := [(0, ov_r 0), (1, ov_i way), (2, ov_i run), (3, ov_i (h168 76 1))]) (st2 := [ov_r 0]) (pc2 := 97) b_102_96_1 rfl rfl ?_
          refine ov_getf (v := ov_r 4) d_102_97 fl_OF_28 (zb_0 I230) (zs_0 I230) (congrArg ov_r (rg_0_2 I230)) ?_
          refine ov_blk (ls2 := [(0, ov_r 0), (1, ov_i way), (2, ov_i run), (3, ov_i (h168 76 1))]) (st2 := [ov_r 0, ov_r 4]) (pc2 := 101) b_102_100_1 rfl rfl ?_
          refine ov_getf (v := ov_r 70) d_102_101 fl_OF_78 (zb_0 I230) (zs_0 I230) (congrArg ov_r e204) ?_
          refine ov_blk (ls2 := [(0, ov_r 0), (1, ov_i way), (2, ov_i run), (3, ov_i (h168 76 1))]) (st2 := [ov_r 0, ov_r 70, ov_r 4]) (pc2 := 105) b_102_104_1 rfl rfl ?_
          refine ov_getf (v := ov_r 4) d_102_105 fl_OF_28 (zb_0 I230) (zs_0 I230) (congrArg ov_r (rg_0_2 I230)) ?_
          refine ov_getf (v := ov_i (h168 4 0)) d_102_108 fl_OF_166 (zb_4 I230) (zs_4 I230) rfl ?_
          refine ov_blk (ls2 := [(0, ov_r 0), (1, ov_i way), (2, ov_i run), (3, ov_i (h168 76 1))]) (st2 := [ov_i way, ov_i (h168 4 0), ov_r 70, ov_r 4]) (pc2 := 112) b_102_111_1 rfl rfl ?_
          refine ov_cV (as := [ov_i (h168 4 0), ov_i way]) (st := [ov_r 4]) (d2 := d - 1) d_102_112 lk_OF_182 rfl (Nat.le_of_ble_eq_true rfl) (c := 9) (zb_70 I230) (zs_70 I230) ⟨by decide, rfl⟩ (by omega) (c_Town_after_70 (d - 1) (by omega) U I230 (h168 4 0) way (by omega) (by omega) (by omega)) ?_
          rintro _ _ _ ⟨v233, rfl, rfl, rfl, f232⟩
          show ov_R u d ov_m102 115 [(0, ov_r 0), (1, ov_i way), (2, ov_i run), (3, ov_i (h168 76 1))] [ov_i v233, ov_r 4] z167 (ov_up h168 4 1 ((h168 4 1) + (v228 + (h168 76 1)))) (P_OF_go_0_t F z h way run)
          have f234 : (way = 0 → v233 = (h168 4 0) + 1) ∧ (¬ way = 0 → v233 = (h168 4 0) + 6) := f232
          clear f232
          refine ov_putf (x := v233) d_102_115 fl_OF_166 (zb_4 I230) (zs_4 I230) rfl nk_0 rfl ?_
          have I235 := up_4_0 (x := v233) I230 (by omega) (hw 4 (by decide +kernel))
          refine ov_blk (ls2 := [(0, ov_r 0), (1, ov_i way), (2, ov_i run), (3, ov_i (h168 76 1))]) (st2 := [ov_r 0]) (pc2 := 119) b_102_118_1 rfl rfl ?_
          refine ov_getf (v := ov_r 4) d_102_119 fl_OF_28 (zb_0 I235) (zs_0 I235) (congrArg ov_r (rg_0_2 I235)) ?_
          refine ov_blk (ls2 := [(0, ov_r 0), (1, ov_i way), (2, ov_i run), (3, ov_i (h168 76 1))]) (st2 := [ov_r 4, ov_r 4]) (pc2 := 123) b_102_122_1 rfl rfl ?_
          refine ov_getf (v := ov_i (h168 4 2)) d_102_123 fl_OF_185 (zb_4 I235) (zs_4 I235) rfl ?_
          have g236 := rg_4_2 I169
          refine ov_blk (ls2 := [(0, ov_r 0), (1, ov_i way), (2, ov_i run), (3, ov_i (h168 76 1))]) (st2 := [ov_i run, ov_i (h168 4 2), ov_r 4]) (pc2 := 127) b_102_126_1 rfl rfl ?_
          refine ov_ifeq (tgt := 134) d_102_127 (by decide) (by omega) (fun c237 => ?_) (fun c237 => ?_)
          · skip
            refine ov_blk (ls2 := [(0, ov_r 0), (1, ov_i way), (2, ov_i run), (3, ov_i (h168 76 1))]) (st2 := [ov_i ((h168 4 2) + 0), ov_r 4]) (pc2 := 136) b_102_134_2 rfl rfl ?_
            refine ov_putf (x := ((h168 4 2) + 0)) d_102_136 fl_OF_185 (zb_4 I235) (zs_4 I235) rfl nk_0 rfl ?_
            have I238 := up_4_2 (x := ((h168 4 2) + 0)) I235 (by omega) (hw 4 (by decide +kernel))
            refine ov_blk (ls2 := [(0, ov_r 0), (1, ov_i way), (2, ov_i run), (3, ov_i (h168 76 1))]) (st2 := [ov_r 0]) (pc2 := 140) b_102_139_1 rfl rfl ?_
            refine ov_getf (v := ov_r 4) d_102_140 fl_OF_28 (zb_0 I238) (zs_0 I238) (congrArg ov_r (rg_0_2 I238)) ?_
            refine ov_getf (v := ov_i ((h168 4 1) + (v228 + (h168 76 1)))) d_102_143 fl_OF_179 (zb_4 I238) (zs_4 I238) rfl ?_
            exact ov_reti (st := []) d_102_146 rfl ⟨_, rfl, I238, (by show (h168 36 7) = (h 36 7) ∧ (h168 1 1) = (h 1 1) ∧ (h168 90 2) = (h 90 2) ∧ (h168 0 10) = (h 0 10) ∧ (h168 0 11) = (h 0 11) ∧ (h168 0 12) = (h 0 12) ∧ (h168 0 13) = (h 0 13) ∧ (h168 3 1) = (h 3 1) ∧ (h168 36 8) = (h 36 8) ∧ (h168 46 3) = (h 46 3) ∧ (h168 46 4) = (h 46 4) ∧ (h168 49 4) = (h 49 4) ∧ (h168 49 5) = (h 49 5) ∧ (h168 64 0) = (h 64 0) ∧ (h168 76 0) = (h 76 0); omega), ⟨(fun e => absurd e (by omega)), fun _ => (by unfold st_Xgo; exact (Or.inr ⟨(by omega), (by show ((h168 4 1) + (v228 + (h168 76 1))) = ((h168 4 1) + (v228 + (h168 76 1))); rfl), (by rw [← ewt]; omega), (st_K_up (st_K_up (st_K_up xk))), (by show v233 = _; omega), (by show ((h168 4 2) + 0) = _; omega), (by show (h168 4 3) = _; rw [er172]), (by show (h168 4 4) = _; rw [er172]), (by show (h168 4 5) = _; rw [er172])⟩))⟩⟩
          · skip
            refine ov_blk (ls2 := [(0, ov_r 0), (1, ov_i way), (2, ov_i run), (3, ov_i (h168 76 1))]) (st2 := [ov_i 1, ov_i (h168 4 2), ov_r 4]) (pc2 := 131) b_102_130_1 rfl rfl ?_
            refine ov_goto (tgt := 135) d_102_131 (by decide) ?_
            refine ov_blk (ls2 := [(0, ov_r 0), (1, ov_i way), (2, ov_i run), (3, ov_i (h168 76 1))]) (st2 := [ov_i ((h168 4 2) + 1), ov_r 4]) (pc2 := 136) b_102_135_1 rfl rfl ?_
            refine ov_putf (x := ((h168 4 2) + 1)) d_102_136 fl_OF_185 (zb_4 I235) (zs_4 I235) rfl nk_0 rfl ?_
            have I239 := up_4_2 (x := ((h168 4 2) + 1)) I235 (by omega) (hw 4 (by decide +kernel))
            refine ov_blk (ls2 := [(0, ov_r 0), (1, ov_i way), (2, ov_i run), (3, ov_i (h168 76 1))]) (st2 := [ov_r 0]) (pc2 := 140) b_102_139_1 rfl rfl ?_
            refine ov_getf (v := ov_r 4) d_102_140 fl_OF_28 (zb_0 I239) (zs_0 I239) (congrArg ov_r (rg_0_2 I239)) ?_
            refine ov_getf (v := ov_i ((h168 4 1) + (v228 + (h168 76 1)))) d_102_143 fl_OF_179 (zb_4 I239) (zs_4 I239) rfl ?_
            exact ov_reti (st := []) d_102_146 rfl ⟨_, rfl, I239, (by show (h168 36 7) = (h 36 7) ∧ (h168 1 1) = (h 1 1) ∧ (h168 90 2) = (h 90 2) ∧ (h168 0 10) = (h 0 10) ∧ (h168 0 11) = (h 0 11) ∧ (h168 0 12) = (h 0 12) ∧ (h168 0 13) = (h 0 13) ∧ (h168 3 1) = (h 3 1) ∧ (h168 36 8) = (h 36 8) ∧ (h168 46 3) = (h 46 3) ∧ (h168 46 4) = (h 46 4) ∧ (h168 49 4) = (h 49 4) ∧ (h168 49 5) = (h 49 5) ∧ (h168 64 0) = (h 64 0) ∧ (h168 76 0) = (h 76 0); omega), ⟨(fun e => absurd e (by omega)), fun _ => (by unfold st_Xgo; exact (Or.inr ⟨(by omega), (by show ((h168 4 1) + (v228 + (h168 76 1))) = ((h168 4 1) + (v228 + (h168 76 1))); rfl), (by rw [← ewt]; omega), (st_K_up (st_K_up (st_K_up xk))), (by show v233 = _; omega), (by show ((h168 4 2) + 1) = _; omega), (by show (h168 4 3) = _; rw [er172]), (by show (h168 4 4) = _; rw [er172]), (by show (h168 4 5) = _; rw [er172])⟩))⟩⟩
      · skip
        refine ov_blk (ls2 := [(0, ov_r 0), (1, ov_i way), (2, ov_i run)]) (st2 := [ov_r 0]) (pc2 := 23) b_102_22_1 rfl rfl ?_
        refine ov_cV (as := []) (st := []) (d2 := d - 1) d_102_23 lk_OF_168 rfl (Nat.le_of_ble_eq_true rfl) (c := 0) (zb_0 I) (zs_0 I) ⟨by decide, rfl⟩ (by omega) (c_OF_runsLeft_0_k0_10_70_t (d - 1) (by omega) U I e1 (by omega)) ?_
        rintro _ _ _ ⟨v241, rfl, rfl, rfl, f240⟩
        show ov_R u d ov_m102 26 [(0, ov_r 0), (1, ov_i way), (2, ov_i run)] [ov_i v241] z h (P_OF_go_0_t F z h way run)
        have f242 : ((h 70 8) = 1 → v241 = 0) ∧ (¬ (h 70 8) = 1 → v241 = (h 76 3) - (h 4 2)) ∧ -2147483648 ≤ v241 ∧ v241 ≤ 2147483647 := f240
        clear f240
        refine ov_ifgt (tgt := 31) d_102_26 (by decide) (by omega) (fun c243 => ?_) (fun c243 => ?_)
        · skip
          refine ov_blk (ls2 := [(0, ov_r 0), (1, ov_i way), (2, ov_i run)]) (st2 := [ov_r 0]) (pc2 := 32) b_102_31_1 rfl rfl ?_
          refine ov_getf (v := ov_r 9) d_102_32 fl_OF_35 (zb_0 I) (zs_0 I) (congrArg ov_r (rg_0_3 I)) ?_
          refine ov_blk (ls2 := [(0, ov_r 0), (1, ov_i way), (2, ov_i run)]) (st2 := [ov_r 0, ov_r 9]) (pc2 := 36) b_102_35_1 rfl rfl ?_
          refine ov_getf (v := ov_r 4) d_102_36 fl_OF_28 (zb_0 I) (zs_0 I) (congrArg ov_r (rg_0_2 I)) ?_
          refine ov_cV (as := [ov_r 4]) (st := []) (d2 := d - 1) d_102_39 lk_OF_172 rfl (Nat.le_of_ble_eq_true rfl) (c := 3) (zb_9 I) (zs_9 I) ⟨by decide, rfl⟩ (by omega) (c_History_keep_9_4_t (d - 1) (by omega) U (ov_I_ff (M := 1237940038997149967466873343) I) (ov_kw_ff (ov_kws hw (by decide +kernel)) (by decide +kernel))) ?_
          rintro _ z245 h246 ⟨rfl, I247, f244, xk⟩
          have I247k := I247
          have I247 := ov_I_fr I I247k
          have er248 : h246 0 = h 0 := ov_ff_k I247k (Or.inl (by decide)) (by decide +kernel)
          have ek249 : h246 0 10 = (h 0 10) := congrFun er248 10
          have er250 : h246 4 = h 4 := ov_ff_k I247k (Or.inl (by decide)) (by decide +kernel)
          have ek251 : h246 4 0 = (h 4 0) := congrFun er250 0
          have ek252 : h246 4 1 = (h 4 1) := congrFun er250 1
          have ek253 : h246 4 2 = (h 4 2) := congrFun er250 2
          have ek254 : h246 4 3 = (h 4 3) := congrFun er250 3
          have ek255 : h246 4 4 = (h 4 4) := congrFun er250 4
          have ek256 : h246 4 5 = (h 4 5) := congrFun er250 5
          have er257 : h246 58 = h 58 := ov_ff_k I247k (Or.inr (by decide)) (by decide +kernel)
          have er258 : h246 59 = h 59 := ov_ff_k I247k (Or.inr (by decide)) (by decide +kernel)
          have er259 : h246 60 = h 60 := ov_ff_k I247k (Or.inr (by decide)) (by decide +kernel)
          have er260 : h246 61 = h 61 := ov_ff_k I247k (Or.inr (by decide)) (by decide +kernel)
          have er261 : h246 62 = h 62 := ov_ff_k I247k (Or.inr (by decide)) (by decide +kernel)
          have er262 : h246 63 = h 63 := ov_ff_k I247k (Or.inr (by decide)) (by decide +kernel)
          have er263 : h246 64 = h 64 := ov_ff_k I247k (Or.inr (by decide)) (by decide +kernel)
          have ek264 : h246 64 0 = (h 64 0) := congrFun er263 0
          have ek265 : h246 64 1 = (h 64 1) := congrFun er263 1
          have ek266 : h246 64 2 = (h 64 2) := congrFun er263 2
          have ek267 : h246 64 3 = (h 64 3) := congrFun er263 3
          have er268 : h246 65 = h 65 := ov_ff_k I247k (Or.inr (by decide)) (by decide +kernel)
          have er269 : h246 70 = h 70 := ov_ff_k I247k (Or.inr (by decide)) (by decide +kernel)
          have er270 : h246 71 = h 71 := ov_ff_k I247k (Or.inr (by decide)) (by decide +kernel)
          have er271 : h246 72 = h 72 := ov_ff_k I247k (Or.inr (by decide)) (by decide +kernel)
          have er272 : h246 73 = h 73 := ov_ff_k I247k (Or.inr (by decide)) (by decide +kernel)
          have er273 : h246 74 = h 74 := ov_ff_k I247k (Or.inr (by decide)) (by decide +kernel)
          have er274 : h246 75 = h 75 := ov_ff_k I247k (Or.inr (by decide)) (by decide +kernel)
          have er275 : h246 76 = h 76 := ov_ff_k I247k (Or.inr (by decide)) (by decide +kernel)
          have ek276 : h246 76 0 = (h 76 0) := congrFun er275 0
          have ek277 : h246 76 1 = (h 76 1) := congrFun er275 1
          have ek278 : h246 76 2 = (h 76 2) := congrFun er275 2
          have ek279 : h246 76 3 = (h 76 3) := congrFun er275 3
          have er280 : h246 77 = h 77 := ov_ff_k I247k (Or.inr (by decide)) (by decide +kernel)
          show ov_R u d ov_m102 42 [(0, ov_r 0), (1, ov_i way), (2, ov_i run)] [] z245 h246 (P_OF_go_0_t F z h way run)
          have f281 : (h246 36 7) = (h 36 7) ∧ (h246 1 1) = (h 1 1) ∧ (h246 90 2) = (h 90 2) ∧ (h246 0 10) = (h 0 10) ∧ (h246 0 11) = (h 0 11) ∧ (h246 0 12) = (h 0 12) ∧ (h246 0 13) = (h 0 13) ∧ (h246 3 1) = (h 3 1) ∧ (h246 36 8) = (h 36 8) ∧ (h246 46 3) = (h 46 3) ∧ (h246 46 4) = (h 46 4) ∧ (h246 49 4) = (h 49 4) ∧ (h246 49 5) = (h 49 5) ∧ (h246 64 0) = (h 64 0) ∧ (h246 76 0) = (h 76 0) := f244
          clear f244
          have e282 : h246 0 10 = 70 := by omega
          refine ov_blk (ls2 := [(0, ov_r 0), (1, ov_i way), (2, ov_i run)]) (st2 := [ov_r 0]) (pc2 := 43) b_102_42_1 rfl rfl ?_
          refine ov_getf (v := ov_r 70) d_102_43 fl_OF_78 (zb_0 I247) (zs_0 I247) (congrArg ov_r e282) ?_
          refine ov_getf (v := ov_r 76) d_102_46 fl_OF_176 (zb_70 I247) (zs_70 I247) (congrArg ov_r (rg_70_7 I247)) ?_
          refine ov_blk (ls2 := [(0, ov_r 0), (1, ov_i way), (2, ov_i run)]) (st2 := [ov_i run, ov_r 76]) (pc2 := 50) b_102_49_1 rfl rfl ?_
          refine ov_ifeq (tgt := 57) d_102_50 (by decide) (by omega) (fun c283 => ?_) (fun c283 => ?_)
          · skip
            refine ov_blk (ls2 := [(0, ov_r 0), (1, ov_i way), (2, ov_i run)]) (st2 := [ov_i 0, ov_r 76]) (pc2 := 58) b_102_57_1 rfl rfl ?_
            refine ov_iald d_102_58 (zb_76 I247) (zs_76 I247) (by omega) ?_
            have g284 := ra_76 I247 0
            refine ov_blk (ls2 := [(0, ov_r 0), (1, ov_i way), (2, ov_i run), (3, ov_i (h246 76 0))]) (st2 := [ov_r 0]) (pc2 := 61) b_102_59_2 rfl rfl ?_
            refine ov_getf (v := ov_r 4) d_102_61 fl_OF_28 (zb_0 I247) (zs_0 I247) (congrArg ov_r (rg_0_2 I247)) ?_
            refine ov_blk (ls2 := [(0, ov_r 0), (1, ov_i way), (2, ov_i run), (3, ov_i (h246 76 0))]) (st2 := [ov_r 4, ov_r 4]) (pc2 := 65) b_102_64_1 rfl rfl ?_
            refine ov_getf (v := ov_i (h246 4 1)) d_102_65 fl_OF_179 (zb_4 I247) (zs_4 I247) rfl ?_
            have g285 := rg_4_1 I247
            refine ov_blk (ls2 := [(0, ov_r 0), (1, ov_i way), (2, ov_i run), (3, ov_i (h246 76 0))]) (st2 := [ov_r 0, ov_i (h246 4 1), ov_r 4]) (pc2 := 69) b_102_68_1 rfl rfl ?_
            refine ov_getf (v := ov_r 70) d_102_69 fl_OF_78 (zb_0 I247) (zs_0 I247) (congrArg ov_r e282) ?_
            refine ov_blk (ls2 := [(0, ov_r 0), (1, ov_i way), (2, ov_i run), (3, ov_i (h246 76 0))]) (st2 := [ov_r 0, ov_r 70, ov_i (h246 4 1), ov_r 4]) (pc2 := 73) b_102_72_1 rfl rfl ?_
            refine ov_getf (v := ov_r 4) d_102_73 fl_OF_28 (zb_0 I247) (zs_0 I247) (congrArg ov_r (rg_0_2 I247)) ?_
            refine ov_getf (v := ov_i (h246 4 0)) d_102_76 fl_OF_166 (zb_4 I247) (zs_4 I247) rfl ?_
            have g286 := rg_4_0 I247
            refine ov_blk (ls2 := [(0, ov_r 0), (1, ov_i way), (2, ov_i run), (3, ov_i (h246 76 0))]) (st2 := [ov_r 0, ov_i way, ov_i (h246 4 0), ov_r 70, ov_i (h246 4 1), ov_r 4]) (pc2 := 81) b_102_79_2 rfl rfl ?_
            refine ov_getf (v := ov_r 4) d_102_81 fl_OF_28 (zb_0 I247) (zs_0 I247) (congrArg ov_r (rg_0_2 I247)) ?_
            refine ov_getf (v := ov_i (h246 4 1)) d_102_84 fl_OF_179 (zb_4 I247) (zs_4 I247) rfl ?_
            refine ov_cV (as := [ov_i (h246 4 0), ov_i way, ov_i (h246 4 1)]) (st := [ov_i (h246 4 1), ov_r 4]) (d2 := d - 1) d_102_87 lk_OF_162 rfl (Nat.le_of_ble_eq_true rfl) (c := 9) (zb_70 I247) (zs_70 I247) ⟨by decide, rfl⟩ (by omega) (c_Town_waitFor_70_b (d - 1) (by omega) U I247 (h246 4 0) way (h246 4 1) (by omega) (by omega) (by omega) (by omega) (by omega)) ?_
            rintro _ _ _ ⟨v289, rfl, rfl, rfl, f288⟩
            show ov_R u d ov_m102 90 [(0, ov_r 0), (1, ov_i way), (2, ov_i run), (3, ov_i (h246 76 0))] [ov_i v289, ov_i (h246 4 1), ov_r 4] z245 h246 (P_OF_go_0_t F z h way run)
            have f290 : v289 = ov_wtv (h246 71 (h246 4 0)) (h246 72 (h246 4 0)) (h246 73 (h246 4 0)) (h246 74 (h246 4 0)) way (h246 4 1) ∧ 0 ≤ v289 ∧ v289 ≤ 60 := f288
            clear f288
            have gop := ra_77 I (h 4 0)
            have ewt : v289 = ov_wtv (h 71 (h 4 0)) (h 72 (h 4 0)) (h 73 (h 4 0)) (h 74 (h 4 0)) way (h 4 1) := by rw [← er270, ← er271, ← er272, ← er273, ← er250]; omega
            refine ov_blk (ls2 := [(0, ov_r 0), (1, ov_i way), (2, ov_i run), (3, ov_i (h246 76 0))]) (st2 := [ov_i ((h246 4 1) + (v289 + (h246 76 0))), ov_r 4]) (pc2 := 93) b_102_90_3 rfl rfl ?_
            refine ov_putf (x := ((h246 4 1) + (v289 + (h246 76 0)))) d_102_93 fl_OF_179 (zb_4 I247) (zs_4 I247) rfl nk_0 rfl ?_
            have I291 := up_4_1 (x := ((h246 4 1) + (v289 + (h246 76 0)))) I247 (by omega) (hw 4 (by decide +kernel))
            refine ov_blk (ls2 := [(0, ov_r 0), (1, ov_i way), (2, ov_i run), (3, ov_i (h246 76 0))]) (st2 := [ov_r 0]) (pc2 := 97) b_102_96_1 rfl rfl ?_
            refine ov_getf (v := ov_r 4) d_102_97 fl_OF_28 (zb_0 I291) (zs_0 I291) (congrArg ov_r (rg_0_2 I291)) ?_
            refine ov_blk (ls2 := [(0, ov_r 0), (1, ov_i way), (2, ov_i run), (3, ov_i (h246 76 0))]) (st2 := [ov_r 0, ov_r 4]) (pc2 := 101) b_102_100_1 rfl rfl ?_
            refine ov_getf (v := ov_r 70) d_102_101 fl_OF_78 (zb_0 I291) (zs_0 I291) (congrArg ov_r e282) ?_
            refine ov_blk (ls2 := [(0, ov_r 0), (1, ov_i way), (2, ov_i run), (3, ov_i (h246 76 0))]) (st2 := [ov_r 0, ov_r 70, ov_r 4]) (pc2 := 105) b_102_104_1 rfl rfl ?_
            refine ov_getf (v := ov_r 4) d_102_105 fl_OF_28 (zb_0 I291) (zs_0 I291) (congrArg ov_r (rg_0_2 I291)) ?_
            refine ov_getf (v := ov_i (h246 4 0)) d_102_108 fl_OF_166 (zb_4 I291) (zs_4 I291) rfl ?_
            refine ov_blk (ls2 := [(0, ov_r 0), (1, ov_i way), (2, ov_i run), (3, ov_i (h246 76 0))]) (st2 := [ov_i way, ov_i (h246 4 0), ov_r 70, ov_r 4]) (pc2 := 112) b_102_111_1 rfl rfl ?_
            refine ov_cV (as := [ov_i (h246 4 0), ov_i way]) (st := [ov_r 4]) (d2 := d - 1) d_102_112 lk_OF_182 rfl (Nat.le_of_ble_eq_true rfl) (c := 9) (zb_70 I291) (zs_70 I291) ⟨by decide, rfl⟩ (by omega) (c_Town_after_70 (d - 1) (by omega) U I291 (h246 4 0) way (by omega) (by omega) (by omega)) ?_
            rintro _ _ _ ⟨v294, rfl, rfl, rfl, f293⟩
            show ov_R u d ov_m102 115 [(0, ov_r 0), (1, ov_i way), (2, ov_i run), (3, ov_i (h246 76 0))] [ov_i v294, ov_r 4] z245 (ov_up h246 4 1 ((h246 4 1) + (v289 + (h246 76 0)))) (P_OF_go_0_t F z h way run)
            have f295 : (way = 0 → v294 = (h246 4 0) + 1) ∧ (¬ way = 0 → v294 = (h246 4 0) + 6) := f293
            clear f293
            refine ov_putf (x := v294) d_102_115 fl_OF_166 (zb_4 I291) (zs_4 I291) rfl nk_0 rfl ?_
            have I296 := up_4_0 (x := v294) I291 (by omega) (hw 4 (by decide +kernel))
            refine ov_blk (ls2 := [(0, ov_r 0), (1, ov_i way), (2, ov_i run), (3, ov_i (h246 76 0))]) (st2 := [ov_r 0]) (pc2 := 119) b_102_118_1 rfl rfl ?_
            refine ov_getf (v := ov_r 4) d_102_119 fl_OF_28 (zb_0 I296) (zs_0 I296) (congrArg ov_r (rg_0_2 I296)) ?_
            refine ov_blk (ls2 := [(0, ov_r 0), (1, ov_i way), (2, ov_i run), (3, ov_i (h246 76 0))]) (st2 := [ov_r 4, ov_r 4]) (pc2 := 123) b_102_122_1 rfl rfl ?_
            refine ov_getf (v := ov_i (h246 4 2)) d_102_123 fl_OF_185 (zb_4 I296) (zs_4 I296) rfl ?_
            have g297 := rg_4_2 I247
            refine ov_blk (ls2 := [(0, ov_r 0), (1, ov_i way), (2, ov_i run), (3, ov_i (h246 76 0))]) (st2 := [ov_i run, ov_i (h246 4 2), ov_r 4]) (pc2 := 127) b_102_126_1 rfl rfl ?_
            refine ov_ifeq (tgt := 134) d_102_127 (by decide) (by omega) (fun c298 => ?_) (fun c298 => ?_)
            · skip
              refine ov_blk (ls2 := [(0, ov_r 0), (1, ov_i way), (2, ov_i run), (3, ov_i (h246 76 0))]) (st2 := [ov_i ((h246 4 2) + 0), ov_r 4]) (pc2 := 136) b_102_134_2 rfl rfl ?_
              refine ov_putf (x := ((h246 4 2) + 0)) d_102_136 fl_OF_185 (zb_4 I296) (zs_4 I296) rfl nk_0 rfl ?_
              have I299 := up_4_2 (x := ((h246 4 2) + 0)) I296 (by omega) (hw 4 (by decide +kernel))
              refine ov_blk (ls2 := [(0, ov_r 0), (1, ov_i way), (2, ov_i run), (3, ov_i (h246 76 0))]) (st2 := [ov_r 0]) (pc2 := 140) b_102_139_1 rfl rfl ?_
              refine ov_getf (v := ov_r 4) d_102_140 fl_OF_28 (zb_0 I299) (zs_0 I299) (congrArg ov_r (rg_0_2 I299)) ?_
              refine ov_getf (v := ov_i ((h246 4 1) + (v289 + (h246 76 0)))) d_102_143 fl_OF_179 (zb_4 I299) (zs_4 I299) rfl ?_
              exact ov_reti (st := []) d_102_146 rfl ⟨_, rfl, I299, (by show (h246 36 7) = (h 36 7) ∧ (h246 1 1) = (h 1 1) ∧ (h246 90 2) = (h 90 2) ∧ (h246 0 10) = (h 0 10) ∧ (h246 0 11) = (h 0 11) ∧ (h246 0 12) = (h 0 12) ∧ (h246 0 13) = (h 0 13) ∧ (h246 3 1) = (h 3 1) ∧ (h246 36 8) = (h 36 8) ∧ (h246 46 3) = (h 46 3) ∧ (h246 46 4) = (h 46 4) ∧ (h246 49 4) = (h 49 4) ∧ (h246 49 5) = (h 49 5) ∧ (h246 64 0) = (h 64 0) ∧ (h246 76 0) = (h 76 0); omega), ⟨(fun e => absurd e (by omega)), fun _ => (by unfold st_Xgo; exact (Or.inr ⟨(by omega), (by show ((h246 4 1) + (v289 + (h246 76 0))) = ((h246 4 1) + (v289 + (h246 76 0))); rfl), (by rw [← ewt]; omega), (st_K_up (st_K_up (st_K_up xk))), (by show v294 = _; omega), (by show ((h246 4 2) + 0) = _; omega), (by show (h246 4 3) = _; rw [er250]), (by show (h246 4 4) = _; rw [er250]), (by show (h246 4 5) = _; rw [er250])⟩))⟩⟩
            · skip
              refine ov_blk (ls2 := [(0, ov_r 0), (1, ov_i way), (2, ov_i run), (3, ov_i (h246 76 0))]) (st2 := [ov_i 1, ov_i (h246 4 2), ov_r 4]) (pc2 := 131) b_102_130_1 rfl rfl ?_
              refine ov_goto (tgt := 135) d_102_131 (by decide) ?_
              refine ov_blk (ls2 := [(0, ov_r 0), (1, ov_i way), (2, ov_i run), (3, ov_i (h246 76 0))]) (st2 := [ov_i ((h246 4 2) + 1), ov_r 4]) (pc2 := 136) b_102_135_1 rfl rfl ?_
              refine ov_putf (x := ((h246 4 2) + 1)) d_102_136 fl_OF_185 (zb_4 I296) (zs_4 I296) rfl nk_0 rfl ?_
              have I300 := up_4_2 (x := ((h246 4 2) + 1)) I296 (by omega) (hw 4 (by decide +kernel))
              refine ov_blk (ls2 := [(0, ov_r 0), (1, ov_i way), (2, ov_i run), (3, ov_i (h246 76 0))]) (st2 := [ov_r 0]) (pc2 := 140) b_102_139_1 rfl rfl ?_
              refine ov_getf (v := ov_r 4) d_102_140 fl_OF_28 (zb_0 I300) (zs_0 I300) (congrArg ov_r (rg_0_2 I300)) ?_
              refine ov_getf (v := ov_i ((h246 4 1) + (v289 + (h246 76 0)))) d_102_143 fl_OF_179 (zb_4 I300) (zs_4 I300) rfl ?_
              exact ov_reti (st := []) d_102_146 rfl ⟨_, rfl, I300, (by show (h246 36 7) = (h 36 7) ∧ (h246 1 1) = (h 1 1) ∧ (h246 90 2) = (h 90 2) ∧ (h246 0 10) = (h 0 10) ∧ (h246 0 11) = (h 0 11) ∧ (h246 0 12) = (h 0 12) ∧ (h246 0 13) = (h 0 13) ∧ (h246 3 1) = (h 3 1) ∧ (h246 36 8) = (h 36 8) ∧ (h246 46 3) = (h 46 3) ∧ (h246 46 4) = (h 46 4) ∧ (h246 49 4) = (h 49 4) ∧ (h246 49 5) = (h 49 5) ∧ (h246 64 0) = (h 64 0) ∧ (h246 76 0) = (h 76 0); omega), ⟨(fun e => absurd e (by omega)), fun _ => (by unfold st_Xgo; exact (Or.inr ⟨(by omega), (by show ((h246 4 1) + (v289 + (h246 76 0))) = ((h246 4 1) + (v289 + (h246 76 0))); rfl), (by rw [← ewt]; omega), (st_K_up (st_K_up (st_K_up xk))), (by show v294 = _; omega), (by show ((h246 4 2) + 1) = _; omega), (by show (h246 4 3) = _; rw [er250]), (by show (h246 4 4) = _; rw [er250]), (by show (h246 4 5) = _; rw [er250])⟩))⟩⟩
          · skip
            refine ov_blk (ls2 := [(0, ov_r 0), (1, ov_i way), (2, ov_i run)]) (st2 := [ov_i 1, ov_r 76]) (pc2 := 54) b_102_53_1 rfl rfl ?_
            refine ov_goto (tgt := 58) d_102_54 (by decide) ?_
            refine ov_iald d_102_58 (zb_76 I247) (zs_76 I247) (by omega) ?_
            have g301 := ra_76 I247 1
            refine ov_blk (ls2 := [(0, ov_r 0), (1, ov_i way), (2, ov_i run), (3, ov_i (h246 76 1))]) (st2 := [ov_r 0]) (pc2 := 61) b_102_59_2 rfl rfl ?_
            refine ov_getf (v := ov_r 4) d_102_61 fl_OF_28 (zb_0 I247) (zs_0 I247) (congrArg ov_r (rg_0_2 I247)) ?_
            refine ov_blk (ls2 := [(0, ov_r 0), (1, ov_i way), (2, ov_i run), (3, ov_i (h246 76 1))]) (st2 := [ov_r 4, ov_r 4]) (pc2 := 65) b_102_64_1 rfl rfl ?_
            refine ov_getf (v := ov_i (h246 4 1)) d_102_65 fl_OF_179 (zb_4 I247) (zs_4 I247) rfl ?_
            have g302 := rg_4_1 I247
            refine ov_blk (ls2 := [(0, ov_r 0), (1, ov_i way), (2, ov_i run), (3, ov_i (h246 76 1))]) (st2 := [ov_r 0, ov_i (h246 4 1), ov_r 4]) (pc2 := 69) b_102_68_1 rfl rfl ?_
            refine ov_getf (v := ov_r 70) d_102_69 fl_OF_78 (zb_0 I247) (zs_0 I247) (congrArg ov_r e282) ?_
            refine ov_blk (ls2 := [(0, ov_r 0), (1, ov_i way), (2, ov_i run), (3, ov_i (h246 76 1))]) (st2 := [ov_r 0, ov_r 70, ov_i (h246 4 1), ov_r 4]) (pc2 := 73) b_102_72_1 rfl rfl ?_
            refine ov_getf (v := ov_r 4) d_102_73 fl_OF_28 (zb_0 I247) (zs_0 I247) (congrArg ov_r (rg_0_2 I247)) ?_
            refine ov_getf (v := ov_i (h246 4 0)) d_102_76 fl_OF_166 (zb_4 I247) (zs_4 I247) rfl ?_
            have g303 := rg_4_0 I247
            refine ov_blk (ls2 := [(0, ov_r 0), (1, ov_i way), (2, ov_i run), (3, ov_i (h246 76 1))]) (st2 := [ov_r 0, ov_i way, ov_i (h246 4 0), ov_r 70, ov_i (h246 4 1), ov_r 4]) (pc2 := 81) b_102_79_2 rfl rfl ?_
            refine ov_getf (v := ov_r 4) d_102_81 fl_OF_28 (zb_0 I247) (zs_0 I247) (congrArg ov_r (rg_0_2 I247)) ?_
            refine ov_getf (v := ov_i (h246 4 1)) d_102_84 fl_OF_179 (zb_4 I247) (zs_4 I247) rfl ?_
            refine ov_cV (as := [ov_i (h246 4 0), ov_i way, ov_i (h246 4 1)]) (st := [ov_i (h246 4 1), ov_r 4]) (d2 := d - 1) d_102_87 lk_OF_162 rfl (Nat.le_of_ble_eq_true rfl) (c := 9) (zb_70 I247) (zs_70 I247) ⟨by decide, rfl⟩ (by omega) (c_Town_waitFor_70_b (d - 1) (by omega) U I247 (h246 4 0) way (h246 4 1) (by omega) (by omega) (by omega) (by omega) (by omega)) ?_
            rintro _ _ _ ⟨v306, rfl, rfl, rfl, f305⟩
            show ov_R u d ov_m102 90 [(0, ov_r 0), (1, ov_i way), (2, ov_i run), (3, ov_i (h246 76 1))] [ov_i v306, ov_i (h246 4 1), ov_r 4] z245 h246 (P_OF_go_0_t F z h way run)
            have f307 : v306 = ov_wtv (h246 71 (h246 4 0)) (h246 72 (h246 4 0)) (h246 73 (h246 4 0)) (h246 74 (h246 4 0)) way (h246 4 1) ∧ 0 ≤ v306 ∧ v306 ≤ 60 := f305
            clear f305
            have gop := ra_77 I (h 4 0)
            have ewt : v306 = ov_wtv (h 71 (h 4 0)) (h 72 (h 4 0)) (h 73 (h 4 0)) (h 74 (h 4 0)) way (h 4 1) := by rw [← er270, ← er271, ← er272, ← er273, ← er250]; omega
            refine ov_blk (ls2 := [(0, ov_r 0), (1, ov_i way), (2, ov_i run), (3, ov_i (h246 76 1))]) (st2 := [ov_i ((h246 4 1) + (v306 + (h246 76 1))), ov_r 4]) (pc2 := 93) b_102_90_3 rfl rfl ?_
            refine ov_putf (x := ((h246 4 1) + (v306 + (h246 76 1)))) d_102_93 fl_OF_179 (zb_4 I247) (zs_4 I247) rfl nk_0 rfl ?_
            have I308 := up_4_1 (x := ((h246 4 1) + (v306 + (h246 76 1)))) I247 (by omega) (hw 4 (by decide +kernel))
            refine ov_blk (ls2 := [(0, ov_r 0), (1, ov_i way), (2, ov_i run), (3, ov_i (h246 76 1))]) (st2 := [ov_r 0]) (pc2 := 97) b_102_96_1 rfl rfl ?_
            refine ov_getf (v := ov_r 4) d_102_97 fl_OF_28 (zb_0 I308) (zs_0 I308) (congrArg ov_r (rg_0_2 I308)) ?_
            refine ov_blk (ls2 := [(0, ov_r 0), (1, ov_i way), (2, ov_i run), (3, ov_i (h246 76 1))]) (st2 := [ov_r 0, ov_r 4]) (pc2 := 101) b_102_100_1 rfl rfl ?_
            refine ov_getf (v := ov_r 70) d_102_101 fl_OF_78 (zb_0 I308) (zs_0 I308) (congrArg ov_r e282) ?_
            refine ov_blk (ls2 := [(0, ov_r 0), (1, ov_i way), (2, ov_i run), (3, ov_i (h246 76 1))]) (st2 := [ov_r 0, ov_r 70, ov_r 4]) (pc2 := 105) b_102_104_1 rfl rfl ?_
            refine ov_getf (v := ov_r 4) d_102_105 fl_OF_28 (zb_0 I308) (zs_0 I308) (congrArg ov_r (rg_0_2 I308)) ?_
            refine ov_getf (v := ov_i (h246 4 0)) d_102_108 fl_OF_166 (zb_4 I308) (zs_4 I308) rfl ?_
            refine ov_blk (ls2 := [(0, ov_r 0), (1, ov_i way), (2, ov_i run), (3, ov_i (h246 76 1))]) (st2 := [ov_i way, ov_i (h246 4 0), ov_r 70, ov_r 4]) (pc2 := 112) b_102_111_1 rfl rfl ?_
            refine ov_cV (as := [ov_i (h246 4 0), ov_i way]) (st := [ov_r 4]) (d2 := d - 1) d_102_112 lk_OF_182 rfl (Nat.le_of_ble_eq_true rfl) (c := 9) (zb_70 I308) (zs_70 I308) ⟨by decide, rfl⟩ (by omega) (c_Town_after_70 (d - 1) (by omega) U I308 (h246 4 0) way (by omega) (by omega) (by omega)) ?_
            rintro _ _ _ ⟨v311, rfl, rfl, rfl, f310⟩
            show ov_R u d ov_m102 115 [(0, ov_r 0), (1, ov_i way), (2, ov_i run), (3, ov_i (h246 76 1))] [ov_i v311, ov_r 4] z245 (ov_up h246 4 1 ((h246 4 1) + (v306 + (h246 76 1)))) (P_OF_go_0_t F z h way run)
            have f312 : (way = 0 → v311 = (h246 4 0) + 1) ∧ (¬ way = 0 → v311 = (h246 4 0) + 6) := f310
            clear f310
            refine ov_putf (x := v311) d_102_115 fl_OF_166 (zb_4 I308) (zs_4 I308) rfl nk_0 rfl ?_
            have I313 := up_4_0 (x := v311) I308 (by omega) (hw 4 (by decide +kernel))
            refine ov_blk (ls2 := [(0, ov_r 0), (1, ov_i way), (2, ov_i run), (3, ov_i (h246 76 1))]) (st2 := [ov_r 0]) (pc2 := 119) b_102_118_1 rfl rfl ?_
            refine ov_getf (v := ov_r 4) d_102_119 fl_OF_28 (zb_0 I313) (zs_0 I313) (congrArg ov_r (rg_0_2 I313)) ?_
            refine ov_blk (ls2 := [(0, ov_r 0), (1, ov_i way), (2, ov_i run), (3, ov_i (h246 76 1))]) (st2 := [ov_r 4, ov_r 4]) (pc2 := 123) b_102_122_1 rfl rfl ?_
            refine ov_getf (v := ov_i (h246 4 2)) d_102_123 fl_OF_185 (zb_4 I313) (zs_4 I313) rfl ?_
            have g314 := rg_4_2 I247
            refine ov_blk (ls2 := [(0, ov_r 0), (1, ov_i way), (2, ov_i run), (3, ov_i (h246 76 1))]) (st2 := [ov_i run, ov_i (h246 4 2), ov_r 4]) (pc2 := 127) b_102_126_1 rfl rfl ?_
            refine ov_ifeq (tgt := 134) d_102_127 (by decide) (by omega) (fun c315 => ?_) (fun c315 => ?_)
            · skip
              refine ov_blk (ls2 := [(0, ov_r 0), (1, ov_i way), (2, ov_i run), (3, ov_i (h246 76 1))]) (st2 := [ov_i ((h246 4 2) + 0), ov_r 4]) (pc2 := 136) b_102_134_2 rfl rfl ?_
              refine ov_putf (x := ((h246 4 2) + 0)) d_102_136 fl_OF_185 (zb_4 I313) (zs_4 I313) rfl nk_0 rfl ?_
              have I316 := up_4_2 (x := ((h246 4 2) + 0)) I313 (by omega) (hw 4 (by decide +kernel))
              refine ov_blk (ls2 := [(0, ov_r 0), (1, ov_i way), (2, ov_i run), (3, ov_i (h246 76 1))]) (st2 := [ov_r 0]) (pc2 := 140) b_102_139_1 rfl rfl ?_
              refine ov_getf (v := ov_r 4) d_102_140 fl_OF_28 (zb_0 I316) (zs_0 I316) (congrArg ov_r (rg_0_2 I316)) ?_
              refine ov_getf (v := ov_i ((h246 4 1) + (v306 + (h246 76 1)))) d_102_143 fl_OF_179 (zb_4 I316) (zs_4 I316) rfl ?_
              exact ov_reti (st := []) d_102_146 rfl ⟨_, rfl, I316, (by show (h246 36 7) = (h 36 7) ∧ (h246 1 1) = (h 1 1) ∧ (h246 90 2) = (h 90 2) ∧ (h246 0 10) = (h 0 10) ∧ (h246 0 11) = (h 0 11) ∧ (h246 0 12) = (h 0 12) ∧ (h246 0 13) = (h 0 13) ∧ (h246 3 1) = (h 3 1) ∧ (h246 36 8) = (h 36 8) ∧ (h246 46 3) = (h 46 3) ∧ (h246 46 4) = (h 46 4) ∧ (h246 49 4) = (h 49 4) ∧ (h246 49 5) = (h 49 5) ∧ (h246 64 0) = (h 64 0) ∧ (h246 76 0) = (h 76 0); omega), ⟨(fun e => absurd e (by omega)), fun _ => (by unfold st_Xgo; exact (Or.inr ⟨(by omega), (by show ((h246 4 1) + (v306 + (h246 76 1))) = ((h246 4 1) + (v306 + (h246 76 1))); rfl), (by rw [← ewt]; omega), (st_K_up (st_K_up (st_K_up xk))), (by show v311 = _; omega), (by show ((h246 4 2) + 0) = _; omega), (by show (h246 4 3) = _; rw [er250]), (by show (h246 4 4) = _; rw [er250]), (by show (h246 4 5) = _; rw [er250])⟩))⟩⟩
            · skip
              refine ov_blk (ls2 := [(0, ov_r 0), (1, ov_i way), (2, ov_i run), (3, ov_i (h246 76 1))]) (st2 := [ov_i 1, ov_i (h246 4 2), ov_r 4]) (pc2 := 131) b_102_130_1 rfl rfl ?_
              refine ov_goto (tgt := 135) d_102_131 (by decide) ?_
              refine ov_blk (ls2 := [(0, ov_r 0), (1, ov_i way), (2, ov_i run), (3, ov_i (h246 76 1))]) (st2 := [ov_i ((h246 4 2) + 1), ov_r 4]) (pc2 := 136) b_102_135_1 rfl rfl ?_
              refine ov_putf (x := ((h246 4 2) + 1)) d_102_136 fl_OF_185 (zb_4 I313) (zs_4 I313) rfl nk_0 rfl ?_
              have I317 := up_4_2 (x := ((h246 4 2) + 1)) I313 (by omega) (hw 4 (by decide +kernel))
              refine ov_blk (ls2 := [(0, ov_r 0), (1, ov_i way), (2, ov_i run), (3, ov_i (h246 76 1))]) (st2 := [ov_r 0]) (pc2 := 140) b_102_139_1 rfl rfl ?_
              refine ov_getf (v := ov_r 4) d_102_140 fl_OF_28 (zb_0 I317) (zs_0 I317) (congrArg ov_r (rg_0_2 I317)) ?_
              refine ov_getf (v := ov_i ((h246 4 1) + (v306 + (h246 76 1)))) d_102_143 fl_OF_179 (zb_4 I317) (zs_4 I317) rfl ?_
              exact ov_reti (st := []) d_102_146 rfl ⟨_, rfl, I317, (by show (h246 36 7) = (h 36 7) ∧ (h246 1 1) = (h 1 1) ∧ (h246 90 2) = (h 90 2) ∧ (h246 0 10) = (h 0 10) ∧ (h246 0 11) = (h 0 11) ∧ (h246 0 12) = (h 0 12) ∧ (h246 0 13) = (h 0 13) ∧ (h246 3 1) = (h 3 1) ∧ (h246 36 8) = (h 36 8) ∧ (h246 46 3) = (h 46 3) ∧ (h246 46 4) = (h 46 4) ∧ (h246 49 4) = (h 49 4) ∧ (h246 49 5) = (h 49 5) ∧ (h246 64 0) = (h 64 0) ∧ (h246 76 0) = (h 76 0); omega), ⟨(fun e => absurd e (by omega)), fun _ => (by unfold st_Xgo; exact (Or.inr ⟨(by omega), (by show ((h246 4 1) + (v306 + (h246 76 1))) = ((h246 4 1) + (v306 + (h246 76 1))); rfl), (by rw [← ewt]; omega), (st_K_up (st_K_up (st_K_up xk))), (by show v311 = _; omega), (by show ((h246 4 2) + 1) = _; omega), (by show (h246 4 3) = _; rw [er250]), (by show (h246 4 4) = _; rw [er250]), (by show (h246 4 5) = _; rw [er250])⟩))⟩⟩
        · skip
          refine ov_blk (ls2 := [(0, ov_r 0), (1, ov_i way), (2, ov_i run)]) (st2 := [ov_i (-1)]) (pc2 := 30) b_102_29_1 rfl rfl ?_
          exact ov_reti (st := []) d_102_30 rfl ⟨_, rfl, I, (by show (h 36 7) = (h 36 7) ∧ (h 1 1) = (h 1 1) ∧ (h 90 2) = (h 90 2) ∧ (h 0 10) = (h 0 10) ∧ (h 0 11) = (h 0 11) ∧ (h 0 12) = (h 0 12) ∧ (h 0 13) = (h 0 13) ∧ (h 3 1) = (h 3 1) ∧ (h 36 8) = (h 36 8) ∧ (h 46 3) = (h 46 3) ∧ (h 46 4) = (h 46 4) ∧ (h 49 4) = (h 49 4) ∧ (h 49 5) = (h 49 5) ∧ (h 64 0) = (h 64 0) ∧ (h 76 0) = (h 76 0); omega), ⟨(fun e => absurd e (by omega)), fun _ => (by unfold st_Xgo; exact (Or.inl ⟨rfl, (by omega), (fun _ _ => rfl)⟩))⟩⟩
abbrev P_OF_stay_0_t (F : ov_H) (z : ov_Z) (h : ov_H) (s : Int) : Option ov_V → ov_Z → ov_H → Prop := fun r0 z' h' => ∃ r : Int, r0 = some (ov_i r) ∧ ov_I F z' h' ∧ ((h' 36 7) = (h 36 7) ∧ (h' 1 1) = (h 1 1) ∧ (h' 90 2) = (h 90 2) ∧ (h' 0 10) = (h 0 10) ∧ (h' 0 11) = (h 0 11) ∧ (h' 0 12) = (h 0 12) ∧ (h' 0 13) = (h 0 13) ∧ (h' 3 1) = (h 3 1) ∧ (h' 36 8) = (h 36 8) ∧ (h' 46 3) = (h 46 3) ∧ (h' 46 4) = (h 46 4) ∧ (h' 49 4) = (h 49 4) ∧ (h' 49 5) = (h 49 5) ∧ (h' 64 0) = (h 64 0) ∧ (h' 76 0) = (h 76 0)) ∧ ((r = -1 ∧ (s < 1 ∨ 1000 < s) ∧ st_Z h h') ∨ (1 ≤ s ∧ s ≤ 1000 ∧ r = h 4 1 + s ∧ st_K h h' ∧ h' 4 1 = r ∧ h' 4 0 = h 4 0 ∧ h' 4 2 = h 4 2 ∧ h' 4 3 = h 4 3 ∧ h' 4 4 = h 4 4 ∧ h' 4 5 = h 4 5))
set_option maxHeartbeats 4000000 in
theorem c_OF_stay_0_t {u : ov_U} {F : ov_H} {z : ov_Z} {h : ov_H} (d : Nat) (hd : 2 ≤ d) (U : ov_cap u) (I : ov_I F z h) (hw : ov_kw 15888 F) (s : Int) (g_s : ov_g s) (p0 : 0 ≤ h 4 1 ∧ h 4 1 ≤ 1000000) (p1 : 0 ≤ h 4 2 ∧ h 4 2 ≤ 9) : ov_T u d ov_m105 [ov_r 0, ov_i s] z h (P_OF_stay_0_t F z h s) := by
  refine ov_en rfl (Nat.le_of_ble_eq_true rfl) ?_
  show ov_R u d ov_m105 0 [(0, ov_r 0), (1, ov_i s)] [] z h (P_OF_stay_0_t F z h s)
  refine ov_blk (ls2 := [(0, ov_r 0), (1, ov_i s)]) (st2 := [ov_i 1, ov_i s]) (pc2 := 2) b_105_0_2 rfl rfl ?_
  refine ov_iclt (tgt := 12) d_105_2 (by decide) (by omega) (by omega) (fun c1 => ?_) (fun c1 => ?_)
  · skip
    refine ov_blk (ls2 := [(0, ov_r 0), (1, ov_i s)]) (st2 := [ov_i (-1)]) (pc2 := 13) b_105_12_1 rfl rfl ?_
    exact ov_reti (st := []) d_105_13 rfl ⟨_, rfl, I, (by show (h 36 7) = (h 36 7) ∧ (h 1 1) = (h 1 1) ∧ (h 90 2) = (h 90 2) ∧ (h 0 10) = (h 0 10) ∧ (h 0 11) = (h 0 11) ∧ (h 0 12) = (h 0 12) ∧ (h 0 13) = (h 0 13) ∧ (h 3 1) = (h 3 1) ∧ (h 36 8) = (h 36 8) ∧ (h 46 3) = (h 46 3) ∧ (h 46 4) = (h 46 4) ∧ (h 49 4) = (h 49 4) ∧ (h 49 5) = (h 49 5) ∧ (h 64 0) = (h 64 0) ∧ (h 76 0) = (h 76 0); omega), (Or.inl ⟨rfl, (by omega), (fun _ _ => rfl)⟩)⟩
  · skip
    refine ov_blk (ls2 := [(0, ov_r 0), (1, ov_i s)]) (st2 := [ov_i 1000, ov_i s]) (pc2 := 9) b_105_5_2 rfl rfl ?_
    refine ov_icle (tgt := 14) d_105_9 (by decide) (by omega) (by omega) (fun c2 => ?_) (fun c2 => ?_)
    · skip
      refine ov_blk (ls2 := [(0, ov_r 0), (1, ov_i s)]) (st2 := [ov_r 0]) (pc2 := 15) b_105_14_1 rfl rfl ?_
      refine ov_getf (v := ov_r 9) d_105_15 fl_OF_35 (zb_0 I) (zs_0 I) (congrArg ov_r (rg_0_3 I)) ?_
      refine ov_blk (ls2 := [(0, ov_r 0), (1, ov_i s)]) (st2 := [ov_r 0, ov_r 9]) (pc2 := 19) b_105_18_1 rfl rfl ?_
      refine ov_getf (v := ov_r 4) d_105_19 fl_OF_28 (zb_0 I) (zs_0 I) (congrArg ov_r (rg_0_2 I)) ?_
      refine ov_cV (as := [ov_r 4]) (st := []) (d2 := d - 1) d_105_22 lk_OF_172 rfl (Nat.le_of_ble_eq_true rfl) (c := 3) (zb_9 I) (zs_9 I) ⟨by decide, rfl⟩ (by omega) (c_History_keep_9_4_t (d - 1) (by omega) U (ov_I_ff (M := 1237940038997149967466873343) I) (ov_kw_ff (ov_kws hw (by decide +kernel)) (by decide +kernel))) ?_
      rintro _ z4 h5 ⟨rfl, I6, f3, xk⟩
      have I6k := I6
      have I6 := ov_I_fr I I6k
      have er7 : h5 0 = h 0 := ov_ff_k I6k (Or.inl (by decide)) (by decide +kernel)
      have ek8 : h5 0 10 = (h 0 10) := congrFun er7 10
      have er9 : h5 4 = h 4 := ov_ff_k I6k (Or.inl (by decide)) (by decide +kernel)
      have ek10 : h5 4 0 = (h 4 0) := congrFun er9 0
      have ek11 : h5 4 1 = (h 4 1) := congrFun er9 1
      have ek12 : h5 4 2 = (h 4 2) := congrFun er9 2
      have ek13 : h5 4 3 = (h 4 3) := congrFun er9 3
      have ek14 : h5 4 4 = (h 4 4) := congrFun er9 4
      have ek15 : h5 4 5 = (h 4 5) := congrFun er9 5
      have er16 : h5 58 = h 58 := ov_ff_k I6k (Or.inr (by decide)) (by decide +kernel)
      have er17 : h5 59 = h 59 := ov_ff_k I6k (Or.inr (by decide)) (by decide +kernel)
      have er18 : h5 60 = h 60 := ov_ff_k I6k (Or.inr (by decide)) (by decide +kernel)
      have er19 : h5 61 = h 61 := ov_ff_k I6k (Or.inr (by decide)) (by decide +kernel)
      have er20 : h5 62 = h 62 := ov_ff_k I6k (Or.inr (by decide)) (by decide +kernel)
      have er21 : h5 63 = h 63 := ov_ff_k I6k (Or.inr (by decide)) (by decide +kernel)
      have er22 : h5 64 = h 64 := ov_ff_k I6k (Or.inr (by decide)) (by decide +kernel)
      have ek23 : h5 64 0 = (h 64 0) := congrFun er22 0
      have ek24 : h5 64 1 = (h 64 1) := congrFun er22 1
      have ek25 : h5 64 2 = (h 64 2) := congrFun er22 2
      have ek26 : h5 64 3 = (h 64 3) := congrFun er22 3
      have er27 : h5 65 = h 65 := ov_ff_k I6k (Or.inr (by decide)) (by decide +kernel)
      have er28 : h5 70 = h 70 := ov_ff_k I6k (Or.inr (by decide)) (by decide +kernel)
      have er29 : h5 71 = h 71 := ov_ff_k I6k (Or.inr (by decide)) (by decide +kernel)
      have er30 : h5 72 = h 72 := ov_ff_k I6k (Or.inr (by decide)) (by decide +kernel)
      have er31 : h5 73 = h 73 := ov_ff_k I6k (Or.inr (by decide)) (by decide +kernel)
      have er32 : h5 74 = h 74 := ov_ff_k I6k (Or.inr (by decide)) (by decide +kernel)
      have er33 : h5 75 = h 75 := ov_ff_k I6k (Or.inr (by decide)) (by decide +kernel)
      have er34 : h5 76 = h 76 := ov_ff_k I6k (Or.inr (by decide)) (by decide +kernel)
      have ek35 : h5 76 0 = (h 76 0) := congrFun er34 0
      have ek36 : h5 76 1 = (h 76 1) := congrFun er34 1
      have ek37 : h5 76 2 = (h 76 2) := congrFun er34 2
      have ek38 : h5 76 3 = (h 76 3) := congrFun er34 3
      have er39 : h5 77 = h 77 := ov_ff_k I6k (Or.inr (by decide)) (by decide +kernel)
      show ov_R u d ov_m105 25 [(0, ov_r 0), (1, ov_i s)] [] z4 h5 (P_OF_stay_0_t F z h s)
      have f40 : (h5 36 7) = (h 36 7) ∧ (h5 1 1) = (h 1 1) ∧ (h5 90 2) = (h 90 2) ∧ (h5 0 10) = (h 0 10) ∧ (h5 0 11) = (h 0 11) ∧ (h5 0 12) = (h 0 12) ∧ (h5 0 13) = (h 0 13) ∧ (h5 3 1) = (h 3 1) ∧ (h5 36 8) = (h 36 8) ∧ (h5 46 3) = (h 46 3) ∧ (h5 46 4) = (h 46 4) ∧ (h5 49 4) = (h 49 4) ∧ (h5 49 5) = (h 49 5) ∧ (h5 64 0) = (h 64 0) ∧ (h5 76 0) = (h 76 0) := f3
      clear f3
      refine ov_blk (ls2 := [(0, ov_r 0), (1, ov_i s)]) (st2 := [ov_r 0]) (pc2 := 26) b_105_25_1 rfl rfl ?_
      refine ov_getf (v := ov_r 4) d_105_26 fl_OF_28 (zb_0 I6) (zs_0 I6) (congrArg ov_r (rg_0_2 I6)) ?_
      refine ov_blk (ls2 := [(0, ov_r 0), (1, ov_i s)]) (st2 := [ov_r 4, ov_r 4]) (pc2 := 30) b_105_29_1 rfl rfl ?_
      refine ov_getf (v := ov_i (h5 4 1)) d_105_30 fl_OF_179 (zb_4 I6) (zs_4 I6) rfl ?_
      have g41 := rg_4_1 I6
      refine ov_blk (ls2 := [(0, ov_r 0), (1, ov_i s)]) (st2 := [ov_i ((h5 4 1) + s), ov_r 4]) (pc2 := 35) b_105_33_2 rfl rfl ?_
      refine ov_putf (x := ((h5 4 1) + s)) d_105_35 fl_OF_179 (zb_4 I6) (zs_4 I6) rfl nk_0 rfl ?_
      have I42 := up_4_1 (x := ((h5 4 1) + s)) I6 (by omega) (hw 4 (by decide +kernel))
      refine ov_blk (ls2 := [(0, ov_r 0), (1, ov_i s)]) (st2 := [ov_r 0]) (pc2 := 39) b_105_38_1 rfl rfl ?_
      refine ov_getf (v := ov_r 4) d_105_39 fl_OF_28 (zb_0 I42) (zs_0 I42) (congrArg ov_r (rg_0_2 I42)) ?_
      refine ov_getf (v := ov_i ((h5 4 1) + s)) d_105_42 fl_OF_179 (zb_4 I42) (zs_4 I42) rfl ?_
      exact ov_reti (st := []) d_105_45 rfl ⟨_, rfl, I42, (by show (h5 36 7) = (h 36 7) ∧ (h5 1 1) = (h 1 1) ∧ (h5 90 2) = (h 90 2) ∧ (h5 0 10) = (h 0 10) ∧ (h5 0 11) = (h 0 11) ∧ (h5 0 12) = (h 0 12) ∧ (h5 0 13) = (h 0 13) ∧ (h5 3 1) = (h 3 1) ∧ (h5 36 8) = (h 36 8) ∧ (h5 46 3) = (h 46 3) ∧ (h5 46 4) = (h 46 4) ∧ (h5 49 4) = (h 49 4) ∧ (h5 49 5) = (h 49 5) ∧ (h5 64 0) = (h 64 0) ∧ (h5 76 0) = (h 76 0); omega), (Or.inr ⟨(by omega), (by omega), (by show ((h5 4 1) + s) = _; omega), st_K_up xk, rfl, (by show (h5 4 0) = _; rw [er9]), (by show (h5 4 2) = _; rw [er9]), (by show (h5 4 3) = _; rw [er9]), (by show (h5 4 4) = _; rw [er9]), (by show (h5 4 5) = _; rw [er9])⟩)⟩
    · skip
      refine ov_blk (ls2 := [(0, ov_r 0), (1, ov_i s)]) (st2 := [ov_i (-1)]) (pc2 := 13) b_105_12_1 rfl rfl ?_
      exact ov_reti (st := []) d_105_13 rfl ⟨_, rfl, I, (by show (h 36 7) = (h 36 7) ∧ (h 1 1) = (h 1 1) ∧ (h 90 2) = (h 90 2) ∧ (h 0 10) = (h 0 10) ∧ (h 0 11) = (h 0 11) ∧ (h 0 12) = (h 0 12) ∧ (h 0 13) = (h 0 13) ∧ (h 3 1) = (h 3 1) ∧ (h 36 8) = (h 36 8) ∧ (h 46 3) = (h 46 3) ∧ (h 46 4) = (h 46 4) ∧ (h 49 4) = (h 49 4) ∧ (h 49 5) = (h 49 5) ∧ (h 64 0) = (h 64 0) ∧ (h 76 0) = (h 76 0); omega), (Or.inl ⟨rfl, (by omega), (fun _ _ => rfl)⟩)⟩
abbrev P_OF_look_0_t (F : ov_H) (z : ov_Z) (h : ov_H)  : Option ov_V → ov_Z → ov_H → Prop := fun r0 z' h' => ∃ r : Int, r0 = some (ov_i r) ∧ ov_I F z' h' ∧ ((r = 0 ∨ r = 1) ∧ (h' 36 7) = (h 36 7) ∧ (h' 1 1) = (h 1 1) ∧ (h' 90 2) = (h 90 2) ∧ (h' 0 10) = (h 0 10) ∧ (h' 0 11) = (h 0 11) ∧ (h' 0 12) = (h 0 12) ∧ (h' 0 13) = (h 0 13) ∧ (h' 3 1) = (h 3 1) ∧ (h' 36 8) = (h 36 8) ∧ (h' 46 3) = (h 46 3) ∧ (h' 46 4) = (h 46 4) ∧ (h' 49 4) = (h 49 4) ∧ (h' 49 5) = (h 49 5) ∧ (h' 64 0) = (h 64 0) ∧ (h' 76 0) = (h 76 0)) ∧ ((h 0 10 = 58 → st_Xlk (h 59) h h' r) ∧ (h 0 10 = 70 → st_Xlk (h 71) h h' r))
set_option maxHeartbeats 4000000 in
theorem c_OF_look_0_t {u : ov_U} {F : ov_H} {z : ov_Z} {h : ov_H} (d : Nat) (hd : 2 ≤ d) (U : ov_cap u) (I : ov_I F z h) (hw : ov_kw 15888 F) : ov_T u d ov_m106 [ov_r 0] z h (P_OF_look_0_t F z h) := by
  refine ov_en rfl (Nat.le_of_ble_eq_true rfl) ?_
  show ov_R u d ov_m106 0 [(0, ov_r 0)] [] z h (P_OF_look_0_t F z h)
  refine ov_blk (ls2 := [(0, ov_r 0)]) (st2 := [ov_r 0]) (pc2 := 1) b_106_0_1 rfl rfl ?_
  rcases rg_0_10 I with e1 | e1
  · skip
    refine ov_getf (v := ov_r 58) d_106_1 fl_OF_78 (zb_0 I) (zs_0 I) (congrArg ov_r e1) ?_
    refine ov_getf (v := ov_r 59) d_106_4 fl_OF_139 (zb_58 I) (zs_58 I) (congrArg ov_r (rg_58_2 I)) ?_
    refine ov_blk (ls2 := [(0, ov_r 0)]) (st2 := [ov_r 0, ov_r 59]) (pc2 := 8) b_106_7_1 rfl rfl ?_
    refine ov_getf (v := ov_r 4) d_106_8 fl_OF_28 (zb_0 I) (zs_0 I) (congrArg ov_r (rg_0_2 I)) ?_
    refine ov_getf (v := ov_i (h 4 0)) d_106_11 fl_OF_166 (zb_4 I) (zs_4 I) rfl ?_
    have g2 := rg_4_0 I
    refine ov_iald d_106_14 (zb_59 I) (zs_59 I) (by omega) ?_
    have g3 := ra_59 I (h 4 0)
    refine ov_blk (ls2 := [(0, ov_r 0)]) (st2 := [ov_i 1, ov_i (h 59 (h 4 0))]) (pc2 := 16) b_106_15_1 rfl rfl ?_
    refine ov_icne (tgt := 36) d_106_16 (by decide) (by omega) (by omega) (fun c4 => ?_) (fun c4 => ?_)
    · skip
      refine ov_blk (ls2 := [(0, ov_r 0)]) (st2 := [ov_i 0]) (pc2 := 37) b_106_36_1 rfl rfl ?_
      exact ov_retz (st := []) d_106_37 rfl (by omega) ⟨_, rfl, I, (by show (0 = 0 ∨ 0 = 1) ∧ (h 36 7) = (h 36 7) ∧ (h 1 1) = (h 1 1) ∧ (h 90 2) = (h 90 2) ∧ (h 0 10) = (h 0 10) ∧ (h 0 11) = (h 0 11) ∧ (h 0 12) = (h 0 12) ∧ (h 0 13) = (h 0 13) ∧ (h 3 1) = (h 3 1) ∧ (h 36 8) = (h 36 8) ∧ (h 46 3) = (h 46 3) ∧ (h 46 4) = (h 46 4) ∧ (h 49 4) = (h 49 4) ∧ (h 49 5) = (h 49 5) ∧ (h 64 0) = (h 64 0) ∧ (h 76 0) = (h 76 0); omega), ⟨fun _ => (by unfold st_Xlk; exact (Or.inl ⟨rfl, (by unfold ov_kb; omega), (fun _ _ => rfl)⟩)), (fun e => absurd e (by omega))⟩⟩
    · skip
      refine ov_blk (ls2 := [(0, ov_r 0)]) (st2 := [ov_r 0]) (pc2 := 20) b_106_19_1 rfl rfl ?_
      refine ov_getf (v := ov_r 4) d_106_20 fl_OF_28 (zb_0 I) (zs_0 I) (congrArg ov_r (rg_0_2 I)) ?_
      refine ov_blk (ls2 := [(0, ov_r 0)]) (st2 := [ov_r 0, ov_r 4]) (pc2 := 24) b_106_23_1 rfl rfl ?_
      refine ov_getf (v := ov_r 4) d_106_24 fl_OF_28 (zb_0 I) (zs_0 I) (congrArg ov_r (rg_0_2 I)) ?_
      refine ov_getf (v := ov_i (h 4 0)) d_106_27 fl_OF_166 (zb_4 I) (zs_4 I) rfl ?_
      refine ov_cV (as := [ov_i (h 4 0)]) (st := []) (d2 := d - 1) d_106_30 lk_OF_151 rfl (Nat.le_of_ble_eq_true rfl) (c := 7) (zb_4 I) (zs_4 I) ⟨by decide, rfl⟩ (by omega) (c_State_knows_4_t (d - 1) (by omega) U I (h 4 0) (by omega) (by omega)) ?_
      rintro _ _ _ ⟨v7, rfl, rfl, rfl, f6⟩
      show ov_R u d ov_m106 33 [(0, ov_r 0)] [ov_i v7] z h (P_OF_look_0_t F z h)
      have f8 : (v7 = 0 ∨ v7 = 1) ∧ (v7 = 1 → ¬ ov_land (ov_lshr (h 4 3) (h 4 0)) 1 = 0) ∧ (v7 = 0 → ov_land (ov_lshr (h 4 3) (h 4 0)) 1 = 0) := f6
      clear f6
      refine ov_ifeq (tgt := 38) d_106_33 (by decide) (by omega) (fun c9 => ?_) (fun c9 => ?_)
      · skip
        refine ov_blk (ls2 := [(0, ov_r 0)]) (st2 := [ov_r 0]) (pc2 := 39) b_106_38_1 rfl rfl ?_
        refine ov_getf (v := ov_r 9) d_106_39 fl_OF_35 (zb_0 I) (zs_0 I) (congrArg ov_r (rg_0_3 I)) ?_
        refine ov_blk (ls2 := [(0, ov_r 0)]) (st2 := [ov_r 0, ov_r 9]) (pc2 := 43) b_106_42_1 rfl rfl ?_
        refine ov_getf (v := ov_r 4) d_106_43 fl_OF_28 (zb_0 I) (zs_0 I) (congrArg ov_r (rg_0_2 I)) ?_
        refine ov_cV (as := [ov_r 4]) (st := []) (d2 := d - 1) d_106_46 lk_OF_172 rfl (Nat.le_of_ble_eq_true rfl) (c := 3) (zb_9 I) (zs_9 I) ⟨by decide, rfl⟩ (by omega) (c_History_keep_9_4_t (d - 1) (by omega) U (ov_I_ff (M := 1237940038997149967466873343) I) (ov_kw_ff (ov_kws hw (by decide +kernel)) (by decide +kernel))) ?_
        rintro _ z11 h12 ⟨rfl, I13, f10, xk⟩
        have I13k := I13
        have I13 := ov_I_fr I I13k
        have er14 : h12 0 = h 0 := ov_ff_k I13k (Or.inl (by decide)) (by decide +kernel)
        have ek15 : h12 0 10 = (h 0 10) := congrFun er14 10
        have er16 : h12 4 = h 4 := ov_ff_k I13k (Or.inl (by decide)) (by decide +kernel)
        have ek17 : h12 4 0 = (h 4 0) := congrFun er16 0
        have ek18 : h12 4 1 = (h 4 1) := congrFun er16 1
        have ek19 : h12 4 2 = (h 4 2) := congrFun er16 2
        have ek20 : h12 4 3 = (h 4 3) := congrFun er16 3
        have ek21 : h12 4 4 = (h 4 4) := congrFun er16 4
        have ek22 : h12 4 5 = (h 4 5) := congrFun er16 5
        have er23 : h12 58 = h 58 := ov_ff_k I13k (Or.inr (by decide)) (by decide +kernel)
        have er24 : h12 59 = h 59 := ov_ff_k I13k (Or.inr (by decide)) (by decide +kernel)
        have er25 : h12 60 = h 60 := ov_ff_k I13k (Or.inr (by decide)) (by decide +kernel)
        have er26 : h12 61 = h 61 := ov_ff_k I13k (Or.inr (by decide)) (by decide +kernel)
        have er27 : h12 62 = h 62 := ov_ff_k I13k (Or.inr (by decide)) (by decide +kernel)
        have er28 : h12 63 = h 63 := ov_ff_k I13k (Or.inr (by decide)) (by decide +kernel)
        have er29 : h12 64 = h 64 := ov_ff_k I13k (Or.inr (by decide)) (by decide +kernel)
        have ek30 : h12 64 0 = (h 64 0) := congrFun er29 0
        have ek31 : h12 64 1 = (h 64 1) := congrFun er29 1
        have ek32 : h12 64 2 = (h 64 2) := congrFun er29 2
        have ek33 : h12 64 3 = (h 64 3) := congrFun er29 3
        have er34 : h12 65 = h 65 := ov_ff_k I13k (Or.inr (by decide)) (by decide +kernel)
        have er35 : h12 70 = h 70 := ov_ff_k I13k (Or.inr (by decide)) (by decide +kernel)
        have er36 : h12 71 = h 71 := ov_ff_k I13k (Or.inr (by decide)) (by decide +kernel)
        have er37 : h12 72 = h 72 := ov_ff_k I13k (Or.inr (by decide)) (by decide +kernel)
        have er38 : h12 73 = h 73 := ov_ff_k I13k (Or.inr (by decide)) (by decide +kernel)
        have er39 : h12 74 = h 74 := ov_ff_k I13k (Or.inr (by decide)) (by decide +kernel)
        have er40 : h12 75 = h 75 := ov_ff_k I13k (Or.inr (by decide)) (by decide +kernel)
        have er41 : h12 76 = h 76 := ov_ff_k I13k (Or.inr (by decide)) (by decide +kernel)
        have ek42 : h12 76 0 = (h 76 0) := congrFun er41 0
        have ek43 : h12 76 1 = (h 76 1) := congrFun er41 1
        have ek44 : h12 76 2 = (h 76 2) := congrFun er41 2
        have ek45 : h12 76 3 = (h 76 3) := congrFun er41 3
        have er46 : h12 77 = h 77 := ov_ff_k I13k (Or.inr (by decide)) (by decide +kernel)
        show ov_R u d ov_m106 49 [(0, ov_r 0)] [] z11 h12 (P_OF_look_0_t F z h)
        have f47 : (h12 36 7) = (h 36 7) ∧ (h12 1 1) = (h 1 1) ∧ (h12 90 2) = (h 90 2) ∧ (h12 0 10) = (h 0 10) ∧ (h12 0 11) = (h 0 11) ∧ (h12 0 12) = (h 0 12) ∧ (h12 0 13) = (h 0 13) ∧ (h12 3 1) = (h 3 1) ∧ (h12 36 8) = (h 36 8) ∧ (h12 46 3) = (h 46 3) ∧ (h12 46 4) = (h 46 4) ∧ (h12 49 4) = (h 49 4) ∧ (h12 49 5) = (h 49 5) ∧ (h12 64 0) = (h 64 0) ∧ (h12 76 0) = (h 76 0) := f10
        clear f10
        have e48 : h12 0 10 = 58 := by omega
        refine ov_blk (ls2 := [(0, ov_r 0)]) (st2 := [ov_r 0]) (pc2 := 50) b_106_49_1 rfl rfl ?_
        refine ov_getf (v := ov_r 4) d_106_50 fl_OF_28 (zb_0 I13) (zs_0 I13) (congrArg ov_r (rg_0_2 I13)) ?_
        refine ov_blk (ls2 := [(0, ov_r 0)]) (st2 := [ov_r 4, ov_r 4]) (pc2 := 54) b_106_53_1 rfl rfl ?_
        refine ov_getf (v := ov_l (h12 4 3)) d_106_54 fl_OF_192 (zb_4 I13) (zs_4 I13) rfl ?_
        refine ov_blk (ls2 := [(0, ov_r 0)]) (st2 := [ov_r 0, ov_l 1, ov_l (h12 4 3), ov_r 4]) (pc2 := 59) b_106_57_2 rfl rfl ?_
        refine ov_getf (v := ov_r 4) d_106_59 fl_OF_28 (zb_0 I13) (zs_0 I13) (congrArg ov_r (rg_0_2 I13)) ?_
        refine ov_getf (v := ov_i (h12 4 0)) d_106_62 fl_OF_166 (zb_4 I13) (zs_4 I13) rfl ?_
        have g49 := rg_4_0 I13
        refine ov_blk (ls2 := [(0, ov_r 0)]) (st2 := [ov_l (ov_lor (h12 4 3) (ov_lshl 1 (h12 4 0))), ov_r 4]) (pc2 := 67) b_106_65_2 rfl rfl ?_
        refine ov_putf (x := (ov_lor (h12 4 3) (ov_lshl 1 (h12 4 0)))) d_106_67 fl_OF_192 (zb_4 I13) (zs_4 I13) rfl nk_1 rfl ?_
        have I50 := up_4_3 (x := (ov_lor (h12 4 3) (ov_lshl 1 (h12 4 0)))) I13 (hw 4 (by decide +kernel))
        refine ov_blk (ls2 := [(0, ov_r 0)]) (st2 := [ov_i 1]) (pc2 := 71) b_106_70_1 rfl rfl ?_
        exact ov_retz (st := []) d_106_71 rfl (by omega) ⟨_, rfl, I50, (by show (1 = 0 ∨ 1 = 1) ∧ (h12 36 7) = (h 36 7) ∧ (h12 1 1) = (h 1 1) ∧ (h12 90 2) = (h 90 2) ∧ (h12 0 10) = (h 0 10) ∧ (h12 0 11) = (h 0 11) ∧ (h12 0 12) = (h 0 12) ∧ (h12 0 13) = (h 0 13) ∧ (h12 3 1) = (h 3 1) ∧ (h12 36 8) = (h 36 8) ∧ (h12 46 3) = (h 46 3) ∧ (h12 46 4) = (h 46 4) ∧ (h12 49 4) = (h 49 4) ∧ (h12 49 5) = (h 49 5) ∧ (h12 64 0) = (h 64 0) ∧ (h12 76 0) = (h 76 0); omega), ⟨fun _ => (by unfold st_Xlk; exact (Or.inr ⟨rfl, (by unfold ov_kb; omega), st_K_up xk, (by show (ov_lor (h12 4 3) (ov_lshl 1 (h12 4 0))) = _; rw [er16]), (by show (h12 4 0) = _; rw [er16]), (by show (h12 4 1) = _; rw [er16]), (by show (h12 4 2) = _; rw [er16]), (by show (h12 4 4) = _; rw [er16]), (by show (h12 4 5) = _; rw [er16])⟩)), (fun e => absurd e (by omega))⟩⟩
      · skip
        refine ov_blk (ls2 := [(0, ov_r 0)]) (st2 := [ov_i 0]) (pc2 := 37) b_106_36_1 rfl rfl ?_
        exact ov_retz (st := []) d_106_37 rfl (by omega) ⟨_, rfl, I, (by show (0 = 0 ∨ 0 = 1) ∧ (h 36 7) = (h 36 7) ∧ (h 1 1) = (h 1 1) ∧ (h 90 2) = (h 90 2) ∧ (h 0 10) = (h 0 10) ∧ (h 0 11) = (h 0 11) ∧ (h 0 12) = (h 0 12) ∧ (h 0 13) = (h 0 13) ∧ (h 3 1) = (h 3 1) ∧ (h 36 8) = (h 36 8) ∧ (h 46 3) = (h 46 3) ∧ (h 46 4) = (h 46 4) ∧ (h 49 4) = (h 49 4) ∧ (h 49 5) = (h 49 5) ∧ (h 64 0) = (h 64 0) ∧ (h 76 0) = (h 76 0); omega), ⟨fun _ => (by unfold st_Xlk; exact (Or.inl ⟨rfl, (by unfold ov_kb; omega), (fun _ _ => rfl)⟩)), (fun e => absurd e (by omega))⟩⟩
  · skip
    refine ov_getf (v := ov_r 70) d_106_1 fl_OF_78 (zb_0 I) (zs_0 I) (congrArg ov_r e1) ?_
    refine ov_getf (v := ov_r 71) d_106_4 fl_OF_139 (zb_70 I) (zs_70 I) (congrArg ov_r (rg_70_2 I)) ?_
    refine ov_blk (ls2 := [(0, ov_r 0)]) (st2 := [ov_r 0, ov_r 71]) (pc2 := 8) b_106_7_1 rfl rfl ?_
    refine ov_getf (v := ov_r 4) d_106_8 fl_OF_28 (zb_0 I) (zs_0 I) (congrArg ov_r (rg_0_2 I)) ?_
    refine ov_getf (v := ov_i (h 4 0)) d_106_11 fl_OF_166 (zb_4 I) (zs_4 I) rfl ?_
    have g51 := rg_4_0 I
    refine ov_iald d_106_14 (zb_71 I) (zs_71 I) (by omega) ?_
    have g52 := ra_71 I (h 4 0)
    refine ov_blk (ls2 := [(0, ov_r 0)]) (st2 := [ov_i 1, ov_i (h 71 (h 4 0))]) (pc2 := 16) b_106_15_1 rfl rfl ?_
    refine ov_icne (tgt := 36) d_106_16 (by decide) (by omega) (by omega) (fun c53 => ?_) (fun c53 => ?_)
    · skip
      refine ov_blk (ls2 := [(0, ov_r 0)]) (st2 := [ov_i 0]) (pc2 := 37) b_106_36_1 rfl rfl ?_
      exact ov_retz (st := []) d_106_37 rfl (by omega) ⟨_, rfl, I, (by show (0 = 0 ∨ 0 = 1) ∧ (h 36 7) = (h 36 7) ∧ (h 1 1) = (h 1 1) ∧ (h 90 2) = (h 90 2) ∧ (h 0 10) = (h 0 10) ∧ (h 0 11) = (h 0 11) ∧ (h 0 12) = (h 0 12) ∧ (h 0 13) = (h 0 13) ∧ (h 3 1) = (h 3 1) ∧ (h 36 8) = (h 36 8) ∧ (h 46 3) = (h 46 3) ∧ (h 46 4) = (h 46 4) ∧ (h 49 4) = (h 49 4) ∧ (h 49 5) = (h 49 5) ∧ (h 64 0) = (h 64 0) ∧ (h 76 0) = (h 76 0); omega), ⟨(fun e => absurd e (by omega)), fun _ => (by unfold st_Xlk; exact (Or.inl ⟨rfl, (by unfold ov_kb; omega), (fun _ _ => rfl)⟩))⟩⟩
    · skip
      refine ov_blk (ls2 := [(0, ov_r 0)]) (st2 := [ov_r 0]) (pc2 := 20) b_106_19_1 rfl rfl ?_
      refine ov_getf (v := ov_r 4) d_106_20 fl_OF_28 (zb_0 I) (zs_0 I) (congrArg ov_r (rg_0_2 I)) ?_
      refine ov_blk (ls2 := [(0, ov_r 0)]) (st2 := [ov_r 0, ov_r 4]) (pc2 := 24) b_106_23_1 rfl rfl ?_
      refine ov_getf (v := ov_r 4) d_106_24 fl_OF_28 (zb_0 I) (zs_0 I) (congrArg ov_r (rg_0_2 I)) ?_
      refine ov_getf (v := ov_i (h 4 0)) d_106_27 fl_OF_166 (zb_4 I) (zs_4 I) rfl ?_
      refine ov_cV (as := [ov_i (h 4 0)]) (st := []) (d2 := d - 1) d_106_30 lk_OF_151 rfl (Nat.le_of_ble_eq_true rfl) (c := 7) (zb_4 I) (zs_4 I) ⟨by decide, rfl⟩ (by omega) (c_State_knows_4_t (d - 1) (by omega) U I (h 4 0) (by omega) (by omega)) ?_
      rintro _ _ _ ⟨v56, rfl, rfl, rfl, f55⟩
      show ov_R u d ov_m106 33 [(0, ov_r 0)] [ov_i v56] z h (P_OF_look_0_t F z h)
      have f57 : (v56 = 0 ∨ v56 = 1) ∧ (v56 = 1 → ¬ ov_land (ov_lshr (h 4 3) (h 4 0)) 1 = 0) ∧ (v56 = 0 → ov_land (ov_lshr (h 4 3) (h 4 0)) 1 = 0) := f55
      clear f55
      refine ov_ifeq (tgt := 38) d_106_33 (by decide) (by omega) (fun c58 => ?_) (fun c58 => ?_)
      · skip
        refine ov_blk (ls2 := [(0, ov_r 0)]) (st2 := [ov_r 0]) (pc2 := 39) b_106_38_1 rfl rfl ?_
        refine ov_getf (v := ov_r 9) d_106_39 fl_OF_35 (zb_0 I) (zs_0 I) (congrArg ov_r (rg_0_3 I)) ?_
        refine ov_blk (ls2 := [(0, ov_r 0)]) (st2 := [ov_r 0, ov_r 9]) (pc2 := 43) b_106_42_1 rfl rfl ?_
        refine ov_getf (v := ov_r 4) d_106_43 fl_OF_28 (zb_0 I) (zs_0 I) (congrArg ov_r (rg_0_2 I)) ?_
        refine ov_cV (as := [ov_r 4]) (st := []) (d2 := d - 1) d_106_46 lk_OF_172 rfl (Nat.le_of_ble_eq_true rfl) (c := 3) (zb_9 I) (zs_9 I) ⟨by decide, rfl⟩ (by omega) (c_History_keep_9_4_t (d - 1) (by omega) U (ov_I_ff (M := 1237940038997149967466873343) I) (ov_kw_ff (ov_kws hw (by decide +kernel)) (by decide +kernel))) ?_
        rintro _ z60 h61 ⟨rfl, I62, f59, xk⟩
        have I62k := I62
        have I62 := ov_I_fr I I62k
        have er63 : h61 0 = h 0 := ov_ff_k I62k (Or.inl (by decide)) (by decide +kernel)
        have ek64 : h61 0 10 = (h 0 10) := congrFun er63 10
        have er65 : h61 4 = h 4 := ov_ff_k I62k (Or.inl (by decide)) (by decide +kernel)
        have ek66 : h61 4 0 = (h 4 0) := congrFun er65 0
        have ek67 : h61 4 1 = (h 4 1) := congrFun er65 1
        have ek68 : h61 4 2 = (h 4 2) := congrFun er65 2
        have ek69 : h61 4 3 = (h 4 3) := congrFun er65 3
        have ek70 : h61 4 4 = (h 4 4) := congrFun er65 4
        have ek71 : h61 4 5 = (h 4 5) := congrFun er65 5
        have er72 : h61 58 = h 58 := ov_ff_k I62k (Or.inr (by decide)) (by decide +kernel)
        have er73 : h61 59 = h 59 := ov_ff_k I62k (Or.inr (by decide)) (by decide +kernel)
        have er74 : h61 60 = h 60 := ov_ff_k I62k (Or.inr (by decide)) (by decide +kernel)
        have er75 : h61 61 = h 61 := ov_ff_k I62k (Or.inr (by decide)) (by decide +kernel)
        have er76 : h61 62 = h 62 := ov_ff_k I62k (Or.inr (by decide)) (by decide +kernel)
        have er77 : h61 63 = h 63 := ov_ff_k I62k (Or.inr (by decide)) (by decide +kernel)
        have er78 : h61 64 = h 64 := ov_ff_k I62k (Or.inr (by decide)) (by decide +kernel)
        have ek79 : h61 64 0 = (h 64 0) := congrFun er78 0
        have ek80 : h61 64 1 = (h 64 1) := congrFun er78 1
        have ek81 : h61 64 2 = (h 64 2) := congrFun er78 2
        have ek82 : h61 64 3 = (h 64 3) := congrFun er78 3
        have er83 : h61 65 = h 65 := ov_ff_k I62k (Or.inr (by decide)) (by decide +kernel)
        have er84 : h61 70 = h 70 := ov_ff_k I62k (Or.inr (by decide)) (by decide +kernel)
        have er85 : h61 71 = h 71 := ov_ff_k I62k (Or.inr (by decide)) (by decide +kernel)
        have er86 : h61 72 = h 72 := ov_ff_k I62k (Or.inr (by decide)) (by decide +kernel)
        have er87 : h61 73 = h 73 := ov_ff_k I62k (Or.inr (by decide)) (by decide +kernel)
        have er88 : h61 74 = h 74 := ov_ff_k I62k (Or.inr (by decide)) (by decide +kernel)
        have er89 : h61 75 = h 75 := ov_ff_k I62k (Or.inr (by decide)) (by decide +kernel)
        have er90 : h61 76 = h 76 := ov_ff_k I62k (Or.inr (by decide)) (by decide +kernel)
        have ek91 : h61 76 0 = (h 76 0) := congrFun er90 0
        have ek92 : h61 76 1 = (h 76 1) := congrFun er90 1
        have ek93 : h61 76 2 = (h 76 2) := congrFun er90 2
        have ek94 : h61 76 3 = (h 76 3) := congrFun er90 3
        have er95 : h61 77 = h 77 := ov_ff_k I62k (Or.inr (by decide)) (by decide +kernel)
        show ov_R u d ov_m106 49 [(0, ov_r 0)] [] z60 h61 (P_OF_look_0_t F z h)
        have f96 : (h61 36 7) = (h 36 7) ∧ (h61 1 1) = (h 1 1) ∧ (h61 90 2) = (h 90 2) ∧ (h61 0 10) = (h 0 10) ∧ (h61 0 11) = (h 0 11) ∧ (h61 0 12) = (h 0 12) ∧ (h61 0 13) = (h 0 13) ∧ (h61 3 1) = (h 3 1) ∧ (h61 36 8) = (h 36 8) ∧ (h61 46 3) = (h 46 3) ∧ (h61 46 4) = (h 46 4) ∧ (h61 49 4) = (h 49 4) ∧ (h61 49 5) = (h 49 5) ∧ (h61 64 0) = (h 64 0) ∧ (h61 76 0) = (h 76 0) := f59
        clear f59
        have e97 : h61 0 10 = 70 := by omega
        refine ov_blk (ls2 := [(0, ov_r 0)]) (st2 := [ov_r 0]) (pc2 := 50) b_106_49_1 rfl rfl ?_
        refine ov_getf (v := ov_r 4) d_106_50 fl_OF_28 (zb_0 I62) (zs_0 I62) (congrArg ov_r (rg_0_2 I62)) ?_
        refine ov_blk (ls2 := [(0, ov_r 0)]) (st2 := [ov_r 4, ov_r 4]) (pc2 := 54) b_106_53_1 rfl rfl ?_
        refine ov_getf (v := ov_l (h61 4 3)) d_106_54 fl_OF_192 (zb_4 I62) (zs_4 I62) rfl ?_
        refine ov_blk (ls2 := [(0, ov_r 0)]) (st2 := [ov_r 0, ov_l 1, ov_l (h61 4 3), ov_r 4]) (pc2 := 59) b_106_57_2 rfl rfl ?_
        refine ov_getf (v := ov_r 4) d_106_59 fl_OF_28 (zb_0 I62) (zs_0 I62) (congrArg ov_r (rg_0_2 I62)) ?_
        refine ov_getf (v := ov_i (h61 4 0)) d_106_62 fl_OF_166 (zb_4 I62) (zs_4 I62) rfl ?_
        have g98 := rg_4_0 I62
        refine ov_blk (ls2 := [(0, ov_r 0)]) (st2 := [ov_l (ov_lor (h61 4 3) (ov_lshl 1 (h61 4 0))), ov_r 4]) (pc2 := 67) b_106_65_2 rfl rfl ?_
        refine ov_putf (x := (ov_lor (h61 4 3) (ov_lshl 1 (h61 4 0)))) d_106_67 fl_OF_192 (zb_4 I62) (zs_4 I62) rfl nk_1 rfl ?_
        have I99 := up_4_3 (x := (ov_lor (h61 4 3) (ov_lshl 1 (h61 4 0)))) I62 (hw 4 (by decide +kernel))
        refine ov_blk (ls2 := [(0, ov_r 0)]) (st2 := [ov_i 1]) (pc2 := 71) b_106_70_1 rfl rfl ?_
        exact ov_retz (st := []) d_106_71 rfl (by omega) ⟨_, rfl, I99, (by show (1 = 0 ∨ 1 = 1) ∧ (h61 36 7) = (h 36 7) ∧ (h61 1 1) = (h 1 1) ∧ (h61 90 2) = (h 90 2) ∧ (h61 0 10) = (h 0 10) ∧ (h61 0 11) = (h 0 11) ∧ (h61 0 12) = (h 0 12) ∧ (h61 0 13) = (h 0 13) ∧ (h61 3 1) = (h 3 1) ∧ (h61 36 8) = (h 36 8) ∧ (h61 46 3) = (h 46 3) ∧ (h61 46 4) = (h 46 4) ∧ (h61 49 4) = (h 49 4) ∧ (h61 49 5) = (h 49 5) ∧ (h61 64 0) = (h 64 0) ∧ (h61 76 0) = (h 76 0); omega), ⟨(fun e => absurd e (by omega)), fun _ => (by unfold st_Xlk; exact (Or.inr ⟨rfl, (by unfold ov_kb; omega), st_K_up xk, (by show (ov_lor (h61 4 3) (ov_lshl 1 (h61 4 0))) = _; rw [er65]), (by show (h61 4 0) = _; rw [er65]), (by show (h61 4 1) = _; rw [er65]), (by show (h61 4 2) = _; rw [er65]), (by show (h61 4 4) = _; rw [er65]), (by show (h61 4 5) = _; rw [er65])⟩))⟩⟩
      · skip
        refine ov_blk (ls2 := [(0, ov_r 0)]) (st2 := [ov_i 0]) (pc2 := 37) b_106_36_1 rfl rfl ?_
        exact ov_retz (st := []) d_106_37 rfl (by omega) ⟨_, rfl, I, (by show (0 = 0 ∨ 0 = 1) ∧ (h 36 7) = (h 36 7) ∧ (h 1 1) = (h 1 1) ∧ (h 90 2) = (h 90 2) ∧ (h 0 10) = (h 0 10) ∧ (h 0 11) = (h 0 11) ∧ (h 0 12) = (h 0 12) ∧ (h 0 13) = (h 0 13) ∧ (h 3 1) = (h 3 1) ∧ (h 36 8) = (h 36 8) ∧ (h 46 3) = (h 46 3) ∧ (h 46 4) = (h 46 4) ∧ (h 49 4) = (h 49 4) ∧ (h 49 5) = (h 49 5) ∧ (h 64 0) = (h 64 0) ∧ (h 76 0) = (h 76 0); omega), ⟨(fun e => absurd e (by omega)), fun _ => (by unfold st_Xlk; exact (Or.inl ⟨rfl, (by unfold ov_kb; omega), (fun _ _ => rfl)⟩))⟩⟩
abbrev P_OF_undo_0_t (F : ov_H) (z : ov_Z) (h : ov_H)  : Option ov_V → ov_Z → ov_H → Prop := fun r0 z' h' => ∃ r : Int, r0 = some (ov_i r) ∧ ov_I F z' h' ∧ ((r = 0 ∨ r = 1) ∧ (h' 36 7) = (h 36 7) ∧ (h' 1 1) = (h 1 1) ∧ (h' 90 2) = (h 90 2) ∧ (h' 0 10) = (h 0 10) ∧ (h' 0 11) = (h 0 11) ∧ (h' 0 12) = (h 0 12) ∧ (h' 0 13) = (h 0 13) ∧ (h' 3 1) = (h 3 1) ∧ (h' 36 8) = (h 36 8) ∧ (h' 46 3) = (h 46 3) ∧ (h' 46 4) = (h 46 4) ∧ (h' 49 4) = (h 49 4) ∧ (h' 49 5) = (h 49 5) ∧ (h' 64 0) = (h 64 0) ∧ (h' 76 0) = (h 76 0)) ∧ ((r = 0 ∧ h 9 0 = 0 ∧ st_Z h h') ∨ (r = 1 ∧ ¬ h 9 0 = 0 ∧ st_B h h'))
set_option maxHeartbeats 4000000 in
theorem c_OF_undo_0_t {u : ov_U} {F : ov_H} {z : ov_Z} {h : ov_H} (d : Nat) (hd : 1 ≤ d) (U : ov_cap u) (I : ov_I F z h) (hw : ov_kw 528 F) : ov_T u d ov_m107 [ov_r 0] z h (P_OF_undo_0_t F z h) := by
  refine ov_en rfl (Nat.le_of_ble_eq_true rfl) ?_
  show ov_R u d ov_m107 0 [(0, ov_r 0)] [] z h (P_OF_undo_0_t F z h)
  refine ov_blk (ls2 := [(0, ov_r 0)]) (st2 := [ov_r 0]) (pc2 := 1) b_107_0_1 rfl rfl ?_
  refine ov_getf (v := ov_r 9) d_107_1 fl_OF_35 (zb_0 I) (zs_0 I) (congrArg ov_r (rg_0_3 I)) ?_
  refine ov_blk (ls2 := [(0, ov_r 0)]) (st2 := [ov_r 0, ov_r 9]) (pc2 := 5) b_107_4_1 rfl rfl ?_
  refine ov_getf (v := ov_r 4) d_107_5 fl_OF_28 (zb_0 I) (zs_0 I) (congrArg ov_r (rg_0_2 I)) ?_
  refine ov_cV (as := [ov_r 4]) (st := []) (d2 := d - 1) d_107_8 lk_OF_196 rfl (Nat.le_of_ble_eq_true rfl) (c := 3) (zb_9 I) (zs_9 I) ⟨by decide, rfl⟩ (by omega) (c_History_giveBack_9_4_t (d - 1) (by omega) U I (ov_kws hw (by decide +kernel))) ?_
  rintro _ z3 h4 ⟨v2, rfl, I5, f1, xk⟩
  show ov_R u d ov_m107 11 [(0, ov_r 0)] [ov_i v2] z3 h4 (P_OF_undo_0_t F z h)
  have f6 : (v2 = 0 ∨ v2 = 1) ∧ (h4 36 7) = (h 36 7) ∧ (h4 1 1) = (h 1 1) ∧ (h4 90 2) = (h 90 2) ∧ (h4 0 10) = (h 0 10) ∧ (h4 0 11) = (h 0 11) ∧ (h4 0 12) = (h 0 12) ∧ (h4 0 13) = (h 0 13) ∧ (h4 3 1) = (h 3 1) ∧ (h4 36 8) = (h 36 8) ∧ (h4 46 3) = (h 46 3) ∧ (h4 46 4) = (h 46 4) ∧ (h4 49 4) = (h 49 4) ∧ (h4 49 5) = (h 49 5) ∧ (h4 64 0) = (h 64 0) ∧ (h4 76 0) = (h 76 0) := f1
  clear f1
  exact ov_retz (st := []) d_107_11 rfl (by omega) ⟨_, rfl, I5, (by show (v2 = 0 ∨ v2 = 1) ∧ (h4 36 7) = (h 36 7) ∧ (h4 1 1) = (h 1 1) ∧ (h4 90 2) = (h 90 2) ∧ (h4 0 10) = (h 0 10) ∧ (h4 0 11) = (h 0 11) ∧ (h4 0 12) = (h 0 12) ∧ (h4 0 13) = (h 0 13) ∧ (h4 3 1) = (h 3 1) ∧ (h4 36 8) = (h 36 8) ∧ (h4 46 3) = (h 46 3) ∧ (h4 46 4) = (h 46 4) ∧ (h4 49 4) = (h 49 4) ∧ (h4 49 5) = (h 49 5) ∧ (h4 64 0) = (h 64 0) ∧ (h4 76 0) = (h 76 0); omega), (xk.elim (fun q => Or.inl ⟨by have q1 := q.1; omega, q.2.1, q.2.2⟩) (fun q => Or.inr ⟨by have q1 := q.1; omega, q.2.1, q.2.2⟩))⟩
abbrev P_OF_tried_0_t (F : ov_H) (z : ov_Z) (h : ov_H) (x : Int) (y : Int) (p : Int) (w : Int) : Option ov_V → ov_Z → ov_H → Prop := fun r0 z' h' => ∃ r : Int, r0 = some (ov_i r) ∧ ov_I F z' h' ∧ ((r = 0 ∨ r = 1) ∧ (h' 36 7) = (h 36 7) ∧ (h' 1 1) = (h 1 1) ∧ (h' 90 2) = (h 90 2) ∧ (h' 0 10) = (h 0 10) ∧ (h' 0 11) = (h 0 11) ∧ (h' 0 12) = (h 0 12) ∧ (h' 0 13) = (h 0 13) ∧ (h' 3 1) = (h 3 1) ∧ (h' 36 8) = (h 36 8) ∧ (h' 46 3) = (h 46 3) ∧ (h' 46 4) = (h 46 4) ∧ (h' 49 4) = (h 49 4) ∧ (h' 49 5) = (h 49 5) ∧ (h' 64 0) = (h 64 0) ∧ (h' 76 0) = (h 76 0)) ∧ ((h 0 10 = 58 → st_Xtr (h 58) (h 59) h h' x y p w r) ∧ (h 0 10 = 70 → st_Xtr (h 70) (h 71) h h' x y p w r))
set_option maxHeartbeats 4000000 in
theorem c_OF_tried_0_t {u : ov_U} {F : ov_H} {z : ov_Z} {h : ov_H} (d : Nat) (hd : 1 ≤ d) (U : ov_cap u) (I : ov_I F z h) (hw : ov_kw 112 F) (x : Int) (y : Int) (p : Int) (w : Int) (g_x : ov_g x) (g_y : ov_g y) (g_p : p = 0 ∨ p = 1) (g_w : ov_g w) : ov_T u d ov_m172 [ov_r 0, ov_i x, ov_i y, ov_i p, ov_i w] z h (P_OF_tried_0_t F z h x y p w) := by
  refine ov_en rfl (Nat.le_of_ble_eq_true rfl) ?_
  show ov_R u d ov_m172 0 [(0, ov_r 0), (1, ov_i x), (2, ov_i y), (3, ov_i p), (4, ov_i w)] [] z h (P_OF_tried_0_t F z h x y p w)
  refine ov_blk (ls2 := [(0, ov_r 0), (1, ov_i x), (2, ov_i y), (3, ov_i p), (4, ov_i w)]) (st2 := [ov_r 0]) (pc2 := 1) b_172_0_1 rfl rfl ?_
  rcases rg_0_10 I with e1 | e1
  · skip
    refine ov_getf (v := ov_r 58) d_172_1 fl_OF_78 (zb_0 I) (zs_0 I) (congrArg ov_r e1) ?_
    refine ov_blk (ls2 := [(0, ov_r 0), (1, ov_i x), (2, ov_i y), (3, ov_i p), (4, ov_i w)]) (st2 := [ov_i y, ov_i x, ov_r 58]) (pc2 := 6) b_172_4_2 rfl rfl ?_
    refine ov_cV (as := [ov_i x, ov_i y]) (st := []) (d2 := d - 1) d_172_6 lk_OF_131 rfl (Nat.le_of_ble_eq_true rfl) (c := 9) (zb_58 I) (zs_58 I) ⟨by decide, rfl⟩ (by omega) (c_Town_corner_58_t (d - 1) (by omega) U I x y (by omega) (by omega)) ?_
    rintro _ _ _ ⟨v3, rfl, rfl, rfl, f2⟩
    show ov_R u d ov_m172 9 [(0, ov_r 0), (1, ov_i x), (2, ov_i y), (3, ov_i p), (4, ov_i w)] [ov_i v3] z h (P_OF_tried_0_t F z h x y p w)
    have f4 : (v3 = -1 ∧ (x < 0 ∨ (h 58 0) ≤ x ∨ y < 0 ∨ (h 58 1) ≤ y) ∨ 0 ≤ x ∧ x < (h 58 0) ∧ 0 ≤ y ∧ y < (h 58 1) ∧ v3 = 6 * y + x ∧ (h 58 0) ≤ 6 ∧ (h 58 1) ≤ 9) := f2
    clear f2
    refine ov_blk (ls2 := [(0, ov_r 0), (1, ov_i x), (2, ov_i y), (3, ov_i p), (4, ov_i w), (5, ov_i v3)]) (st2 := [ov_i (-1), ov_i v3]) (pc2 := 14) b_172_9_3 rfl rfl ?_
    refine ov_iceq (tgt := 43) d_172_14 (by decide) (by omega) (by omega) (fun c5 => ?_) (fun c5 => ?_)
    · skip
      refine ov_blk (ls2 := [(0, ov_r 0), (1, ov_i x), (2, ov_i y), (3, ov_i p), (4, ov_i w), (5, ov_i v3)]) (st2 := [ov_i 0]) (pc2 := 44) b_172_43_1 rfl rfl ?_
      exact ov_retz (st := []) d_172_44 rfl (by omega) ⟨_, rfl, I, (by show (0 = 0 ∨ 0 = 1) ∧ (h 36 7) = (h 36 7) ∧ (h 1 1) = (h 1 1) ∧ (h 90 2) = (h 90 2) ∧ (h 0 10) = (h 0 10) ∧ (h 0 11) = (h 0 11) ∧ (h 0 12) = (h 0 12) ∧ (h 0 13) = (h 0 13) ∧ (h 3 1) = (h 3 1) ∧ (h 36 8) = (h 36 8) ∧ (h 46 3) = (h 46 3) ∧ (h 46 4) = (h 46 4) ∧ (h 49 4) = (h 49 4) ∧ (h 49 5) = (h 49 5) ∧ (h 64 0) = (h 64 0) ∧ (h 76 0) = (h 76 0); omega), ⟨fun _ => (by unfold st_Xtr; exact (Or.inl ⟨rfl, (by first | omega | (rw [show 6 * y + x = v3 by omega]; omega)), (fun _ _ => rfl)⟩)), (fun e => absurd e (by omega))⟩⟩
    · skip
      refine ov_blk (ls2 := [(0, ov_r 0), (1, ov_i x), (2, ov_i y), (3, ov_i p), (4, ov_i w), (5, ov_i v3)]) (st2 := [ov_r 0]) (pc2 := 18) b_172_17_1 rfl rfl ?_
      refine ov_getf (v := ov_r 58) d_172_18 fl_OF_78 (zb_0 I) (zs_0 I) (congrArg ov_r e1) ?_
      refine ov_getf (v := ov_r 59) d_172_21 fl_OF_139 (zb_58 I) (zs_58 I) (congrArg ov_r (rg_58_2 I)) ?_
      refine ov_blk (ls2 := [(0, ov_r 0), (1, ov_i x), (2, ov_i y), (3, ov_i p), (4, ov_i w), (5, ov_i v3)]) (st2 := [ov_i v3, ov_r 59]) (pc2 := 26) b_172_24_1 rfl rfl ?_
      refine ov_iald d_172_26 (zb_59 I) (zs_59 I) (by omega) ?_
      have g6 := ra_59 I v3
      refine ov_blk (ls2 := [(0, ov_r 0), (1, ov_i x), (2, ov_i y), (3, ov_i p), (4, ov_i w), (5, ov_i v3)]) (st2 := [ov_i 2, ov_i (h 59 v3)]) (pc2 := 28) b_172_27_1 rfl rfl ?_
      refine ov_icne (tgt := 43) d_172_28 (by decide) (by omega) (by omega) (fun c7 => ?_) (fun c7 => ?_)
      · skip
        refine ov_blk (ls2 := [(0, ov_r 0), (1, ov_i x), (2, ov_i y), (3, ov_i p), (4, ov_i w), (5, ov_i v3)]) (st2 := [ov_i 0]) (pc2 := 44) b_172_43_1 rfl rfl ?_
        exact ov_retz (st := []) d_172_44 rfl (by omega) ⟨_, rfl, I, (by show (0 = 0 ∨ 0 = 1) ∧ (h 36 7) = (h 36 7) ∧ (h 1 1) = (h 1 1) ∧ (h 90 2) = (h 90 2) ∧ (h 0 10) = (h 0 10) ∧ (h 0 11) = (h 0 11) ∧ (h 0 12) = (h 0 12) ∧ (h 0 13) = (h 0 13) ∧ (h 3 1) = (h 3 1) ∧ (h 36 8) = (h 36 8) ∧ (h 46 3) = (h 46 3) ∧ (h 46 4) = (h 46 4) ∧ (h 49 4) = (h 49 4) ∧ (h 49 5) = (h 49 5) ∧ (h 64 0) = (h 64 0) ∧ (h 76 0) = (h 76 0); omega), ⟨fun _ => (by unfold st_Xtr; exact (Or.inl ⟨rfl, (by first | omega | (rw [show 6 * y + x = v3 by omega]; omega)), (fun _ _ => rfl)⟩)), (fun e => absurd e (by omega))⟩⟩
      · skip
        refine ov_blk (ls2 := [(0, ov_r 0), (1, ov_i x), (2, ov_i y), (3, ov_i p), (4, ov_i w), (5, ov_i v3)]) (st2 := [ov_i w]) (pc2 := 33) b_172_31_1 rfl rfl ?_
        refine ov_iflt (tgt := 43) d_172_33 (by decide) (by omega) (fun c8 => ?_) (fun c8 => ?_)
        · skip
          refine ov_blk (ls2 := [(0, ov_r 0), (1, ov_i x), (2, ov_i y), (3, ov_i p), (4, ov_i w), (5, ov_i v3)]) (st2 := [ov_i 0]) (pc2 := 44) b_172_43_1 rfl rfl ?_
          exact ov_retz (st := []) d_172_44 rfl (by omega) ⟨_, rfl, I, (by show (0 = 0 ∨ 0 = 1) ∧ (h 36 7) = (h 36 7) ∧ (h 1 1) = (h 1 1) ∧ (h 90 2) = (h 90 2) ∧ (h 0 10) = (h 0 10) ∧ (h 0 11) = (h 0 11) ∧ (h 0 12) = (h 0 12) ∧ (h 0 13) = (h 0 13) ∧ (h 3 1) = (h 3 1) ∧ (h 36 8) = (h 36 8) ∧ (h 46 3) = (h 46 3) ∧ (h 46 4) = (h 46 4) ∧ (h 49 4) = (h 49 4) ∧ (h 49 5) = (h 49 5) ∧ (h 64 0) = (h 64 0) ∧ (h 76 0) = (h 76 0); omega), ⟨fun _ => (by unfold st_Xtr; exact (Or.inl ⟨rfl, (by first | omega | (rw [show 6 * y + x = v3 by omega]; omega)), (fun _ _ => rfl)⟩)), (fun e => absurd e (by omega))⟩⟩
        · skip
          refine ov_blk (ls2 := [(0, ov_r 0), (1, ov_i x), (2, ov_i y), (3, ov_i p), (4, ov_i w), (5, ov_i v3)]) (st2 := [ov_i 59, ov_i w]) (pc2 := 40) b_172_36_2 rfl rfl ?_
          refine ov_icle (tgt := 45) d_172_40 (by decide) (by omega) (by omega) (fun c9 => ?_) (fun c9 => ?_)
          · skip
            refine ov_blk (ls2 := [(0, ov_r 0), (1, ov_i x), (2, ov_i y), (3, ov_i p), (4, ov_i w), (5, ov_i v3)]) (st2 := [ov_r 0]) (pc2 := 46) b_172_45_1 rfl rfl ?_
            refine ov_getf (v := ov_r 4) d_172_46 fl_OF_28 (zb_0 I) (zs_0 I) (congrArg ov_r (rg_0_2 I)) ?_
            refine ov_blk (ls2 := [(0, ov_r 0), (1, ov_i x), (2, ov_i y), (3, ov_i p), (4, ov_i w), (5, ov_i v3)]) (st2 := [ov_i w, ov_i p, ov_i v3, ov_r 4]) (pc2 := 54) b_172_49_3 rfl rfl ?_
            refine ov_cV (as := [ov_i v3, ov_i p, ov_i w]) (st := []) (d2 := d - 1) d_172_54 lk_OF_270 rfl (Nat.le_of_ble_eq_true rfl) (c := 7) (zb_4 I) (zs_4 I) ⟨by decide, rfl⟩ (by omega) (c_State_addTry_4_t (d - 1) (by omega) U I (ov_kws hw (by decide +kernel)) v3 p w (by omega) (by omega) (by omega)) ?_
            rintro _ z12 h13 ⟨v11, rfl, I14, f10, xk⟩
            show ov_R u d ov_m172 57 [(0, ov_r 0), (1, ov_i x), (2, ov_i y), (3, ov_i p), (4, ov_i w), (5, ov_i v3)] [ov_i v11] z12 h13 (P_OF_tried_0_t F z h x y p w)
            have f15 : (v11 = 0 ∨ v11 = 1) ∧ (h13 36 7) = (h 36 7) ∧ (h13 1 1) = (h 1 1) ∧ (h13 90 2) = (h 90 2) ∧ (h13 0 10) = (h 0 10) ∧ (h13 0 11) = (h 0 11) ∧ (h13 0 12) = (h 0 12) ∧ (h13 0 13) = (h 0 13) ∧ (h13 3 1) = (h 3 1) ∧ (h13 36 8) = (h 36 8) ∧ (h13 46 3) = (h 46 3) ∧ (h13 46 4) = (h 46 4) ∧ (h13 49 4) = (h 49 4) ∧ (h13 49 5) = (h 49 5) ∧ (h13 64 0) = (h 64 0) ∧ (h13 76 0) = (h 76 0) := f10
            clear f10
            have e16 : h13 0 10 = 58 := by omega
            exact ov_retz (st := []) d_172_57 rfl (by omega) ⟨_, rfl, I14, (by show (v11 = 0 ∨ v11 = 1) ∧ (h13 36 7) = (h 36 7) ∧ (h13 1 1) = (h 1 1) ∧ (h13 90 2) = (h 90 2) ∧ (h13 0 10) = (h 0 10) ∧ (h13 0 11) = (h 0 11) ∧ (h13 0 12) = (h 0 12) ∧ (h13 0 13) = (h 0 13) ∧ (h13 3 1) = (h 3 1) ∧ (h13 36 8) = (h 36 8) ∧ (h13 46 3) = (h 46 3) ∧ (h13 46 4) = (h 46 4) ∧ (h13 49 4) = (h 49 4) ∧ (h13 49 5) = (h 49 5) ∧ (h13 64 0) = (h 64 0) ∧ (h13 76 0) = (h 76 0); omega), ⟨fun _ => (by unfold st_Xtr; exact (xk.elim (fun q => Or.inl ⟨by have q1 := q.1; omega, by have q2 := q.2.1; (try rw [show 6 * y + x = v3 by omega]); omega, q.2.2⟩) (fun q => Or.inr ⟨by have q1 := q.1; omega, by have q2 := q.2.1; (try rw [show 6 * y + x = v3 by omega]); omega, by rw [show 6 * y + x = v3 by omega]; exact q.2.2⟩))), (fun e => absurd e (by omega))⟩⟩
          · skip
            refine ov_blk (ls2 := [(0, ov_r 0), (1, ov_i x), (2, ov_i y), (3, ov_i p), (4, ov_i w), (5, ov_i v3)]) (st2 := [ov_i 0]) (pc2 := 44) b_172_43_1 rfl rfl ?_
            exact ov_retz (st := []) d_172_44 rfl (by omega) ⟨_, rfl, I, (by show (0 = 0 ∨ 0 = 1) ∧ (h 36 7) = (h 36 7) ∧ (h 1 1) = (h 1 1) ∧ (h 90 2) = (h 90 2) ∧ (h 0 10) = (h 0 10) ∧ (h 0 11) = (h 0 11) ∧ (h 0 12) = (h 0 12) ∧ (h 0 13) = (h 0 13) ∧ (h 3 1) = (h 3 1) ∧ (h 36 8) = (h 36 8) ∧ (h 46 3) = (h 46 3) ∧ (h 46 4) = (h 46 4) ∧ (h 49 4) = (h 49 4) ∧ (h 49 5) = (h 49 5) ∧ (h 64 0) = (h 64 0) ∧ (h 76 0) = (h 76 0); omega), ⟨fun _ => (by unfold st_Xtr; exact (Or.inl ⟨rfl, (by first | omega | (rw [show 6 * y + x = v3 by omega]; omega)), (fun _ _ => rfl)⟩)), (fun e => absurd e (by omega))⟩⟩
  · skip
    refine ov_getf (v := ov_r 70) d_172_1 fl_OF_78 (zb_0 I) (zs_0 I) (congrArg ov_r e1) ?_
    refine ov_blk (ls2 := [(0, ov_r 0), (1, ov_i x), (2, ov_i y), (3, ov_i p), (4, ov_i w)]) (st2 := [ov_i y, ov_i x, ov_r 70]) (pc2 := 6) b_172_4_2 rfl rfl ?_
    refine ov_cV (as := [ov_i x, ov_i y]) (st := []) (d2 := d - 1) d_172_6 lk_OF_131 rfl (Nat.le_of_ble_eq_true rfl) (c := 9) (zb_70 I) (zs_70 I) ⟨by decide, rfl⟩ (by omega) (c_Town_corner_70_t (d - 1) (by omega) U I x y (by omega) (by omega)) ?_
    rintro _ _ _ ⟨v18, rfl, rfl, rfl, f17⟩
    show ov_R u d ov_m172 9 [(0, ov_r 0), (1, ov_i x), (2, ov_i y), (3, ov_i p), (4, ov_i w)] [ov_i v18] z h (P_OF_tried_0_t F z h x y p w)
    have f19 : (v18 = -1 ∧ (x < 0 ∨ (h 70 0) ≤ x ∨ y < 0 ∨ (h 70 1) ≤ y) ∨ 0 ≤ x ∧ x < (h 70 0) ∧ 0 ≤ y ∧ y < (h 70 1) ∧ v18 = 6 * y + x ∧ (h 70 0) ≤ 6 ∧ (h 70 1) ≤ 9) := f17
    clear f17
    refine ov_blk (ls2 := [(0, ov_r 0), (1, ov_i x), (2, ov_i y), (3, ov_i p), (4, ov_i w), (5, ov_i v18)]) (st2 := [ov_i (-1), ov_i v18]) (pc2 := 14) b_172_9_3 rfl rfl ?_
    refine ov_iceq (tgt := 43) d_172_14 (by decide) (by omega) (by omega) (fun c20 => ?_) (fun c20 => ?_)
    · skip
      refine ov_blk (ls2 := [(0, ov_r 0), (1, ov_i x), (2, ov_i y), (3, ov_i p), (4, ov_i w), (5, ov_i v18)]) (st2 := [ov_i 0]) (pc2 := 44) b_172_43_1 rfl rfl ?_
      exact ov_retz (st := []) d_172_44 rfl (by omega) ⟨_, rfl, I, (by show (0 = 0 ∨ 0 = 1) ∧ (h 36 7) = (h 36 7) ∧ (h 1 1) = (h 1 1) ∧ (h 90 2) = (h 90 2) ∧ (h 0 10) = (h 0 10) ∧ (h 0 11) = (h 0 11) ∧ (h 0 12) = (h 0 12) ∧ (h 0 13) = (h 0 13) ∧ (h 3 1) = (h 3 1) ∧ (h 36 8) = (h 36 8) ∧ (h 46 3) = (h 46 3) ∧ (h 46 4) = (h 46 4) ∧ (h 49 4) = (h 49 4) ∧ (h 49 5) = (h 49 5) ∧ (h 64 0) = (h 64 0) ∧ (h 76 0) = (h 76 0); omega), ⟨(fun e => absurd e (by omega)), fun _ => (by unfold st_Xtr; exact (Or.inl ⟨rfl, (by first | omega | (rw [show 6 * y + x = v18 by omega]; omega)), (fun _ _ => rfl)⟩))⟩⟩
    · skip
      refine ov_blk (ls2 := [(0, ov_r 0), (1, ov_i x), (2, ov_i y), (3, ov_i p), (4, ov_i w), (5, ov_i v18)]) (st2 := [ov_r 0]) (pc2 := 18) b_172_17_1 rfl rfl ?_
      refine ov_getf (v := ov_r 70) d_172_18 fl_OF_78 (zb_0 I) (zs_0 I) (congrArg ov_r e1) ?_
      refine ov_getf (v := ov_r 71) d_172_21 fl_OF_139 (zb_70 I) (zs_70 I) (congrArg ov_r (rg_70_2 I)) ?_
      refine ov_blk (ls2 := [(0, ov_r 0), (1, ov_i x), (2, ov_i y), (3, ov_i p), (4, ov_i w), (5, ov_i v18)]) (st2 := [ov_i v18, ov_r 71]) (pc2 := 26) b_172_24_1 rfl rfl ?_
      refine ov_iald d_172_26 (zb_71 I) (zs_71 I) (by omega) ?_
      have g21 := ra_71 I v18
      refine ov_blk (ls2 := [(0, ov_r 0), (1, ov_i x), (2, ov_i y), (3, ov_i p), (4, ov_i w), (5, ov_i v18)]) (st2 := [ov_i 2, ov_i (h 71 v18)]) (pc2 := 28) b_172_27_1 rfl rfl ?_
      refine ov_icne (tgt := 43) d_172_28 (by decide) (by omega) (by omega) (fun c22 => ?_) (fun c22 => ?_)
      · skip
        refine ov_blk (ls2 := [(0, ov_r 0), (1, ov_i x), (2, ov_i y), (3, ov_i p), (4, ov_i w), (5, ov_i v18)]) (st2 := [ov_i 0]) (pc2 := 44) b_172_43_1 rfl rfl ?_
        exact ov_retz (st := []) d_172_44 rfl (by omega) ⟨_, rfl, I, (by show (0 = 0 ∨ 0 = 1) ∧ (h 36 7) = (h 36 7) ∧ (h 1 1) = (h 1 1) ∧ (h 90 2) = (h 90 2) ∧ (h 0 10) = (h 0 10) ∧ (h 0 11) = (h 0 11) ∧ (h 0 12) = (h 0 12) ∧ (h 0 13) = (h 0 13) ∧ (h 3 1) = (h 3 1) ∧ (h 36 8) = (h 36 8) ∧ (h 46 3) = (h 46 3) ∧ (h 46 4) = (h 46 4) ∧ (h 49 4) = (h 49 4) ∧ (h 49 5) = (h 49 5) ∧ (h 64 0) = (h 64 0) ∧ (h 76 0) = (h 76 0); omega), ⟨(fun e => absurd e (by omega)), fun _ => (by unfold st_Xtr; exact (Or.inl ⟨rfl, (by first | omega | (rw [show 6 * y + x = v18 by omega]; omega)), (fun _ _ => rfl)⟩))⟩⟩
      · skip
        refine ov_blk (ls2 := [(0, ov_r 0), (1, ov_i x), (2, ov_i y), (3, ov_i p), (4, ov_i w), (5, ov_i v18)]) (st2 := [ov_i w]) (pc2 := 33) b_172_31_1 rfl rfl ?_
        refine ov_iflt (tgt := 43) d_172_33 (by decide) (by omega) (fun c23 => ?_) (fun c23 => ?_)
        · skip
          refine ov_blk (ls2 := [(0, ov_r 0), (1, ov_i x), (2, ov_i y), (3, ov_i p), (4, ov_i w), (5, ov_i v18)]) (st2 := [ov_i 0]) (pc2 := 44) b_172_43_1 rfl rfl ?_
          exact ov_retz (st := []) d_172_44 rfl (by omega) ⟨_, rfl, I, (by show (0 = 0 ∨ 0 = 1) ∧ (h 36 7) = (h 36 7) ∧ (h 1 1) = (h 1 1) ∧ (h 90 2) = (h 90 2) ∧ (h 0 10) = (h 0 10) ∧ (h 0 11) = (h 0 11) ∧ (h 0 12) = (h 0 12) ∧ (h 0 13) = (h 0 13) ∧ (h 3 1) = (h 3 1) ∧ (h 36 8) = (h 36 8) ∧ (h 46 3) = (h 46 3) ∧ (h 46 4) = (h 46 4) ∧ (h 49 4) = (h 49 4) ∧ (h 49 5) = (h 49 5) ∧ (h 64 0) = (h 64 0) ∧ (h 76 0) = (h 76 0); omega), ⟨(fun e => absurd e (by omega)), fun _ => (by unfold st_Xtr; exact (Or.inl ⟨rfl, (by first | omega | (rw [show 6 * y + x = v18 by omega]; omega)), (fun _ _ => rfl)⟩))⟩⟩
        · skip
          refine ov_blk (ls2 := [(0, ov_r 0), (1, ov_i x), (2, ov_i y), (3, ov_i p), (4, ov_i w), (5, ov_i v18)]) (st2 := [ov_i 59, ov_i w]) (pc2 := 40) b_172_36_2 rfl rfl ?_
          refine ov_icle (tgt := 45) d_172_40 (by decide) (by omega) (by omega) (fun c24 => ?_) (fun c24 => ?_)
          · skip
            refine ov_blk (ls2 := [(0, ov_r 0), (1, ov_i x), (2, ov_i y), (3, ov_i p), (4, ov_i w), (5, ov_i v18)]) (st2 := [ov_r 0]) (pc2 := 46) b_172_45_1 rfl rfl ?_
            refine ov_getf (v := ov_r 4) d_172_46 fl_OF_28 (zb_0 I) (zs_0 I) (congrArg ov_r (rg_0_2 I)) ?_
            refine ov_blk (ls2 := [(0, ov_r 0), (1, ov_i x), (2, ov_i y), (3, ov_i p), (4, ov_i w), (5, ov_i v18)]) (st2 := [ov_i w, ov_i p, ov_i v18, ov_r 4]) (pc2 := 54) b_172_49_3 rfl rfl ?_
            refine ov_cV (as := [ov_i v18, ov_i p, ov_i w]) (st := []) (d2 := d - 1) d_172_54 lk_OF_270 rfl (Nat.le_of_ble_eq_true rfl) (c := 7) (zb_4 I) (zs_4 I) ⟨by decide, rfl⟩ (by omega) (c_State_addTry_4_t (d - 1) (by omega) U I (ov_kws hw (by decide +kernel)) v18 p w (by omega) (by omega) (by omega)) ?_
            rintro _ z27 h28 ⟨v26, rfl, I29, f25, xk⟩
            show ov_R u d ov_m172 57 [(0, ov_r 0), (1, ov_i x), (2, ov_i y), (3, ov_i p), (4, ov_i w), (5, ov_i v18)] [ov_i v26] z27 h28 (P_OF_tried_0_t F z h x y p w)
            have f30 : (v26 = 0 ∨ v26 = 1) ∧ (h28 36 7) = (h 36 7) ∧ (h28 1 1) = (h 1 1) ∧ (h28 90 2) = (h 90 2) ∧ (h28 0 10) = (h 0 10) ∧ (h28 0 11) = (h 0 11) ∧ (h28 0 12) = (h 0 12) ∧ (h28 0 13) = (h 0 13) ∧ (h28 3 1) = (h 3 1) ∧ (h28 36 8) = (h 36 8) ∧ (h28 46 3) = (h 46 3) ∧ (h28 46 4) = (h 46 4) ∧ (h28 49 4) = (h 49 4) ∧ (h28 49 5) = (h 49 5) ∧ (h28 64 0) = (h 64 0) ∧ (h28 76 0) = (h 76 0) := f25
            clear f25
            have e31 : h28 0 10 = 70 := by omega
            exact ov_retz (st := []) d_172_57 rfl (by omega) ⟨_, rfl, I29, (by show (v26 = 0 ∨ v26 = 1) ∧ (h28 36 7) = (h 36 7) ∧ (h28 1 1) = (h 1 1) ∧ (h28 90 2) = (h 90 2) ∧ (h28 0 10) = (h 0 10) ∧ (h28 0 11) = (h 0 11) ∧ (h28 0 12) = (h 0 12) ∧ (h28 0 13) = (h 0 13) ∧ (h28 3 1) = (h 3 1) ∧ (h28 36 8) = (h 36 8) ∧ (h28 46 3) = (h 46 3) ∧ (h28 46 4) = (h 46 4) ∧ (h28 49 4) = (h 49 4) ∧ (h28 49 5) = (h 49 5) ∧ (h28 64 0) = (h 64 0) ∧ (h28 76 0) = (h 76 0); omega), ⟨(fun e => absurd e (by omega)), fun _ => (by unfold st_Xtr; exact (xk.elim (fun q => Or.inl ⟨by have q1 := q.1; omega, by have q2 := q.2.1; (try rw [show 6 * y + x = v18 by omega]); omega, q.2.2⟩) (fun q => Or.inr ⟨by have q1 := q.1; omega, by have q2 := q.2.1; (try rw [show 6 * y + x = v18 by omega]); omega, by rw [show 6 * y + x = v18 by omega]; exact q.2.2⟩)))⟩⟩
          · skip
            refine ov_blk (ls2 := [(0, ov_r 0), (1, ov_i x), (2, ov_i y), (3, ov_i p), (4, ov_i w), (5, ov_i v18)]) (st2 := [ov_i 0]) (pc2 := 44) b_172_43_1 rfl rfl ?_
            exact ov_retz (st := []) d_172_44 rfl (by omega) ⟨_, rfl, I, (by show (0 = 0 ∨ 0 = 1) ∧ (h 36 7) = (h 36 7) ∧ (h 1 1) = (h 1 1) ∧ (h 90 2) = (h 90 2) ∧ (h 0 10) = (h 0 10) ∧ (h 0 11) = (h 0 11) ∧ (h 0 12) = (h 0 12) ∧ (h 0 13) = (h 0 13) ∧ (h 3 1) = (h 3 1) ∧ (h 36 8) = (h 36 8) ∧ (h 46 3) = (h 46 3) ∧ (h 46 4) = (h 46 4) ∧ (h 49 4) = (h 49 4) ∧ (h 49 5) = (h 49 5) ∧ (h 64 0) = (h 64 0) ∧ (h 76 0) = (h 76 0); omega), ⟨(fun e => absurd e (by omega)), fun _ => (by unfold st_Xtr; exact (Or.inl ⟨rfl, (by first | omega | (rw [show 6 * y + x = v18 by omega]; omega)), (fun _ _ => rfl)⟩))⟩⟩
abbrev P_OF_was_0_t (F : ov_H) (z : ov_Z) (h : ov_H) (x : Int) (y : Int) (s : Int) : Option ov_V → ov_Z → ov_H → Prop := fun r0 z' h' => ∃ r : Int, r0 = some (ov_i r) ∧ ov_I F z' h' ∧ ((r = 0 ∨ r = 1) ∧ (h' 36 7) = (h 36 7) ∧ (h' 1 1) = (h 1 1) ∧ (h' 90 2) = (h 90 2) ∧ (h' 0 10) = (h 0 10) ∧ (h' 0 11) = (h 0 11) ∧ (h' 0 12) = (h 0 12) ∧ (h' 0 13) = (h 0 13) ∧ (h' 3 1) = (h 3 1) ∧ (h' 36 8) = (h 36 8) ∧ (h' 46 3) = (h 46 3) ∧ (h' 46 4) = (h 46 4) ∧ (h' 49 4) = (h 49 4) ∧ (h' 49 5) = (h 49 5) ∧ (h' 64 0) = (h 64 0) ∧ (h' 76 0) = (h 76 0)) ∧ ((h 0 10 = 58 → st_Xwa (h 58) h h' x y s r) ∧ (h 0 10 = 70 → st_Xwa (h 70) h h' x y s r))
set_option maxHeartbeats 4000000 in
theorem c_OF_was_0_t {u : ov_U} {F : ov_H} {z : ov_Z} {h : ov_H} (d : Nat) (hd : 1 ≤ d) (U : ov_cap u) (I : ov_I F z h) (hw : ov_kw 400 F) (x : Int) (y : Int) (s : Int) (g_x : ov_g x) (g_y : ov_g y) (g_s : ov_g s) : ov_T u d ov_m185 [ov_r 0, ov_i x, ov_i y, ov_i s] z h (P_OF_was_0_t F z h x y s) := by
  refine ov_en rfl (Nat.le_of_ble_eq_true rfl) ?_
  show ov_R u d ov_m185 0 [(0, ov_r 0), (1, ov_i x), (2, ov_i y), (3, ov_i s)] [] z h (P_OF_was_0_t F z h x y s)
  refine ov_blk (ls2 := [(0, ov_r 0), (1, ov_i x), (2, ov_i y), (3, ov_i s)]) (st2 := [ov_r 0]) (pc2 := 1) b_185_0_1 rfl rfl ?_
  rcases rg_0_10 I with e1 | e1
  · skip
    refine ov_getf (v := ov_r 58) d_185_1 fl_OF_78 (zb_0 I) (zs_0 I) (congrArg ov_r e1) ?_
    refine ov_blk (ls2 := [(0, ov_r 0), (1, ov_i x), (2, ov_i y), (3, ov_i s)]) (st2 := [ov_i y, ov_i x, ov_r 58]) (pc2 := 6) b_185_4_2 rfl rfl ?_
    refine ov_cV (as := [ov_i x, ov_i y]) (st := []) (d2 := d - 1) d_185_6 lk_OF_131 rfl (Nat.le_of_ble_eq_true rfl) (c := 9) (zb_58 I) (zs_58 I) ⟨by decide, rfl⟩ (by omega) (c_Town_corner_58_t (d - 1) (by omega) U I x y (by omega) (by omega)) ?_
    rintro _ _ _ ⟨v3, rfl, rfl, rfl, f2⟩
    show ov_R u d ov_m185 9 [(0, ov_r 0), (1, ov_i x), (2, ov_i y), (3, ov_i s)] [ov_i v3] z h (P_OF_was_0_t F z h x y s)
    have f4 : (v3 = -1 ∧ (x < 0 ∨ (h 58 0) ≤ x ∨ y < 0 ∨ (h 58 1) ≤ y) ∨ 0 ≤ x ∧ x < (h 58 0) ∧ 0 ≤ y ∧ y < (h 58 1) ∧ v3 = 6 * y + x ∧ (h 58 0) ≤ 6 ∧ (h 58 1) ≤ 9) := f2
    clear f2
    refine ov_blk (ls2 := [(0, ov_r 0), (1, ov_i x), (2, ov_i y), (3, ov_i s), (4, ov_i v3)]) (st2 := [ov_i (-1), ov_i v3]) (pc2 := 14) b_185_9_3 rfl rfl ?_
    refine ov_iceq (tgt := 28) d_185_14 (by decide) (by omega) (by omega) (fun c5 => ?_) (fun c5 => ?_)
    · skip
      refine ov_blk (ls2 := [(0, ov_r 0), (1, ov_i x), (2, ov_i y), (3, ov_i s), (4, ov_i v3)]) (st2 := [ov_i 0]) (pc2 := 29) b_185_28_1 rfl rfl ?_
      exact ov_retz (st := []) d_185_29 rfl (by omega) ⟨_, rfl, I, (by show (0 = 0 ∨ 0 = 1) ∧ (h 36 7) = (h 36 7) ∧ (h 1 1) = (h 1 1) ∧ (h 90 2) = (h 90 2) ∧ (h 0 10) = (h 0 10) ∧ (h 0 11) = (h 0 11) ∧ (h 0 12) = (h 0 12) ∧ (h 0 13) = (h 0 13) ∧ (h 3 1) = (h 3 1) ∧ (h 36 8) = (h 36 8) ∧ (h 46 3) = (h 46 3) ∧ (h 46 4) = (h 46 4) ∧ (h 49 4) = (h 49 4) ∧ (h 49 5) = (h 49 5) ∧ (h 64 0) = (h 64 0) ∧ (h 76 0) = (h 76 0); omega), ⟨fun _ => (by unfold st_Xwa; exact (Or.inl ⟨rfl, (by first | omega | (rw [show 6 * y + x = v3 by omega]; omega)), (fun _ _ => rfl)⟩)), (fun e => absurd e (by omega))⟩⟩
    · skip
      refine ov_blk (ls2 := [(0, ov_r 0), (1, ov_i x), (2, ov_i y), (3, ov_i s), (4, ov_i v3)]) (st2 := [ov_i s]) (pc2 := 18) b_185_17_1 rfl rfl ?_
      refine ov_iflt (tgt := 28) d_185_18 (by decide) (by omega) (fun c6 => ?_) (fun c6 => ?_)
      · skip
        refine ov_blk (ls2 := [(0, ov_r 0), (1, ov_i x), (2, ov_i y), (3, ov_i s), (4, ov_i v3)]) (st2 := [ov_i 0]) (pc2 := 29) b_185_28_1 rfl rfl ?_
        exact ov_retz (st := []) d_185_29 rfl (by omega) ⟨_, rfl, I, (by show (0 = 0 ∨ 0 = 1) ∧ (h 36 7) = (h 36 7) ∧ (h 1 1) = (h 1 1) ∧ (h 90 2) = (h 90 2) ∧ (h 0 10) = (h 0 10) ∧ (h 0 11) = (h 0 11) ∧ (h 0 12) = (h 0 12) ∧ (h 0 13) = (h 0 13) ∧ (h 3 1) = (h 3 1) ∧ (h 36 8) = (h 36 8) ∧ (h 46 3) = (h 46 3) ∧ (h 46 4) = (h 46 4) ∧ (h 49 4) = (h 49 4) ∧ (h 49 5) = (h 49 5) ∧ (h 64 0) = (h 64 0) ∧ (h 76 0) = (h 76 0); omega), ⟨fun _ => (by unfold st_Xwa; exact (Or.inl ⟨rfl, (by first | omega | (rw [show 6 * y + x = v3 by omega]; omega)), (fun _ _ => rfl)⟩)), (fun e => absurd e (by omega))⟩⟩
      · skip
        refine ov_blk (ls2 := [(0, ov_r 0), (1, ov_i x), (2, ov_i y), (3, ov_i s), (4, ov_i v3)]) (st2 := [ov_i 9999, ov_i s]) (pc2 := 25) b_185_21_2 rfl rfl ?_
        refine ov_icle (tgt := 30) d_185_25 (by decide) (by omega) (by omega) (fun c7 => ?_) (fun c7 => ?_)
        · skip
          refine ov_blk (ls2 := [(0, ov_r 0), (1, ov_i x), (2, ov_i y), (3, ov_i s), (4, ov_i v3)]) (st2 := [ov_r 0]) (pc2 := 31) b_185_30_1 rfl rfl ?_
          refine ov_getf (v := ov_r 4) d_185_31 fl_OF_28 (zb_0 I) (zs_0 I) (congrArg ov_r (rg_0_2 I)) ?_
          refine ov_blk (ls2 := [(0, ov_r 0), (1, ov_i x), (2, ov_i y), (3, ov_i s), (4, ov_i v3)]) (st2 := [ov_i s, ov_i v3, ov_r 4]) (pc2 := 37) b_185_34_2 rfl rfl ?_
          refine ov_cV (as := [ov_i v3, ov_i s]) (st := []) (d2 := d - 1) d_185_37 lk_OF_295 rfl (Nat.le_of_ble_eq_true rfl) (c := 7) (zb_4 I) (zs_4 I) ⟨by decide, rfl⟩ (by omega) (c_State_addSighting_4_t (d - 1) (by omega) U I (ov_kws hw (by decide +kernel)) v3 s (by omega) (by omega)) ?_
          rintro _ z10 h11 ⟨v9, rfl, I12, f8, xk⟩
          show ov_R u d ov_m185 40 [(0, ov_r 0), (1, ov_i x), (2, ov_i y), (3, ov_i s), (4, ov_i v3)] [ov_i v9] z10 h11 (P_OF_was_0_t F z h x y s)
          have f13 : (v9 = 0 ∨ v9 = 1) ∧ (h11 36 7) = (h 36 7) ∧ (h11 1 1) = (h 1 1) ∧ (h11 90 2) = (h 90 2) ∧ (h11 0 10) = (h 0 10) ∧ (h11 0 11) = (h 0 11) ∧ (h11 0 12) = (h 0 12) ∧ (h11 0 13) = (h 0 13) ∧ (h11 3 1) = (h 3 1) ∧ (h11 36 8) = (h 36 8) ∧ (h11 46 3) = (h 46 3) ∧ (h11 46 4) = (h 46 4) ∧ (h11 49 4) = (h 49 4) ∧ (h11 49 5) = (h 49 5) ∧ (h11 64 0) = (h 64 0) ∧ (h11 76 0) = (h 76 0) := f8
          clear f8
          have e14 : h11 0 10 = 58 := by omega
          exact ov_retz (st := []) d_185_40 rfl (by omega) ⟨_, rfl, I12, (by show (v9 = 0 ∨ v9 = 1) ∧ (h11 36 7) = (h 36 7) ∧ (h11 1 1) = (h 1 1) ∧ (h11 90 2) = (h 90 2) ∧ (h11 0 10) = (h 0 10) ∧ (h11 0 11) = (h 0 11) ∧ (h11 0 12) = (h 0 12) ∧ (h11 0 13) = (h 0 13) ∧ (h11 3 1) = (h 3 1) ∧ (h11 36 8) = (h 36 8) ∧ (h11 46 3) = (h 46 3) ∧ (h11 46 4) = (h 46 4) ∧ (h11 49 4) = (h 49 4) ∧ (h11 49 5) = (h 49 5) ∧ (h11 64 0) = (h 64 0) ∧ (h11 76 0) = (h 76 0); omega), ⟨fun _ => (by unfold st_Xwa; exact (xk.elim (fun q => Or.inl ⟨by have q1 := q.1; omega, by have q2 := q.2.1; (try rw [show 6 * y + x = v3 by omega]); omega, q.2.2⟩) (fun q => Or.inr ⟨by have q1 := q.1; omega, by have q2 := q.2.1; (try rw [show 6 * y + x = v3 by omega]); omega, by rw [show 6 * y + x = v3 by omega]; exact q.2.2⟩))), (fun e => absurd e (by omega))⟩⟩
        · skip
          refine ov_blk (ls2 := [(0, ov_r 0), (1, ov_i x), (2, ov_i y), (3, ov_i s), (4, ov_i v3)]) (st2 := [ov_i 0]) (pc2 := 29) b_185_28_1 rfl rfl ?_
          exact ov_retz (st := []) d_185_29 rfl (by omega) ⟨_, rfl, I, (by show (0 = 0 ∨ 0 = 1) ∧ (h 36 7) = (h 36 7) ∧ (h 1 1) = (h 1 1) ∧ (h 90 2) = (h 90 2) ∧ (h 0 10) = (h 0 10) ∧ (h 0 11) = (h 0 11) ∧ (h 0 12) = (h 0 12) ∧ (h 0 13) = (h 0 13) ∧ (h 3 1) = (h 3 1) ∧ (h 36 8) = (h 36 8) ∧ (h 46 3) = (h 46 3) ∧ (h 46 4) = (h 46 4) ∧ (h 49 4) = (h 49 4) ∧ (h 49 5) = (h 49 5) ∧ (h 64 0) = (h 64 0) ∧ (h 76 0) = (h 76 0); omega), ⟨fun _ => (by unfold st_Xwa; exact (Or.inl ⟨rfl, (by first | omega | (rw [show 6 * y + x = v3 by omega]; omega)), (fun _ _ => rfl)⟩)), (fun e => absurd e (by omega))⟩⟩
  · skip
    refine ov_getf (v := ov_r 70) d_185_1 fl_OF_78 (zb_0 I) (zs_0 I) (congrArg ov_r e1) ?_
    refine ov_blk (ls2 := [(0, ov_r 0), (1, ov_i x), (2, ov_i y), (3, ov_i s)]) (st2 := [ov_i y, ov_i x, ov_r 70]) (pc2 := 6) b_185_4_2 rfl rfl ?_
    refine ov_cV (as := [ov_i x, ov_i y]) (st := []) (d2 := d - 1) d_185_6 lk_OF_131 rfl (Nat.le_of_ble_eq_true rfl) (c := 9) (zb_70 I) (zs_70 I) ⟨by decide, rfl⟩ (by omega) (c_Town_corner_70_t (d - 1) (by omega) U I x y (by omega) (by omega)) ?_
    rintro _ _ _ ⟨v16, rfl, rfl, rfl, f15⟩
    show ov_R u d ov_m185 9 [(0, ov_r 0), (1, ov_i x), (2, ov_i y), (3, ov_i s)] [ov_i v16] z h (P_OF_was_0_t F z h x y s)
    have f17 : (v16 = -1 ∧ (x < 0 ∨ (h 70 0) ≤ x ∨ y < 0 ∨ (h 70 1) ≤ y) ∨ 0 ≤ x ∧ x < (h 70 0) ∧ 0 ≤ y ∧ y < (h 70 1) ∧ v16 = 6 * y + x ∧ (h 70 0) ≤ 6 ∧ (h 70 1) ≤ 9) := f15
    clear f15
    refine ov_blk (ls2 := [(0, ov_r 0), (1, ov_i x), (2, ov_i y), (3, ov_i s), (4, ov_i v16)]) (st2 := [ov_i (-1), ov_i v16]) (pc2 := 14) b_185_9_3 rfl rfl ?_
    refine ov_iceq (tgt := 28) d_185_14 (by decide) (by omega) (by omega) (fun c18 => ?_) (fun c18 => ?_)
    · skip
      refine ov_blk (ls2 := [(0, ov_r 0), (1, ov_i x), (2, ov_i y), (3, ov_i s), (4, ov_i v16)]) (st2 := [ov_i 0]) (pc2 := 29) b_185_28_1 rfl rfl ?_
      exact ov_retz (st := []) d_185_29 rfl (by omega) ⟨_, rfl, I, (by show (0 = 0 ∨ 0 = 1) ∧ (h 36 7) = (h 36 7) ∧ (h 1 1) = (h 1 1) ∧ (h 90 2) = (h 90 2) ∧ (h 0 10) = (h 0 10) ∧ (h 0 11) = (h 0 11) ∧ (h 0 12) = (h 0 12) ∧ (h 0 13) = (h 0 13) ∧ (h 3 1) = (h 3 1) ∧ (h 36 8) = (h 36 8) ∧ (h 46 3) = (h 46 3) ∧ (h 46 4) = (h 46 4) ∧ (h 49 4) = (h 49 4) ∧ (h 49 5) = (h 49 5) ∧ (h 64 0) = (h 64 0) ∧ (h 76 0) = (h 76 0); omega), ⟨(fun e => absurd e (by omega)), fun _ => (by unfold st_Xwa; exact (Or.inl ⟨rfl, (by first | omega | (rw [show 6 * y + x = v16 by omega]; omega)), (fun _ _ => rfl)⟩))⟩⟩
    · skip
      refine ov_blk (ls2 := [(0, ov_r 0), (1, ov_i x), (2, ov_i y), (3, ov_i s), (4, ov_i v16)]) (st2 := [ov_i s]) (pc2 := 18) b_185_17_1 rfl rfl ?_
      refine ov_iflt (tgt := 28) d_185_18 (by decide) (by omega) (fun c19 => ?_) (fun c19 => ?_)
      · skip
        refine ov_blk (ls2 := [(0, ov_r 0), (1, ov_i x), (2, ov_i y), (3, ov_i s), (4, ov_i v16)]) (st2 := [ov_i 0]) (pc2 := 29) b_185_28_1 rfl rfl ?_
        exact ov_retz (st := []) d_185_29 rfl (by omega) ⟨_, rfl, I, (by show (0 = 0 ∨ 0 = 1) ∧ (h 36 7) = (h 36 7) ∧ (h 1 1) = (h 1 1) ∧ (h 90 2) = (h 90 2) ∧ (h 0 10) = (h 0 10) ∧ (h 0 11) = (h 0 11) ∧ (h 0 12) = (h 0 12) ∧ (h 0 13) = (h 0 13) ∧ (h 3 1) = (h 3 1) ∧ (h 36 8) = (h 36 8) ∧ (h 46 3) = (h 46 3) ∧ (h 46 4) = (h 46 4) ∧ (h 49 4) = (h 49 4) ∧ (h 49 5) = (h 49 5) ∧ (h 64 0) = (h 64 0) ∧ (h 76 0) = (h 76 0); omega), ⟨(fun e => absurd e (by omega)), fun _ => (by unfold st_Xwa; exact (Or.inl ⟨rfl, (by first | omega | (rw [show 6 * y + x = v16 by omega]; omega)), (fun _ _ => rfl)⟩))⟩⟩
      · skip
        refine ov_blk (ls2 := [(0, ov_r 0), (1, ov_i x), (2, ov_i y), (3, ov_i s), (4, ov_i v16)]) (st2 := [ov_i 9999, ov_i s]) (pc2 := 25) b_185_21_2 rfl rfl ?_
        refine ov_icle (tgt := 30) d_185_25 (by decide) (by omega) (by omega) (fun c20 => ?_) (fun c20 => ?_)
        · skip
          refine ov_blk (ls2 := [(0, ov_r 0), (1, ov_i x), (2, ov_i y), (3, ov_i s), (4, ov_i v16)]) (st2 := [ov_r 0]) (pc2 := 31) b_185_30_1 rfl rfl ?_
          refine ov_getf (v := ov_r 4) d_185_31 fl_OF_28 (zb_0 I) (zs_0 I) (congrArg ov_r (rg_0_2 I)) ?_
          refine ov_blk (ls2 := [(0, ov_r 0), (1, ov_i x), (2, ov_i y), (3, ov_i s), (4, ov_i v16)]) (st2 := [ov_i s, ov_i v16, ov_r 4]) (pc2 := 37) b_185_34_2 rfl rfl ?_
          refine ov_cV (as := [ov_i v16, ov_i s]) (st := []) (d2 := d - 1) d_185_37 lk_OF_295 rfl (Nat.le_of_ble_eq_true rfl) (c := 7) (zb_4 I) (zs_4 I) ⟨by decide, rfl⟩ (by omega) (c_State_addSighting_4_t (d - 1) (by omega) U I (ov_kws hw (by decide +kernel)) v16 s (by omega) (by omega)) ?_
          rintro _ z23 h24 ⟨v22, rfl, I25, f21, xk⟩
          show ov_R u d ov_m185 40 [(0, ov_r 0), (1, ov_i x), (2, ov_i y), (3, ov_i s), (4, ov_i v16)] [ov_i v22] z23 h24 (P_OF_was_0_t F z h x y s)
          have f26 : (v22 = 0 ∨ v22 = 1) ∧ (h24 36 7) = (h 36 7) ∧ (h24 1 1) = (h 1 1) ∧ (h24 90 2) = (h 90 2) ∧ (h24 0 10) = (h 0 10) ∧ (h24 0 11) = (h 0 11) ∧ (h24 0 12) = (h 0 12) ∧ (h24 0 13) = (h 0 13) ∧ (h24 3 1) = (h 3 1) ∧ (h24 36 8) = (h 36 8) ∧ (h24 46 3) = (h 46 3) ∧ (h24 46 4) = (h 46 4) ∧ (h24 49 4) = (h 49 4) ∧ (h24 49 5) = (h 49 5) ∧ (h24 64 0) = (h 64 0) ∧ (h24 76 0) = (h 76 0) := f21
          clear f21
          have e27 : h24 0 10 = 70 := by omega
          exact ov_retz (st := []) d_185_40 rfl (by omega) ⟨_, rfl, I25, (by show (v22 = 0 ∨ v22 = 1) ∧ (h24 36 7) = (h 36 7) ∧ (h24 1 1) = (h 1 1) ∧ (h24 90 2) = (h 90 2) ∧ (h24 0 10) = (h 0 10) ∧ (h24 0 11) = (h 0 11) ∧ (h24 0 12) = (h 0 12) ∧ (h24 0 13) = (h 0 13) ∧ (h24 3 1) = (h 3 1) ∧ (h24 36 8) = (h 36 8) ∧ (h24 46 3) = (h 46 3) ∧ (h24 46 4) = (h 46 4) ∧ (h24 49 4) = (h 49 4) ∧ (h24 49 5) = (h 49 5) ∧ (h24 64 0) = (h 64 0) ∧ (h24 76 0) = (h 76 0); omega), ⟨(fun e => absurd e (by omega)), fun _ => (by unfold st_Xwa; exact (xk.elim (fun q => Or.inl ⟨by have q1 := q.1; omega, by have q2 := q.2.1; (try rw [show 6 * y + x = v16 by omega]); omega, q.2.2⟩) (fun q => Or.inr ⟨by have q1 := q.1; omega, by have q2 := q.2.1; (try rw [show 6 * y + x = v16 by omega]); omega, by rw [show 6 * y + x = v16 by omega]; exact q.2.2⟩)))⟩⟩
        · skip
          refine ov_blk (ls2 := [(0, ov_r 0), (1, ov_i x), (2, ov_i y), (3, ov_i s), (4, ov_i v16)]) (st2 := [ov_i 0]) (pc2 := 29) b_185_28_1 rfl rfl ?_
          exact ov_retz (st := []) d_185_29 rfl (by omega) ⟨_, rfl, I, (by show (0 = 0 ∨ 0 = 1) ∧ (h 36 7) = (h 36 7) ∧ (h 1 1) = (h 1 1) ∧ (h 90 2) = (h 90 2) ∧ (h 0 10) = (h 0 10) ∧ (h 0 11) = (h 0 11) ∧ (h 0 12) = (h 0 12) ∧ (h 0 13) = (h 0 13) ∧ (h 3 1) = (h 3 1) ∧ (h 36 8) = (h 36 8) ∧ (h 46 3) = (h 46 3) ∧ (h 46 4) = (h 46 4) ∧ (h 49 4) = (h 49 4) ∧ (h 49 5) = (h 49 5) ∧ (h 64 0) = (h 64 0) ∧ (h 76 0) = (h 76 0); omega), ⟨(fun e => absurd e (by omega)), fun _ => (by unfold st_Xwa; exact (Or.inl ⟨rfl, (by first | omega | (rw [show 6 * y + x = v16 by omega]; omega)), (fun _ _ => rfl)⟩))⟩⟩
abbrev P_OF_mark_0_t (F : ov_H) (z : ov_Z) (h : ov_H) (m : Int) (b : Int) : Option ov_V → ov_Z → ov_H → Prop := fun r0 z' h' => ∃ r : Int, r0 = some (ov_i r) ∧ ov_I F z' h' ∧ ((r = 0 ∨ r = 1) ∧ (h' 36 7) = (h 36 7) ∧ (h' 1 1) = (h 1 1) ∧ (h' 90 2) = (h 90 2) ∧ (h' 0 10) = (h 0 10) ∧ (h' 0 11) = (h 0 11) ∧ (h' 0 12) = (h 0 12) ∧ (h' 0 13) = (h 0 13) ∧ (h' 3 1) = (h 3 1) ∧ (h' 36 8) = (h 36 8) ∧ (h' 46 3) = (h 46 3) ∧ (h' 46 4) = (h 46 4) ∧ (h' 49 4) = (h 49 4) ∧ (h' 49 5) = (h 49 5) ∧ (h' 64 0) = (h 64 0) ∧ (h' 76 0) = (h 76 0)) ∧ ((r = 0 ∧ ¬ (0 ≤ m ∧ m ≤ 3 ∧ (b = 0 ∨ h 35 m = 1)) ∧ st_Z h h') ∨ (r = 1 ∧ (0 ≤ m ∧ m ≤ 3 ∧ (b = 0 ∨ h 35 m = 1)) ∧ st_Mk h h' m b))
set_option maxHeartbeats 4000000 in
theorem c_OF_mark_0_t {u : ov_U} {F : ov_H} {z : ov_Z} {h : ov_H} (d : Nat) (hd : 3 ≤ d) (U : ov_cap u) (I : ov_I F z h) (hw : ov_kw 68719444976 F) (m : Int) (b : Int) (g_m : ov_g m) (g_b : b = 0 ∨ b = 1) : ov_T u d ov_m196 [ov_r 0, ov_i m, ov_i b] z h (P_OF_mark_0_t F z h m b) := by
  refine ov_en rfl (Nat.le_of_ble_eq_true rfl) ?_
  show ov_R u d ov_m196 0 [(0, ov_r 0), (1, ov_i m), (2, ov_i b)] [] z h (P_OF_mark_0_t F z h m b)
  refine ov_blk (ls2 := [(0, ov_r 0), (1, ov_i m), (2, ov_i b)]) (st2 := [ov_i m]) (pc2 := 1) b_196_0_1 rfl rfl ?_
  refine ov_iflt (tgt := 26) d_196_1 (by decide) (by omega) (fun c1 => ?_) (fun c1 => ?_)
  · skip
    refine ov_blk (ls2 := [(0, ov_r 0), (1, ov_i m), (2, ov_i b)]) (st2 := [ov_i 0]) (pc2 := 27) b_196_26_1 rfl rfl ?_
    exact ov_retz (st := []) d_196_27 rfl (by omega) ⟨_, rfl, I, (by show (0 = 0 ∨ 0 = 1) ∧ (h 36 7) = (h 36 7) ∧ (h 1 1) = (h 1 1) ∧ (h 90 2) = (h 90 2) ∧ (h 0 10) = (h 0 10) ∧ (h 0 11) = (h 0 11) ∧ (h 0 12) = (h 0 12) ∧ (h 0 13) = (h 0 13) ∧ (h 3 1) = (h 3 1) ∧ (h 36 8) = (h 36 8) ∧ (h 46 3) = (h 46 3) ∧ (h 46 4) = (h 46 4) ∧ (h 49 4) = (h 49 4) ∧ (h 49 5) = (h 49 5) ∧ (h 64 0) = (h 64 0) ∧ (h 76 0) = (h 76 0); omega), (Or.inl ⟨rfl, (by omega), (fun _ _ => rfl)⟩)⟩
  · skip
    refine ov_blk (ls2 := [(0, ov_r 0), (1, ov_i m), (2, ov_i b)]) (st2 := [ov_r 0, ov_i m]) (pc2 := 6) b_196_4_2 rfl rfl ?_
    refine ov_getf (v := ov_r 14) d_196_6 fl_OF_39 (zb_0 I) (zs_0 I) (congrArg ov_r (rg_0_4 I)) ?_
    refine ov_alen d_196_9 (zb_14 I) (zs_14 I) (by decide) ?_
    show ov_R u d ov_m196 10 [(0, ov_r 0), (1, ov_i m), (2, ov_i b)] [ov_i 4, ov_i m] z h (P_OF_mark_0_t F z h m b)
    refine ov_icge (tgt := 26) d_196_10 (by decide) (by omega) (by omega) (fun c2 => ?_) (fun c2 => ?_)
    · skip
      refine ov_blk (ls2 := [(0, ov_r 0), (1, ov_i m), (2, ov_i b)]) (st2 := [ov_i 0]) (pc2 := 27) b_196_26_1 rfl rfl ?_
      exact ov_retz (st := []) d_196_27 rfl (by omega) ⟨_, rfl, I, (by show (0 = 0 ∨ 0 = 1) ∧ (h 36 7) = (h 36 7) ∧ (h 1 1) = (h 1 1) ∧ (h 90 2) = (h 90 2) ∧ (h 0 10) = (h 0 10) ∧ (h 0 11) = (h 0 11) ∧ (h 0 12) = (h 0 12) ∧ (h 0 13) = (h 0 13) ∧ (h 3 1) = (h 3 1) ∧ (h 36 8) = (h 36 8) ∧ (h 46 3) = (h 46 3) ∧ (h 46 4) = (h 46 4) ∧ (h 49 4) = (h 49 4) ∧ (h 49 5) = (h 49 5) ∧ (h 64 0) = (h 64 0) ∧ (h 76 0) = (h 76 0); omega), (Or.inl ⟨rfl, (by omega), (fun _ _ => rfl)⟩)⟩
    · skip
      refine ov_blk (ls2 := [(0, ov_r 0), (1, ov_i m), (2, ov_i b)]) (st2 := [ov_i b]) (pc2 := 14) b_196_13_1 rfl rfl ?_
      refine ov_ifeq (tgt := 28) d_196_14 (by decide) (by omega) (fun c3 => ?_) (fun c3 => ?_)
      · skip
        refine ov_blk (ls2 := [(0, ov_r 0), (1, ov_i m), (2, ov_i b)]) (st2 := [ov_i b]) (pc2 := 29) b_196_28_1 rfl rfl ?_
        refine ov_ifeq (tgt := 55) d_196_29 (by decide) (by omega) (fun c4 => ?_) (fun c4 => ?_)
        · skip
          refine ov_blk (ls2 := [(0, ov_r 0), (1, ov_i m), (2, ov_i b)]) (st2 := [ov_r 0]) (pc2 := 56) b_196_55_1 rfl rfl ?_
          refine ov_getf (v := ov_r 14) d_196_56 fl_OF_39 (zb_0 I) (zs_0 I) (congrArg ov_r (rg_0_4 I)) ?_
          refine ov_blk (ls2 := [(0, ov_r 0), (1, ov_i m), (2, ov_i b)]) (st2 := [ov_i m, ov_r 14]) (pc2 := 60) b_196_59_1 rfl rfl ?_
          refine ov_aald d_196_60 (zb_14 I) (zs_14 I) (by omega) ?_
          have me5 : m = 0 ∨ m = 1 ∨ m = 2 ∨ m = 3 := by omega
          have ne5 := ra_14 I m
          rcases me5 with e5 | e5 | e5 | e5
          · have re5 : h 14 m = 15 := by omega
            rw [re5]
            show ov_R u d ov_m196 61 [(0, ov_r 0), (1, ov_i m), (2, ov_i b)] [ov_r 15] z h (P_OF_mark_0_t F z h m b)
            refine ov_blk (ls2 := [(0, ov_r 0), (1, ov_i m), (2, ov_i b)]) (st2 := [ov_r 0, ov_r 15]) (pc2 := 62) b_196_61_1 rfl rfl ?_
            refine ov_getf (v := ov_r 4) d_196_62 fl_OF_28 (zb_0 I) (zs_0 I) (congrArg ov_r (rg_0_2 I)) ?_
            refine ov_cV (as := [ov_r 4]) (st := []) (d2 := d - 1) d_196_65 lk_OF_322 rfl (Nat.le_of_ble_eq_true rfl) (c := 7) (zb_15 I) (zs_15 I) ⟨by decide, rfl⟩ (by omega) (c_State_copy_15_4_t (d - 1) (by omega) U (ov_I_ff (M := 1237940038997149967465873407) I) (ov_kw_ff (ov_kws hw (by decide +kernel)) (by decide +kernel))) ?_
            rintro _ z7 h8 ⟨rfl, I9, f6, xk⟩
            have I9k := I9
            have I9 := ov_I_fr I I9k
            have er10 : h8 4 = h 4 := ov_ff_k I9k (Or.inl (by decide)) (by decide +kernel)
            have er11 : h8 5 = h 5 := ov_ff_k I9k (Or.inl (by decide)) (by decide +kernel)
            have er12 : h8 6 = h 6 := ov_ff_k I9k (Or.inl (by decide)) (by decide +kernel)
            have er13 : h8 7 = h 7 := ov_ff_k I9k (Or.inl (by decide)) (by decide +kernel)
            have er14 : h8 8 = h 8 := ov_ff_k I9k (Or.inl (by decide)) (by decide +kernel)
            have er15 : h8 9 = h 9 := ov_ff_k I9k (Or.inl (by decide)) (by decide +kernel)
            have ek16 : h8 9 1 = (h 9 1) := congrFun er15 1
            have er17 : h8 35 = h 35 := ov_ff_k I9k (Or.inl (by decide)) (by decide +kernel)
            show ov_R u d ov_m196 68 [(0, ov_r 0), (1, ov_i m), (2, ov_i b)] [] z7 h8 (P_OF_mark_0_t F z h m b)
            have f18 : (h8 36 7) = (h 36 7) ∧ (h8 1 1) = (h 1 1) ∧ (h8 90 2) = (h 90 2) ∧ (h8 0 10) = (h 0 10) ∧ (h8 0 11) = (h 0 11) ∧ (h8 0 12) = (h 0 12) ∧ (h8 0 13) = (h 0 13) ∧ (h8 3 1) = (h 3 1) ∧ (h8 36 8) = (h 36 8) ∧ (h8 46 3) = (h 46 3) ∧ (h8 46 4) = (h 46 4) ∧ (h8 49 4) = (h 49 4) ∧ (h8 49 5) = (h 49 5) ∧ (h8 64 0) = (h 64 0) ∧ (h8 76 0) = (h 76 0) := f6
            clear f6
            refine ov_blk (ls2 := [(0, ov_r 0), (1, ov_i m), (2, ov_i b)]) (st2 := [ov_r 0]) (pc2 := 69) b_196_68_1 rfl rfl ?_
            refine ov_getf (v := ov_r 35) d_196_69 fl_OF_43 (zb_0 I9) (zs_0 I9) (congrArg ov_r (rg_0_5 I9)) ?_
            refine ov_blk (ls2 := [(0, ov_r 0), (1, ov_i m), (2, ov_i b)]) (st2 := [ov_i 1, ov_i m, ov_r 35]) (pc2 := 74) b_196_72_2 rfl rfl ?_
            refine ov_zast d_196_74 (zb_35 I9) (zs_35 I9) (by omega) (by omega) ?_
            have I19 := ua_35 (k := m) (x := 1) I9 (by omega) (hw 35 (by decide +kernel))
            refine ov_blk (ls2 := [(0, ov_r 0), (1, ov_i m), (2, ov_i b)]) (st2 := [ov_i 1]) (pc2 := 76) b_196_75_1 rfl rfl ?_
            exact ov_retz (st := []) d_196_76 rfl (by omega) ⟨_, rfl, I19, (by show (1 = 0 ∨ 1 = 1) ∧ (h8 36 7) = (h 36 7) ∧ (h8 1 1) = (h 1 1) ∧ (h8 90 2) = (h 90 2) ∧ (h8 0 10) = (h 0 10) ∧ (h8 0 11) = (h 0 11) ∧ (h8 0 12) = (h 0 12) ∧ (h8 0 13) = (h 0 13) ∧ (h8 3 1) = (h 3 1) ∧ (h8 36 8) = (h 36 8) ∧ (h8 46 3) = (h 46 3) ∧ (h8 46 4) = (h 46 4) ∧ (h8 49 4) = (h 49 4) ∧ (h8 49 5) = (h 49 5) ∧ (h8 64 0) = (h 64 0) ∧ (h8 76 0) = (h 76 0); omega), (Or.inr ⟨rfl, (by omega), Or.inl ⟨(by omega), (by show (ov_up h8 35 m 1) 35 = _; rw [ov_up_row]; rw [er17]), (by rw [show 15 + 5 * m = 15 by omega, show 16 + 5 * m = 16 by omega, show 17 + 5 * m = 17 by omega, show 18 + 5 * m = 18 by omega, show 19 + 5 * m = 19 by omega]; exact xk), (fun a a0 a1 a2 => by show (ov_up h8 35 m 1) a = _; rw [ov_up_ne (by omega)]; exact ov_ff_k I9k (Or.inl (by omega)) ((by decide +kernel : ∀ n, n < 36 → (n < 15 ∨ 20 ≤ n) → Nat.testBit 1237940038997149967465873407 n = true) a.toNat (by omega) (by omega)))⟩⟩)⟩
          · have re5 : h 14 m = 20 := by omega
            rw [re5]
            show ov_R u d ov_m196 61 [(0, ov_r 0), (1, ov_i m), (2, ov_i b)] [ov_r 20] z h (P_OF_mark_0_t F z h m b)
            refine ov_blk (ls2 := [(0, ov_r 0), (1, ov_i m), (2, ov_i b)]) (st2 := [ov_r 0, ov_r 20]) (pc2 := 62) b_196_61_1 rfl rfl ?_
            refine ov_getf (v := ov_r 4) d_196_62 fl_OF_28 (zb_0 I) (zs_0 I) (congrArg ov_r (rg_0_2 I)) ?_
            refine ov_cV (as := [ov_r 4]) (st := []) (d2 := d - 1) d_196_65 lk_OF_322 rfl (Nat.le_of_ble_eq_true rfl) (c := 7) (zb_20 I) (zs_20 I) ⟨by decide, rfl⟩ (by omega) (c_State_copy_20_4_t (d - 1) (by omega) U (ov_I_ff (M := 1237940038997149967434383359) I) (ov_kw_ff (ov_kws hw (by decide +kernel)) (by decide +kernel))) ?_
            rintro _ z21 h22 ⟨rfl, I23, f20, xk⟩
            have I23k := I23
            have I23 := ov_I_fr I I23k
            have er24 : h22 4 = h 4 := ov_ff_k I23k (Or.inl (by decide)) (by decide +kernel)
            have er25 : h22 5 = h 5 := ov_ff_k I23k (Or.inl (by decide)) (by decide +kernel)
            have er26 : h22 6 = h 6 := ov_ff_k I23k (Or.inl (by decide)) (by decide +kernel)
            have er27 : h22 7 = h 7 := ov_ff_k I23k (Or.inl (by decide)) (by decide +kernel)
            have er28 : h22 8 = h 8 := ov_ff_k I23k (Or.inl (by decide)) (by decide +kernel)
            have er29 : h22 9 = h 9 := ov_ff_k I23k (Or.inl (by decide)) (by decide +kernel)
            have ek30 : h22 9 1 = (h 9 1) := congrFun er29 1
            have er31 : h22 35 = h 35 := ov_ff_k I23k (Or.inl (by decide)) (by decide +kernel)
            show ov_R u d ov_m196 68 [(0, ov_r 0), (1, ov_i m), (2, ov_i b)] [] z21 h22 (P_OF_mark_0_t F z h m b)
            have f32 : (h22 36 7) = (h 36 7) ∧ (h22 1 1) = (h 1 1) ∧ (h22 90 2) = (h 90 2) ∧ (h22 0 10) = (h 0 10) ∧ (h22 0 11) = (h 0 11) ∧ (h22 0 12) = (h 0 12) ∧ (h22 0 13) = (h 0 13) ∧ (h22 3 1) = (h 3 1) ∧ (h22 36 8) = (h 36 8) ∧ (h22 46 3) = (h 46 3) ∧ (h22 46 4) = (h 46 4) ∧ (h22 49 4) = (h 49 4) ∧ (h22 49 5) = (h 49 5) ∧ (h22 64 0) = (h 64 0) ∧ (h22 76 0) = (h 76 0) := f20
            clear f20
            refine ov_blk (ls2 := [(0, ov_r 0), (1, ov_i m), (2, ov_i b)]) (st2 := [ov_r 0]) (pc2 := 69) b_196_68_1 rfl rfl ?_
            refine ov_getf (v := ov_r 35) d_196_69 fl_OF_43 (zb_0 I23) (zs_0 I23) (congrArg ov_r (rg_0_5 I23)) ?_
            refine ov_blk (ls2 := [(0, ov_r 0), (1, ov_i m), (2, ov_i b)]) (st2 := [ov_i 1, ov_i m, ov_r 35]) (pc2 := 74) b_196_72_2 rfl rfl ?_
            refine ov_zast d_196_74 (zb_35 I23) (zs_35 I23) (by omega) (by omega) ?_
            have I33 := ua_35 (k := m) (x := 1) I23 (by omega) (hw 35 (by decide +kernel))
            refine ov_blk (ls2 := [(0, ov_r 0), (1, ov_i m), (2, ov_i b)]) (st2 := [ov_i 1]) (pc2 := 76) b_196_75_1 rfl rfl ?_
            exact ov_retz (st := []) d_196_76 rfl (by omega) ⟨_, rfl, I33, (by show (1 = 0 ∨ 1 = 1) ∧ (h22 36 7) = (h 36 7) ∧ (h22 1 1) = (h 1 1) ∧ (h22 90 2) = (h 90 2) ∧ (h22 0 10) = (h 0 10) ∧ (h22 0 11) = (h 0 11) ∧ (h22 0 12) = (h 0 12) ∧ (h22 0 13) = (h 0 13) ∧ (h22 3 1) = (h 3 1) ∧ (h22 36 8) = (h 36 8) ∧ (h22 46 3) = (h 46 3) ∧ (h22 46 4) = (h 46 4) ∧ (h22 49 4) = (h 49 4) ∧ (h22 49 5) = (h 49 5) ∧ (h22 64 0) = (h 64 0) ∧ (h22 76 0) = (h 76 0); omega), (Or.inr ⟨rfl, (by omega), Or.inl ⟨(by omega), (by show (ov_up h22 35 m 1) 35 = _; rw [ov_up_row]; rw [er31]), (by rw [show 15 + 5 * m = 20 by omega, show 16 + 5 * m = 21 by omega, show 17 + 5 * m = 22 by omega, show 18 + 5 * m = 23 by omega, show 19 + 5 * m = 24 by omega]; exact xk), (fun a a0 a1 a2 => by show (ov_up h22 35 m 1) a = _; rw [ov_up_ne (by omega)]; exact ov_ff_k I23k (Or.inl (by omega)) ((by decide +kernel : ∀ n, n < 36 → (n < 20 ∨ 25 ≤ n) → Nat.testBit 1237940038997149967434383359 n = true) a.toNat (by omega) (by omega)))⟩⟩)⟩
          · have re5 : h 14 m = 25 := by omega
            rw [re5]
            show ov_R u d ov_m196 61 [(0, ov_r 0), (1, ov_i m), (2, ov_i b)] [ov_r 25] z h (P_OF_mark_0_t F z h m b)
            refine ov_blk (ls2 := [(0, ov_r 0), (1, ov_i m), (2, ov_i b)]) (st2 := [ov_r 0, ov_r 25]) (pc2 := 62) b_196_61_1 rfl rfl ?_
            refine ov_getf (v := ov_r 4) d_196_62 fl_OF_28 (zb_0 I) (zs_0 I) (congrArg ov_r (rg_0_2 I)) ?_
            refine ov_cV (as := [ov_r 4]) (st := []) (d2 := d - 1) d_196_65 lk_OF_322 rfl (Nat.le_of_ble_eq_true rfl) (c := 7) (zb_25 I) (zs_25 I) ⟨by decide, rfl⟩ (by omega) (c_State_copy_25_4_t (d - 1) (by omega) U (ov_I_ff (M := 1237940038997149966426701823) I) (ov_kw_ff (ov_kws hw (by decide +kernel)) (by decide +kernel))) ?_
            rintro _ z35 h36 ⟨rfl, I37, f34, xk⟩
            have I37k := I37
            have I37 := ov_I_fr I I37k
            have er38 : h36 4 = h 4 := ov_ff_k I37k (Or.inl (by decide)) (by decide +kernel)
            have er39 : h36 5 = h 5 := ov_ff_k I37k (Or.inl (by decide)) (by decide +kernel)
            have er40 : h36 6 = h 6 := ov_ff_k I37k (Or.inl (by decide)) (by decide +kernel)
            have er41 : h36 7 = h 7 := ov_ff_k I37k (Or.inl (by decide)) (by decide +kernel)
            have er42 : h36 8 = h 8 := ov_ff_k I37k (Or.inl (by decide)) (by decide +kernel)
            have er43 : h36 9 = h 9 := ov_ff_k I37k (Or.inl (by decide)) (by decide +kernel)
            have ek44 : h36 9 1 = (h 9 1) := congrFun er43 1
            have er45 : h36 35 = h 35 := ov_ff_k I37k (Or.inl (by decide)) (by decide +kernel)
            show ov_R u d ov_m196 68 [(0, ov_r 0), (1, ov_i m), (2, ov_i b)] [] z35 h36 (P_OF_mark_0_t F z h m b)
            have f46 : (h36 36 7) = (h 36 7) ∧ (h36 1 1) = (h 1 1) ∧ (h36 90 2) = (h 90 2) ∧ (h36 0 10) = (h 0 10) ∧ (h36 0 11) = (h 0 11) ∧ (h36 0 12) = (h 0 12) ∧ (h36 0 13) = (h 0 13) ∧ (h36 3 1) = (h 3 1) ∧ (h36 36 8) = (h 36 8) ∧ (h36 46 3) = (h 46 3) ∧ (h36 46 4) = (h 46 4) ∧ (h36 49 4) = (h 49 4) ∧ (h36 49 5) = (h 49 5) ∧ (h36 64 0) = (h 64 0) ∧ (h36 76 0) = (h 76 0) := f34
            clear f34
            refine ov_blk (ls2 := [(0, ov_r 0), (1, ov_i m), (2, ov_i b)]) (st2 := [ov_r 0]) (pc2 := 69) b_196_68_1 rfl rfl ?_
            refine ov_getf (v := ov_r 35) d_196_69 fl_OF_43 (zb_0 I37) (zs_0 I37) (congrArg ov_r (rg_0_5 I37)) ?_
            refine ov_blk (ls2 := [(0, ov_r 0), (1, ov_i m), (2, ov_i b)]) (st2 := [ov_i 1, ov_i m, ov_r 35]) (pc2 := 74) b_196_72_2 rfl rfl ?_
            refine ov_zast d_196_74 (zb_35 I37) (zs_35 I37) (by omega) (by omega) ?_
            have I47 := ua_35 (k := m) (x := 1) I37 (by omega) (hw 35 (by decide +kernel))
            refine ov_blk (ls2 := [(0, ov_r 0), (1, ov_i m), (2, ov_i b)]) (st2 := [ov_i 1]) (pc2 := 76) b_196_75_1 rfl rfl ?_
            exact ov_retz (st := []) d_196_76 rfl (by omega) ⟨_, rfl, I47, (by show (1 = 0 ∨ 1 = 1) ∧ (h36 36 7) = (h 36 7) ∧ (h36 1 1) = (h 1 1) ∧ (h36 90 2) = (h 90 2) ∧ (h36 0 10) = (h 0 10) ∧ (h36 0 11) = (h 0 11) ∧ (h36 0 12) = (h 0 12) ∧ (h36 0 13) = (h 0 13) ∧ (h36 3 1) = (h 3 1) ∧ (h36 36 8) = (h 36 8) ∧ (h36 46 3) = (h 46 3) ∧ (h36 46 4) = (h 46 4) ∧ (h36 49 4) = (h 49 4) ∧ (h36 49 5) = (h 49 5) ∧ (h36 64 0) = (h 64 0) ∧ (h36 76 0) = (h 76 0); omega), (Or.inr ⟨rfl, (by omega), Or.inl ⟨(by omega), (by show (ov_up h36 35 m 1) 35 = _; rw [ov_up_row]; rw [er45]), (by rw [show 15 + 5 * m = 25 by omega, show 16 + 5 * m = 26 by omega, show 17 + 5 * m = 27 by omega, show 18 + 5 * m = 28 by omega, show 19 + 5 * m = 29 by omega]; exact xk), (fun a a0 a1 a2 => by show (ov_up h36 35 m 1) a = _; rw [ov_up_ne (by omega)]; exact ov_ff_k I37k (Or.inl (by omega)) ((by decide +kernel : ∀ n, n < 36 → (n < 25 ∨ 30 ≤ n) → Nat.testBit 1237940038997149966426701823 n = true) a.toNat (by omega) (by omega)))⟩⟩)⟩
          · have re5 : h 14 m = 30 := by omega
            rw [re5]
            show ov_R u d ov_m196 61 [(0, ov_r 0), (1, ov_i m), (2, ov_i b)] [ov_r 30] z h (P_OF_mark_0_t F z h m b)
            refine ov_blk (ls2 := [(0, ov_r 0), (1, ov_i m), (2, ov_i b)]) (st2 := [ov_r 0, ov_r 30]) (pc2 := 62) b_196_61_1 rfl rfl ?_
            refine ov_getf (v := ov_r 4) d_196_62 fl_OF_28 (zb_0 I) (zs_0 I) (congrArg ov_r (rg_0_2 I)) ?_
            refine ov_cV (as := [ov_r 4]) (st := []) (d2 := d - 1) d_196_65 lk_OF_322 rfl (Nat.le_of_ble_eq_true rfl) (c := 7) (zb_30 I) (zs_30 I) ⟨by decide, rfl⟩ (by omega) (c_State_copy_30_4_t (d - 1) (by omega) U (ov_I_ff (M := 1237940038997149934180892671) I) (ov_kw_ff (ov_kws hw (by decide +kernel)) (by decide +kernel))) ?_
            rintro _ z49 h50 ⟨rfl, I51, f48, xk⟩
            have I51k := I51
            have I51 := ov_I_fr I I51k
            have er52 : h50 4 = h 4 := ov_ff_k I51k (Or.inl (by decide)) (by decide +kernel)
            have er53 : h50 5 = h 5 := ov_ff_k I51k (Or.inl (by decide)) (by decide +kernel)
            have er54 : h50 6 = h 6 := ov_ff_k I51k (Or.inl (by decide)) (by decide +kernel)
            have er55 : h50 7 = h 7 := ov_ff_k I51k (Or.inl (by decide)) (by decide +kernel)
            have er56 : h50 8 = h 8 := ov_ff_k I51k (Or.inl (by decide)) (by decide +kernel)
            have er57 : h50 9 = h 9 := ov_ff_k I51k (Or.inl (by decide)) (by decide +kernel)
            have ek58 : h50 9 1 = (h 9 1) := congrFun er57 1
            have er59 : h50 35 = h 35 := ov_ff_k I51k (Or.inl (by decide)) (by decide +kernel)
            show ov_R u d ov_m196 68 [(0, ov_r 0), (1, ov_i m), (2, ov_i b)] [] z49 h50 (P_OF_mark_0_t F z h m b)
            have f60 : (h50 36 7) = (h 36 7) ∧ (h50 1 1) = (h 1 1) ∧ (h50 90 2) = (h 90 2) ∧ (h50 0 10) = (h 0 10) ∧ (h50 0 11) = (h 0 11) ∧ (h50 0 12) = (h 0 12) ∧ (h50 0 13) = (h 0 13) ∧ (h50 3 1) = (h 3 1) ∧ (h50 36 8) = (h 36 8) ∧ (h50 46 3) = (h 46 3) ∧ (h50 46 4) = (h 46 4) ∧ (h50 49 4) = (h 49 4) ∧ (h50 49 5) = (h 49 5) ∧ (h50 64 0) = (h 64 0) ∧ (h50 76 0) = (h 76 0) := f48
            clear f48
            refine ov_blk (ls2 := [(0, ov_r 0), (1, ov_i m), (2, ov_i b)]) (st2 := [ov_r 0]) (pc2 := 69) b_196_68_1 rfl rfl ?_
            refine ov_getf (v := ov_r 35) d_196_69 fl_OF_43 (zb_0 I51) (zs_0 I51) (congrArg ov_r (rg_0_5 I51)) ?_
            refine ov_blk (ls2 := [(0, ov_r 0), (1, ov_i m), (2, ov_i b)]) (st2 := [ov_i 1, ov_i m, ov_r 35]) (pc2 := 74) b_196_72_2 rfl rfl ?_
            refine ov_zast d_196_74 (zb_35 I51) (zs_35 I51) (by omega) (by omega) ?_
            have I61 := ua_35 (k := m) (x := 1) I51 (by omega) (hw 35 (by decide +kernel))
            refine ov_blk (ls2 := [(0, ov_r 0), (1, ov_i m), (2, ov_i b)]) (st2 := [ov_i 1]) (pc2 := 76) b_196_75_1 rfl rfl ?_
            exact ov_retz (st := []) d_196_76 rfl (by omega) ⟨_, rfl, I61, (by show (1 = 0 ∨ 1 = 1) ∧ (h50 36 7) = (h 36 7) ∧ (h50 1 1) = (h 1 1) ∧ (h50 90 2) = (h 90 2) ∧ (h50 0 10) = (h 0 10) ∧ (h50 0 11) = (h 0 11) ∧ (h50 0 12) = (h 0 12) ∧ (h50 0 13) = (h 0 13) ∧ (h50 3 1) = (h 3 1) ∧ (h50 36 8) = (h 36 8) ∧ (h50 46 3) = (h 46 3) ∧ (h50 46 4) = (h 46 4) ∧ (h50 49 4) = (h 49 4) ∧ (h50 49 5) = (h 49 5) ∧ (h50 64 0) = (h 64 0) ∧ (h50 76 0) = (h 76 0); omega), (Or.inr ⟨rfl, (by omega), Or.inl ⟨(by omega), (by show (ov_up h50 35 m 1) 35 = _; rw [ov_up_row]; rw [er59]), (by rw [show 15 + 5 * m = 30 by omega, show 16 + 5 * m = 31 by omega, show 17 + 5 * m = 32 by omega, show 18 + 5 * m = 33 by omega, show 19 + 5 * m = 34 by omega]; exact xk), (fun a a0 a1 a2 => by show (ov_up h50 35 m 1) a = _; rw [ov_up_ne (by omega)]; exact ov_ff_k I51k (Or.inl (by omega)) ((by decide +kernel : ∀ n, n < 36 → (n < 30 ∨ 35 ≤ n) → Nat.testBit 1237940038997149934180892671 n = true) a.toNat (by omega) (by omega)))⟩⟩)⟩
        · skip
          refine ov_blk (ls2 := [(0, ov_r 0), (1, ov_i m), (2, ov_i b)]) (st2 := [ov_r 0]) (pc2 := 33) b_196_32_1 rfl rfl ?_
          refine ov_getf (v := ov_r 4) d_196_33 fl_OF_28 (zb_0 I) (zs_0 I) (congrArg ov_r (rg_0_2 I)) ?_
          refine ov_blk (ls2 := [(0, ov_r 0), (1, ov_i m), (2, ov_i b)]) (st2 := [ov_r 0, ov_r 4]) (pc2 := 37) b_196_36_1 rfl rfl ?_
          refine ov_getf (v := ov_r 14) d_196_37 fl_OF_39 (zb_0 I) (zs_0 I) (congrArg ov_r (rg_0_4 I)) ?_
          refine ov_blk (ls2 := [(0, ov_r 0), (1, ov_i m), (2, ov_i b)]) (st2 := [ov_i m, ov_r 14, ov_r 4]) (pc2 := 41) b_196_40_1 rfl rfl ?_
          refine ov_aald d_196_41 (zb_14 I) (zs_14 I) (by omega) ?_
          have me62 : m = 0 ∨ m = 1 ∨ m = 2 ∨ m = 3 := by omega
          have ne62 := ra_14 I m
          rcases me62 with e62 | e62 | e62 | e62
          · have re62 : h 14 m = 15 := by omega
            rw [re62]
            show ov_R u d ov_m196 42 [(0, ov_r 0), (1, ov_i m), (2, ov_i b)] [ov_r 15, ov_r 4] z h (P_OF_mark_0_t F z h m b)
            refine ov_cV (as := [ov_r 15]) (st := []) (d2 := d - 1) d_196_42 lk_OF_322 rfl (Nat.le_of_ble_eq_true rfl) (c := 7) (zb_4 I) (zs_4 I) ⟨by decide, rfl⟩ (by omega) (c_State_copy_4_15_t (d - 1) (by omega) U (ov_I_ff (M := 1237940038997149967466888719) I) (ov_kw_ff (ov_kws hw (by decide +kernel)) (by decide +kernel))) ?_
            rintro _ z64 h65 ⟨rfl, I66, f63, xk⟩
            have I66k := I66
            have I66 := ov_I_fr I I66k
            have er67 : h65 9 = h 9 := ov_ff_k I66k (Or.inl (by decide)) (by decide +kernel)
            have ek68 : h65 9 1 = (h 9 1) := congrFun er67 1
            have er69 : h65 35 = h 35 := ov_ff_k I66k (Or.inl (by decide)) (by decide +kernel)
            show ov_R u d ov_m196 45 [(0, ov_r 0), (1, ov_i m), (2, ov_i b)] [] z64 h65 (P_OF_mark_0_t F z h m b)
            have f70 : (h65 36 7) = (h 36 7) ∧ (h65 1 1) = (h 1 1) ∧ (h65 90 2) = (h 90 2) ∧ (h65 0 10) = (h 0 10) ∧ (h65 0 11) = (h 0 11) ∧ (h65 0 12) = (h 0 12) ∧ (h65 0 13) = (h 0 13) ∧ (h65 3 1) = (h 3 1) ∧ (h65 36 8) = (h 36 8) ∧ (h65 46 3) = (h 46 3) ∧ (h65 46 4) = (h 46 4) ∧ (h65 49 4) = (h 49 4) ∧ (h65 49 5) = (h 49 5) ∧ (h65 64 0) = (h 64 0) ∧ (h65 76 0) = (h 76 0) := f63
            clear f63
            refine ov_blk (ls2 := [(0, ov_r 0), (1, ov_i m), (2, ov_i b)]) (st2 := [ov_r 0]) (pc2 := 46) b_196_45_1 rfl rfl ?_
            refine ov_getf (v := ov_r 9) d_196_46 fl_OF_35 (zb_0 I66) (zs_0 I66) (congrArg ov_r (rg_0_3 I66)) ?_
            refine ov_cV (as := []) (st := []) (d2 := d - 1) d_196_49 lk_OF_115 rfl (Nat.le_of_ble_eq_true rfl) (c := 3) (zb_9 I66) (zs_9 I66) ⟨by decide, rfl⟩ (by omega) (c_History_clear_9_u (d - 1) (by omega) U (ov_I_ff (M := 1237940038997149967466888703) I66) (ov_kw_ff (ov_kws hw (by decide +kernel)) (by decide +kernel))) ?_
            rintro _ z72 h73 ⟨rfl, I74, f71⟩
            have I74k := I74
            have I74 := ov_I_fr I66 I74k
            have er75 : h73 4 = h65 4 := ov_ff_k I74k (Or.inl (by decide)) (by decide +kernel)
            have er76 : h73 5 = h65 5 := ov_ff_k I74k (Or.inl (by decide)) (by decide +kernel)
            have er77 : h73 6 = h65 6 := ov_ff_k I74k (Or.inl (by decide)) (by decide +kernel)
            have er78 : h73 7 = h65 7 := ov_ff_k I74k (Or.inl (by decide)) (by decide +kernel)
            have er79 : h73 8 = h65 8 := ov_ff_k I74k (Or.inl (by decide)) (by decide +kernel)
            have er80 : h73 35 = h65 35 := ov_ff_k I74k (Or.inl (by decide)) (by decide +kernel)
            show ov_R u d ov_m196 52 [(0, ov_r 0), (1, ov_i m), (2, ov_i b)] [] z72 h73 (P_OF_mark_0_t F z h m b)
            have f81 : (h73 9 0) = 0 ∧ (h73 9 1) = (h65 9 1) ∧ (h73 36 7) = (h65 36 7) ∧ (h73 1 1) = (h65 1 1) ∧ (h73 90 2) = (h65 90 2) ∧ (h73 0 10) = (h65 0 10) ∧ (h73 0 11) = (h65 0 11) ∧ (h73 0 12) = (h65 0 12) ∧ (h73 0 13) = (h65 0 13) ∧ (h73 3 1) = (h65 3 1) ∧ (h73 36 8) = (h65 36 8) ∧ (h73 46 3) = (h65 46 3) ∧ (h73 46 4) = (h65 46 4) ∧ (h73 49 4) = (h65 49 4) ∧ (h73 49 5) = (h65 49 5) ∧ (h73 64 0) = (h65 64 0) ∧ (h73 76 0) = (h65 76 0) := f71
            clear f71
            refine ov_goto (tgt := 75) d_196_52 (by decide) ?_
            refine ov_blk (ls2 := [(0, ov_r 0), (1, ov_i m), (2, ov_i b)]) (st2 := [ov_i 1]) (pc2 := 76) b_196_75_1 rfl rfl ?_
            exact ov_retz (st := []) d_196_76 rfl (by omega) ⟨_, rfl, I74, (by show (1 = 0 ∨ 1 = 1) ∧ (h73 36 7) = (h 36 7) ∧ (h73 1 1) = (h 1 1) ∧ (h73 90 2) = (h 90 2) ∧ (h73 0 10) = (h 0 10) ∧ (h73 0 11) = (h 0 11) ∧ (h73 0 12) = (h 0 12) ∧ (h73 0 13) = (h 0 13) ∧ (h73 3 1) = (h 3 1) ∧ (h73 36 8) = (h 36 8) ∧ (h73 46 3) = (h 46 3) ∧ (h73 46 4) = (h 46 4) ∧ (h73 49 4) = (h 49 4) ∧ (h73 49 5) = (h 49 5) ∧ (h73 64 0) = (h 64 0) ∧ (h73 76 0) = (h 76 0); omega), (Or.inr ⟨rfl, (by omega), Or.inr ⟨(by omega), (by rw [show 15 + 5 * m = 15 by omega, show 16 + 5 * m = 16 by omega, show 17 + 5 * m = 17 by omega, show 18 + 5 * m = 18 by omega, show 19 + 5 * m = 19 by omega]; exact st_C_rw xk er75 er76 er77 er78 er79), (by omega), (by omega), (fun a a0 a1 => (ov_ff_k I74k (Or.inl (by omega)) ((by decide +kernel : ∀ n, n < 36 → 15 ≤ n → Nat.testBit 1237940038997149967466888703 n = true) a.toNat (by omega) (by omega))).trans (ov_ff_k I66k (Or.inl (by omega)) ((by decide +kernel : ∀ n, n < 36 → 15 ≤ n → Nat.testBit 1237940038997149967466888719 n = true) a.toNat (by omega) (by omega))))⟩⟩)⟩
          · have re62 : h 14 m = 20 := by omega
            rw [re62]
            show ov_R u d ov_m196 42 [(0, ov_r 0), (1, ov_i m), (2, ov_i b)] [ov_r 20, ov_r 4] z h (P_OF_mark_0_t F z h m b)
            refine ov_cV (as := [ov_r 20]) (st := []) (d2 := d - 1) d_196_42 lk_OF_322 rfl (Nat.le_of_ble_eq_true rfl) (c := 7) (zb_4 I) (zs_4 I) ⟨by decide, rfl⟩ (by omega) (c_State_copy_4_20_t (d - 1) (by omega) U (ov_I_ff (M := 1237940038997149967466888719) I) (ov_kw_ff (ov_kws hw (by decide +kernel)) (by decide +kernel))) ?_
            rintro _ z83 h84 ⟨rfl, I85, f82, xk⟩
            have I85k := I85
            have I85 := ov_I_fr I I85k
            have er86 : h84 9 = h 9 := ov_ff_k I85k (Or.inl (by decide)) (by decide +kernel)
            have ek87 : h84 9 1 = (h 9 1) := congrFun er86 1
            have er88 : h84 35 = h 35 := ov_ff_k I85k (Or.inl (by decide)) (by decide +kernel)
            show ov_R u d ov_m196 45 [(0, ov_r 0), (1, ov_i m), (2, ov_i b)] [] z83 h84 (P_OF_mark_0_t F z h m b)
            have f89 : (h84 36 7) = (h 36 7) ∧ (h84 1 1) = (h 1 1) ∧ (h84 90 2) = (h 90 2) ∧ (h84 0 10) = (h 0 10) ∧ (h84 0 11) = (h 0 11) ∧ (h84 0 12) = (h 0 12) ∧ (h84 0 13) = (h 0 13) ∧ (h84 3 1) = (h 3 1) ∧ (h84 36 8) = (h 36 8) ∧ (h84 46 3) = (h 46 3) ∧ (h84 46 4) = (h 46 4) ∧ (h84 49 4) = (h 49 4) ∧ (h84 49 5) = (h 49 5) ∧ (h84 64 0) = (h 64 0) ∧ (h84 76 0) = (h 76 0) := f82
            clear f82
            refine ov_blk (ls2 := [(0, ov_r 0), (1, ov_i m), (2, ov_i b)]) (st2 := [ov_r 0]) (pc2 := 46) b_196_45_1 rfl rfl ?_
            refine ov_getf (v := ov_r 9) d_196_46 fl_OF_35 (zb_0 I85) (zs_0 I85) (congrArg ov_r (rg_0_3 I85)) ?_
            refine ov_cV (as := []) (st := []) (d2 := d - 1) d_196_49 lk_OF_115 rfl (Nat.le_of_ble_eq_true rfl) (c := 3) (zb_9 I85) (zs_9 I85) ⟨by decide, rfl⟩ (by omega) (c_History_clear_9_u (d - 1) (by omega) U (ov_I_ff (M := 1237940038997149967466888703) I85) (ov_kw_ff (ov_kws hw (by decide +kernel)) (by decide +kernel))) ?_
            rintro _ z91 h92 ⟨rfl, I93, f90⟩
            have I93k := I93
            have I93 := ov_I_fr I85 I93k
            have er94 : h92 4 = h84 4 := ov_ff_k I93k (Or.inl (by decide)) (by decide +kernel)
            have er95 : h92 5 = h84 5 := ov_ff_k I93k (Or.inl (by decide)) (by decide +kernel)
            have er96 : h92 6 = h84 6 := ov_ff_k I93k (Or.inl (by decide)) (by decide +kernel)
            have er97 : h92 7 = h84 7 := ov_ff_k I93k (Or.inl (by decide)) (by decide +kernel)
            have er98 : h92 8 = h84 8 := ov_ff_k I93k (Or.inl (by decide)) (by decide +kernel)
            have er99 : h92 35 = h84 35 := ov_ff_k I93k (Or.inl (by decide)) (by decide +kernel)
            show ov_R u d ov_m196 52 [(0, ov_r 0), (1, ov_i m), (2, ov_i b)] [] z91 h92 (P_OF_mark_0_t F z h m b)
            have f100 : (h92 9 0) = 0 ∧ (h92 9 1) = (h84 9 1) ∧ (h92 36 7) = (h84 36 7) ∧ (h92 1 1) = (h84 1 1) ∧ (h92 90 2) = (h84 90 2) ∧ (h92 0 10) = (h84 0 10) ∧ (h92 0 11) = (h84 0 11) ∧ (h92 0 12) = (h84 0 12) ∧ (h92 0 13) = (h84 0 13) ∧ (h92 3 1) = (h84 3 1) ∧ (h92 36 8) = (h84 36 8) ∧ (h92 46 3) = (h84 46 3) ∧ (h92 46 4) = (h84 46 4) ∧ (h92 49 4) = (h84 49 4) ∧ (h92 49 5) = (h84 49 5) ∧ (h92 64 0) = (h84 64 0) ∧ (h92 76 0) = (h84 76 0) := f90
            clear f90
            refine ov_goto (tgt := 75) d_196_52 (by decide) ?_
            refine ov_blk (ls2 := [(0, ov_r 0), (1, ov_i m), (2, ov_i b)]) (st2 := [ov_i 1]) (pc2 := 76) b_196_75_1 rfl rfl ?_
            exact ov_retz (st := []) d_196_76 rfl (by omega) ⟨_, rfl, I93, (by show (1 = 0 ∨ 1 = 1) ∧ (h92 36 7) = (h 36 7) ∧ (h92 1 1) = (h 1 1) ∧ (h92 90 2) = (h 90 2) ∧ (h92 0 10) = (h 0 10) ∧ (h92 0 11) = (h 0 11) ∧ (h92 0 12) = (h 0 12) ∧ (h92 0 13) = (h 0 13) ∧ (h92 3 1) = (h 3 1) ∧ (h92 36 8) = (h 36 8) ∧ (h92 46 3) = (h 46 3) ∧ (h92 46 4) = (h 46 4) ∧ (h92 49 4) = (h 49 4) ∧ (h92 49 5) = (h 49 5) ∧ (h92 64 0) = (h 64 0) ∧ (h92 76 0) = (h 76 0); omega), (Or.inr ⟨rfl, (by omega), Or.inr ⟨(by omega), (by rw [show 15 + 5 * m = 20 by omega, show 16 + 5 * m = 21 by omega, show 17 + 5 * m = 22 by omega, show 18 + 5 * m = 23 by omega, show 19 + 5 * m = 24 by omega]; exact st_C_rw xk er94 er95 er96 er97 er98), (by omega), (by omega), (fun a a0 a1 => (ov_ff_k I93k (Or.inl (by omega)) ((by decide +kernel : ∀ n, n < 36 → 15 ≤ n → Nat.testBit 1237940038997149967466888703 n = true) a.toNat (by omega) (by omega))).trans (ov_ff_k I85k (Or.inl (by omega)) ((by decide +kernel : ∀ n, n < 36 → 15 ≤ n → Nat.testBit 1237940038997149967466888719 n = true) a.toNat (by omega) (by omega))))⟩⟩)⟩
          · have re62 : h 14 m = 25 := by omega
            rw [re62]
            show ov_R u d ov_m196 42 [(0, ov_r 0), (1, ov_i m), (2, ov_i b)] [ov_r 25, ov_r 4] z h (P_OF_mark_0_t F z h m b)
            refine ov_cV (as := [ov_r 25]) (st := []) (d2 := d - 1) d_196_42 lk_OF_322 rfl (Nat.le_of_ble_eq_true rfl) (c := 7) (zb_4 I) (zs_4 I) ⟨by decide, rfl⟩ (by omega) (c_State_copy_4_25_t (d - 1) (by omega) U (ov_I_ff (M := 1237940038997149967466888719) I) (ov_kw_ff (ov_kws hw (by decide +kernel)) (by decide +kernel))) ?_
            rintro _ z102 h103 ⟨rfl, I104, f101, xk⟩
            have I104k := I104
            have I104 := ov_I_fr I I104k
            have er105 : h103 9 = h 9 := ov_ff_k I104k (Or.inl (by decide)) (by decide +kernel)
            have ek106 : h103 9 1 = (h 9 1) := congrFun er105 1
            have er107 : h103 35 = h 35 := ov_ff_k I104k (Or.inl (by decide)) (by decide +kernel)
            show ov_R u d ov_m196 45 [(0, ov_r 0), (1, ov_i m), (2, ov_i b)] [] z102 h103 (P_OF_mark_0_t F z h m b)
            have f108 : (h103 36 7) = (h 36 7) ∧ (h103 1 1) = (h 1 1) ∧ (h103 90 2) = (h 90 2) ∧ (h103 0 10) = (h 0 10) ∧ (h103 0 11) = (h 0 11) ∧ (h103 0 12) = (h 0 12) ∧ (h103 0 13) = (h 0 13) ∧ (h103 3 1) = (h 3 1) ∧ (h103 36 8) = (h 36 8) ∧ (h103 46 3) = (h 46 3) ∧ (h103 46 4) = (h 46 4) ∧ (h103 49 4) = (h 49 4) ∧ (h103 49 5) = (h 49 5) ∧ (h103 64 0) = (h 64 0) ∧ (h103 76 0) = (h 76 0) := f101
            clear f101
            refine ov_blk (ls2 := [(0, ov_r 0), (1, ov_i m), (2, ov_i b)]) (st2 := [ov_r 0]) (pc2 := 46) b_196_45_1 rfl rfl ?_
            refine ov_getf (v := ov_r 9) d_196_46 fl_OF_35 (zb_0 I104) (zs_0 I104) (congrArg ov_r (rg_0_3 I104)) ?_
            refine ov_cV (as := []) (st := []) (d2 := d - 1) d_196_49 lk_OF_115 rfl (Nat.le_of_ble_eq_true rfl) (c := 3) (zb_9 I104) (zs_9 I104) ⟨by decide, rfl⟩ (by omega) (c_History_clear_9_u (d - 1) (by omega) U (ov_I_ff (M := 1237940038997149967466888703) I104) (ov_kw_ff (ov_kws hw (by decide +kernel)) (by decide +kernel))) ?_
            rintro _ z110 h111 ⟨rfl, I112, f109⟩
            have I112k := I112
            have I112 := ov_I_fr I104 I112k
            have er113 : h111 4 = h103 4 := ov_ff_k I112k (Or.inl (by decide)) (by decide +kernel)
            have er114 : h111 5 = h103 5 := ov_ff_k I112k (Or.inl (by decide)) (by decide +kernel)
            have er115 : h111 6 = h103 6 := ov_ff_k I112k (Or.inl (by decide)) (by decide +kernel)
            have er116 : h111 7 = h103 7 := ov_ff_k I112k (Or.inl (by decide)) (by decide +kernel)
            have er117 : h111 8 = h103 8 := ov_ff_k I112k (Or.inl (by decide)) (by decide +kernel)
            have er118 : h111 35 = h103 35 := ov_ff_k I112k (Or.inl (by decide)) (by decide +kernel)
            show ov_R u d ov_m196 52 [(0, ov_r 0), (1, ov_i m), (2, ov_i b)] [] z110 h111 (P_OF_mark_0_t F z h m b)
            have f119 : (h111 9 0) = 0 ∧ (h111 9 1) = (h103 9 1) ∧ (h111 36 7) = (h103 36 7) ∧ (h111 1 1) = (h103 1 1) ∧ (h111 90 2) = (h103 90 2) ∧ (h111 0 10) = (h103 0 10) ∧ (h111 0 11) = (h103 0 11) ∧ (h111 0 12) = (h103 0 12) ∧ (h111 0 13) = (h103 0 13) ∧ (h111 3 1) = (h103 3 1) ∧ (h111 36 8) = (h103 36 8) ∧ (h111 46 3) = (h103 46 3) ∧ (h111 46 4) = (h103 46 4) ∧ (h111 49 4) = (h103 49 4) ∧ (h111 49 5) = (h103 49 5) ∧ (h111 64 0) = (h103 64 0) ∧ (h111 76 0) = (h103 76 0) := f109
            clear f109
            refine ov_goto (tgt := 75) d_196_52 (by decide) ?_
            refine ov_blk (ls2 := [(0, ov_r 0), (1, ov_i m), (2, ov_i b)]) (st2 := [ov_i 1]) (pc2 := 76) b_196_75_1 rfl rfl ?_
            exact ov_retz (st := []) d_196_76 rfl (by omega) ⟨_, rfl, I112, (by show (1 = 0 ∨ 1 = 1) ∧ (h111 36 7) = (h 36 7) ∧ (h111 1 1) = (h 1 1) ∧ (h111 90 2) = (h 90 2) ∧ (h111 0 10) = (h 0 10) ∧ (h111 0 11) = (h 0 11) ∧ (h111 0 12) = (h 0 12) ∧ (h111 0 13) = (h 0 13) ∧ (h111 3 1) = (h 3 1) ∧ (h111 36 8) = (h 36 8) ∧ (h111 46 3) = (h 46 3) ∧ (h111 46 4) = (h 46 4) ∧ (h111 49 4) = (h 49 4) ∧ (h111 49 5) = (h 49 5) ∧ (h111 64 0) = (h 64 0) ∧ (h111 76 0) = (h 76 0); omega), (Or.inr ⟨rfl, (by omega), Or.inr ⟨(by omega), (by rw [show 15 + 5 * m = 25 by omega, show 16 + 5 * m = 26 by omega, show 17 + 5 * m = 27 by omega, show 18 + 5 * m = 28 by omega, show 19 + 5 * m = 29 by omega]; exact st_C_rw xk er113 er114 er115 er116 er117), (by omega), (by omega), (fun a a0 a1 => (ov_ff_k I112k (Or.inl (by omega)) ((by decide +kernel : ∀ n, n < 36 → 15 ≤ n → Nat.testBit 1237940038997149967466888703 n = true) a.toNat (by omega) (by omega))).trans (ov_ff_k I104k (Or.inl (by omega)) ((by decide +kernel : ∀ n, n < 36 → 15 ≤ n → Nat.testBit 1237940038997149967466888719 n = true) a.toNat (by omega) (by omega))))⟩⟩)⟩
          · have re62 : h 14 m = 30 := by omega
            rw [re62]
            show ov_R u d ov_m196 42 [(0, ov_r 0), (1, ov_i m), (2, ov_i b)] [ov_r 30, ov_r 4] z h (P_OF_mark_0_t F z h m b)
            refine ov_cV (as := [ov_r 30]) (st := []) (d2 := d - 1) d_196_42 lk_OF_322 rfl (Nat.le_of_ble_eq_true rfl) (c := 7) (zb_4 I) (zs_4 I) ⟨by decide, rfl⟩ (by omega) (c_State_copy_4_30_t (d - 1) (by omega) U (ov_I_ff (M := 1237940038997149967466888719) I) (ov_kw_ff (ov_kws hw (by decide +kernel)) (by decide +kernel))) ?_
            rintro _ z121 h122 ⟨rfl, I123, f120, xk⟩
            have I123k := I123
            have I123 := ov_I_fr I I123k
            have er124 : h122 9 = h 9 := ov_ff_k I123k (Or.inl (by decide)) (by decide +kernel)
            have ek125 : h122 9 1 = (h 9 1) := congrFun er124 1
            have er126 : h122 35 = h 35 := ov_ff_k I123k (Or.inl (by decide)) (by decide +kernel)
            show ov_R u d ov_m196 45 [(0, ov_r 0), (1, ov_i m), (2, ov_i b)] [] z121 h122 (P_OF_mark_0_t F z h m b)
            have f127 : (h122 36 7) = (h 36 7) ∧ (h122 1 1) = (h 1 1) ∧ (h122 90 2) = (h 90 2) ∧ (h122 0 10) = (h 0 10) ∧ (h122 0 11) = (h 0 11) ∧ (h122 0 12) = (h 0 12) ∧ (h122 0 13) = (h 0 13) ∧ (h122 3 1) = (h 3 1) ∧ (h122 36 8) = (h 36 8) ∧ (h122 46 3) = (h 46 3) ∧ (h122 46 4) = (h 46 4) ∧ (h122 49 4) = (h 49 4) ∧ (h122 49 5) = (h 49 5) ∧ (h122 64 0) = (h 64 0) ∧ (h122 76 0) = (h 76 0) := f120
            clear f120
            refine ov_blk (ls2 := [(0, ov_r 0), (1, ov_i m), (2, ov_i b)]) (st2 := [ov_r 0]) (pc2 := 46) b_196_45_1 rfl rfl ?_
            refine ov_getf (v := ov_r 9) d_196_46 fl_OF_35 (zb_0 I123) (zs_0 I123) (congrArg ov_r (rg_0_3 I123)) ?_
            refine ov_cV (as := []) (st := []) (d2 := d - 1) d_196_49 lk_OF_115 rfl (Nat.le_of_ble_eq_true rfl) (c := 3) (zb_9 I123) (zs_9 I123) ⟨by decide, rfl⟩ (by omega) (c_History_clear_9_u (d - 1) (by omega) U (ov_I_ff (M := 1237940038997149967466888703) I123) (ov_kw_ff (ov_kws hw (by decide +kernel)) (by decide +kernel))) ?_
            rintro _ z129 h130 ⟨rfl, I131, f128⟩
            have I131k := I131
            have I131 := ov_I_fr I123 I131k
            have er132 : h130 4 = h122 4 := ov_ff_k I131k (Or.inl (by decide)) (by decide +kernel)
            have er133 : h130 5 = h122 5 := ov_ff_k I131k (Or.inl (by decide)) (by decide +kernel)
            have er134 : h130 6 = h122 6 := ov_ff_k I131k (Or.inl (by decide)) (by decide +kernel)
            have er135 : h130 7 = h122 7 := ov_ff_k I131k (Or.inl (by decide)) (by decide +kernel)
            have er136 : h130 8 = h122 8 := ov_ff_k I131k (Or.inl (by decide)) (by decide +kernel)
            have er137 : h130 35 = h122 35 := ov_ff_k I131k (Or.inl (by decide)) (by decide +kernel)
            show ov_R u d ov_m196 52 [(0, ov_r 0), (1, ov_i m), (2, ov_i b)] [] z129 h130 (P_OF_mark_0_t F z h m b)
            have f138 : (h130 9 0) = 0 ∧ (h130 9 1) = (h122 9 1) ∧ (h130 36 7) = (h122 36 7) ∧ (h130 1 1) = (h122 1 1) ∧ (h130 90 2) = (h122 90 2) ∧ (h130 0 10) = (h122 0 10) ∧ (h130 0 11) = (h122 0 11) ∧ (h130 0 12) = (h122 0 12) ∧ (h130 0 13) = (h122 0 13) ∧ (h130 3 1) = (h122 3 1) ∧ (h130 36 8) = (h122 36 8) ∧ (h130 46 3) = (h122 46 3) ∧ (h130 46 4) = (h122 46 4) ∧ (h130 49 4) = (h122 49 4) ∧ (h130 49 5) = (h122 49 5) ∧ (h130 64 0) = (h122 64 0) ∧ (h130 76 0) = (h122 76 0) := f128
            clear f128
            refine ov_goto (tgt := 75) d_196_52 (by decide) ?_
            refine ov_blk (ls2 := [(0, ov_r 0), (1, ov_i m), (2, ov_i b)]) (st2 := [ov_i 1]) (pc2 := 76) b_196_75_1 rfl rfl ?_
            exact ov_retz (st := []) d_196_76 rfl (by omega) ⟨_, rfl, I131, (by show (1 = 0 ∨ 1 = 1) ∧ (h130 36 7) = (h 36 7) ∧ (h130 1 1) = (h 1 1) ∧ (h130 90 2) = (h 90 2) ∧ (h130 0 10) = (h 0 10) ∧ (h130 0 11) = (h 0 11) ∧ (h130 0 12) = (h 0 12) ∧ (h130 0 13) = (h 0 13) ∧ (h130 3 1) = (h 3 1) ∧ (h130 36 8) = (h 36 8) ∧ (h130 46 3) = (h 46 3) ∧ (h130 46 4) = (h 46 4) ∧ (h130 49 4) = (h 49 4) ∧ (h130 49 5) = (h 49 5) ∧ (h130 64 0) = (h 64 0) ∧ (h130 76 0) = (h 76 0); omega), (Or.inr ⟨rfl, (by omega), Or.inr ⟨(by omega), (by rw [show 15 + 5 * m = 30 by omega, show 16 + 5 * m = 31 by omega, show 17 + 5 * m = 32 by omega, show 18 + 5 * m = 33 by omega, show 19 + 5 * m = 34 by omega]; exact st_C_rw xk er132 er133 er134 er135 er136), (by omega), (by omega), (fun a a0 a1 => (ov_ff_k I131k (Or.inl (by omega)) ((by decide +kernel : ∀ n, n < 36 → 15 ≤ n → Nat.testBit 1237940038997149967466888703 n = true) a.toNat (by omega) (by omega))).trans (ov_ff_k I123k (Or.inl (by omega)) ((by decide +kernel : ∀ n, n < 36 → 15 ≤ n → Nat.testBit 1237940038997149967466888719 n = true) a.toNat (by omega) (by omega))))⟩⟩)⟩
      · skip
        refine ov_blk (ls2 := [(0, ov_r 0), (1, ov_i m), (2, ov_i b)]) (st2 := [ov_r 0]) (pc2 := 18) b_196_17_1 rfl rfl ?_
        refine ov_getf (v := ov_r 35) d_196_18 fl_OF_43 (zb_0 I) (zs_0 I) (congrArg ov_r (rg_0_5 I)) ?_
        refine ov_blk (ls2 := [(0, ov_r 0), (1, ov_i m), (2, ov_i b)]) (st2 := [ov_i m, ov_r 35]) (pc2 := 22) b_196_21_1 rfl rfl ?_
        refine ov_zald d_196_22 (zb_35 I) (zs_35 I) (by omega) ?_
        have g139 := ra_35 I m
        refine ov_ifne (tgt := 28) d_196_23 (by decide) (by omega) (fun c140 => ?_) (fun c140 => ?_)
        · skip
          refine ov_blk (ls2 := [(0, ov_r 0), (1, ov_i m), (2, ov_i b)]) (st2 := [ov_i b]) (pc2 := 29) b_196_28_1 rfl rfl ?_
          refine ov_ifeq (tgt := 55) d_196_29 (by decide) (by omega) (fun c141 => ?_) (fun c141 => ?_)
          · skip
            refine ov_blk (ls2 := [(0, ov_r 0), (1, ov_i m), (2, ov_i b)]) (st2 := [ov_r 0]) (pc2 := 56) b_196_55_1 rfl rfl ?_
            refine ov_getf (v := ov_r 14) d_196_56 fl_OF_39 (zb_0 I) (zs_0 I) (congrArg ov_r (rg_0_4 I)) ?_
            refine ov_blk (ls2 := [(0, ov_r 0), (1, ov_i m), (2, ov_i b)]) (st2 := [ov_i m, ov_r 14]) (pc2 := 60) b_196_59_1 rfl rfl ?_
            refine ov_aald d_196_60 (zb_14 I) (zs_14 I) (by omega) ?_
            have me142 : m = 0 ∨ m = 1 ∨ m = 2 ∨ m = 3 := by omega
            have ne142 := ra_14 I m
            rcases me142 with e142 | e142 | e142 | e142
            · have re142 : h 14 m = 15 := by omega
              rw [re142]
              show ov_R u d ov_m196 61 [(0, ov_r 0), (1, ov_i m), (2, ov_i b)] [ov_r 15] z h (P_OF_mark_0_t F z h m b)
              refine ov_blk (ls2 := [(0, ov_r 0), (1, ov_i m), (2, ov_i b)]) (st2 := [ov_r 0, ov_r 15]) (pc2 := 62) b_196_61_1 rfl rfl ?_
              refine ov_getf (v := ov_r 4) d_196_62 fl_OF_28 (zb_0 I) (zs_0 I) (congrArg ov_r (rg_0_2 I)) ?_
              refine ov_cV (as := [ov_r 4]) (st := []) (d2 := d - 1) d_196_65 lk_OF_322 rfl (Nat.le_of_ble_eq_true rfl) (c := 7) (zb_15 I) (zs_15 I) ⟨by decide, rfl⟩ (by omega) (c_State_copy_15_4_t (d - 1) (by omega) U (ov_I_ff (M := 1237940038997149967465873407) I) (ov_kw_ff (ov_kws hw (by decide +kernel)) (by decide +kernel))) ?_
              rintro _ z144 h145 ⟨rfl, I146, f143, xk⟩
              have I146k := I146
              have I146 := ov_I_fr I I146k
              have er147 : h145 4 = h 4 := ov_ff_k I146k (Or.inl (by decide)) (by decide +kernel)
              have er148 : h145 5 = h 5 := ov_ff_k I146k (Or.inl (by decide)) (by decide +kernel)
              have er149 : h145 6 = h 6 := ov_ff_k I146k (Or.inl (by decide)) (by decide +kernel)
              have er150 : h145 7 = h 7 := ov_ff_k I146k (Or.inl (by decide)) (by decide +kernel)
              have er151 : h145 8 = h 8 := ov_ff_k I146k (Or.inl (by decide)) (by decide +kernel)
              have er152 : h145 9 = h 9 := ov_ff_k I146k (Or.inl (by decide)) (by decide +kernel)
              have ek153 : h145 9 1 = (h 9 1) := congrFun er152 1
              have er154 : h145 35 = h 35 := ov_ff_k I146k (Or.inl (by decide)) (by decide +kernel)
              show ov_R u d ov_m196 68 [(0, ov_r 0), (1, ov_i m), (2, ov_i b)] [] z144 h145 (P_OF_mark_0_t F z h m b)
              have f155 : (h145 36 7) = (h 36 7) ∧ (h145 1 1) = (h 1 1) ∧ (h145 90 2) = (h 90 2) ∧ (h145 0 10) = (h 0 10) ∧ (h145 0 11) = (h 0 11) ∧ (h145 0 12) = (h 0 12) ∧ (h145 0 13) = (h 0 13) ∧ (h145 3 1) = (h 3 1) ∧ (h145 36 8) = (h 36 8) ∧ (h145 46 3) = (h 46 3) ∧ (h145 46 4) = (h 46 4) ∧ (h145 49 4) = (h 49 4) ∧ (h145 49 5) = (h 49 5) ∧ (h145 64 0) = (h 64 0) ∧ (h145 76 0) = (h 76 0) := f143
              clear f143
              refine ov_blk (ls2 := [(0, ov_r 0), (1, ov_i m), (2, ov_i b)]) (st2 := [ov_r 0]) (pc2 := 69) b_196_68_1 rfl rfl ?_
              refine ov_getf (v := ov_r 35) d_196_69 fl_OF_43 (zb_0 I146) (zs_0 I146) (congrArg ov_r (rg_0_5 I146)) ?_
              refine ov_blk (ls2 := [(0, ov_r 0), (1, ov_i m), (2, ov_i b)]) (st2 := [ov_i 1, ov_i m, ov_r 35]) (pc2 := 74) b_196_72_2 rfl rfl ?_
              refine ov_zast d_196_74 (zb_35 I146) (zs_35 I146) (by omega) (by omega) ?_
              have I156 := ua_35 (k := m) (x := 1) I146 (by omega) (hw 35 (by decide +kernel))
              refine ov_blk (ls2 := [(0, ov_r 0), (1, ov_i m), (2, ov_i b)]) (st2 := [ov_i 1]) (pc2 := 76) b_196_75_1 rfl rfl ?_
              exact ov_retz (st := []) d_196_76 rfl (by omega) ⟨_, rfl, I156, (by show (1 = 0 ∨ 1 = 1) ∧ (h145 36 7) = (h 36 7) ∧ (h145 1 1) = (h 1 1) ∧ (h145 90 2) = (h 90 2) ∧ (h145 0 10) = (h 0 10) ∧ (h145 0 11) = (h 0 11) ∧ (h145 0 12) = (h 0 12) ∧ (h145 0 13) = (h 0 13) ∧ (h145 3 1) = (h 3 1) ∧ (h145 36 8) = (h 36 8) ∧ (h145 46 3) = (h 46 3) ∧ (h145 46 4) = (h 46 4) ∧ (h145 49 4) = (h 49 4) ∧ (h145 49 5) = (h 49 5) ∧ (h145 64 0) = (h 64 0) ∧ (h145 76 0) = (h 76 0); omega), (Or.inr ⟨rfl, (by omega), Or.inl ⟨(by omega), (by show (ov_up h145 35 m 1) 35 = _; rw [ov_up_row]; rw [er154]), (by rw [show 15 + 5 * m = 15 by omega, show 16 + 5 * m = 16 by omega, show 17 + 5 * m = 17 by omega, show 18 + 5 * m = 18 by omega, show 19 + 5 * m = 19 by omega]; exact xk), (fun a a0 a1 a2 => by show (ov_up h145 35 m 1) a = _; rw [ov_up_ne (by omega)]; exact ov_ff_k I146k (Or.inl (by omega)) ((by decide +kernel : ∀ n, n < 36 → (n < 15 ∨ 20 ≤ n) → Nat.testBit 1237940038997149967465873407 n = true) a.toNat (by omega) (by omega)))⟩⟩)⟩
            · have re142 : h 14 m = 20 := by omega
              rw [re142]
              show ov_R u d ov_m196 61 [(0, ov_r 0), (1, ov_i m), (2, ov_i b)] [ov_r 20] z h (P_OF_mark_0_t F z h m b)
              refine ov_blk (ls2 := [(0, ov_r 0), (1, ov_i m), (2, ov_i b)]) (st2 := [ov_r 0, ov_r 20]) (pc2 := 62) b_196_61_1 rfl rfl ?_
              refine ov_getf (v := ov_r 4) d_196_62 fl_OF_28 (zb_0 I) (zs_0 I) (congrArg ov_r (rg_0_2 I)) ?_
              refine ov_cV (as := [ov_r 4]) (st := []) (d2 := d - 1) d_196_65 lk_OF_322 rfl (Nat.le_of_ble_eq_true rfl) (c := 7) (zb_20 I) (zs_20 I) ⟨by decide, rfl⟩ (by omega) (c_State_copy_20_4_t (d - 1) (by omega) U (ov_I_ff (M := 1237940038997149967434383359) I) (ov_kw_ff (ov_kws hw (by decide +kernel)) (by decide +kernel))) ?_
              rintro _ z158 h159 ⟨rfl, I160, f157, xk⟩
              have I160k := I160
              have I160 := ov_I_fr I I160k
              have er161 : h159 4 = h 4 := ov_ff_k I160k (Or.inl (by decide)) (by decide +kernel)
              have er162 : h159 5 = h 5 := ov_ff_k I160k (Or.inl (by decide)) (by decide +kernel)
              have er163 : h159 6 = h 6 := ov_ff_k I160k (Or.inl (by decide)) (by decide +kernel)
              have er164 : h159 7 = h 7 := ov_ff_k I160k (Or.inl (by decide)) (by decide +kernel)
              have er165 : h159 8 = h 8 := ov_ff_k I160k (Or.inl (by decide)) (by decide +kernel)
              have er166 : h159 9 = h 9 := ov_ff_k I160k (Or.inl (by decide)) (by decide +kernel)
              have ek167 : h159 9 1 = (h 9 1) := congrFun er166 1
              have er168 : h159 35 = h 35 := ov_ff_k I160k (Or.inl (by decide)) (by decide +kernel)
              show ov_R u d ov_m196 68 [(0, ov_r 0), (1, ov_i m), (2, ov_i b)] [] z158 h159 (P_OF_mark_0_t F z h m b)
              have f169 : (h159 36 7) = (h 36 7) ∧ (h159 1 1) = (h 1 1) ∧ (h159 90 2) = (h 90 2) ∧ (h159 0 10) = (h 0 10) ∧ (h159 0 11) = (h 0 11) ∧ (h159 0 12) = (h 0 12) ∧ (h159 0 13) = (h 0 13) ∧ (h159 3 1) = (h 3 1) ∧ (h159 36 8) = (h 36 8) ∧ (h159 46 3) = (h 46 3) ∧ (h159 46 4) = (h 46 4) ∧ (h159 49 4) = (h 49 4) ∧ (h159 49 5) = (h 49 5) ∧ (h159 64 0) = (h 64 0) ∧ (h159 76 0) = (h 76 0) := f157
              clear f157
              refine ov_blk (ls2 := [(0, ov_r 0), (1, ov_i m), (2, ov_i b)]) (st2 := [ov_r 0]) (pc2 := 69) b_196_68_1 rfl rfl ?_
              refine ov_getf (v := ov_r 35) d_196_69 fl_OF_43 (zb_0 I160) (zs_0 I160) (congrArg ov_r (rg_0_5 I160)) ?_
              refine ov_blk (ls2 := [(0, ov_r 0), (1, ov_i m), (2, ov_i b)]) (st2 := [ov_i 1, ov_i m, ov_r 35]) (pc2 := 74) b_196_72_2 rfl rfl ?_
              refine ov_zast d_196_74 (zb_35 I160) (zs_35 I160) (by omega) (by omega) ?_
              have I170 := ua_35 (k := m) (x := 1) I160 (by omega) (hw 35 (by decide +kernel))
              refine ov_blk (ls2 := [(0, ov_r 0), (1, ov_i m), (2, ov_i b)]) (st2 := [ov_i 1]) (pc2 := 76) b_196_75_1 rfl rfl ?_
              exact ov_retz (st := []) d_196_76 rfl (by omega) ⟨_, rfl, I170, (by show (1 = 0 ∨ 1 = 1) ∧ (h159 36 7) = (h 36 7) ∧ (h159 1 1) = (h 1 1) ∧ (h159 90 2) = (h 90 2) ∧ (h159 0 10) = (h 0 10) ∧ (h159 0 11) = (h 0 11) ∧ (h159 0 12) = (h 0 12) ∧ (h159 0 13) = (h 0 13) ∧ (h159 3 1) = (h 3 1) ∧ (h159 36 8) = (h 36 8) ∧ (h159 46 3) = (h 46 3) ∧ (h159 46 4) = (h 46 4) ∧ (h159 49 4) = (h 49 4) ∧ (h159 49 5) = (h 49 5) ∧ (h159 64 0) = (h 64 0) ∧ (h159 76 0) = (h 76 0); omega), (Or.inr ⟨rfl, (by omega), Or.inl ⟨(by omega), (by show (ov_up h159 35 m 1) 35 = _; rw [ov_up_row]; rw [er168]), (by rw [show 15 + 5 * m = 20 by omega, show 16 + 5 * m = 21 by omega, show 17 + 5 * m = 22 by omega, show 18 + 5 * m = 23 by omega, show 19 + 5 * m = 24 by omega]; exact xk), (fun a a0 a1 a2 => by show (ov_up h159 35 m 1) a = _; rw [ov_up_ne (by omega)]; exact ov_ff_k I160k (Or.inl (by omega)) ((by decide +kernel : ∀ n, n < 36 → (n < 20 ∨ 25 ≤ n) → Nat.testBit 1237940038997149967434383359 n = true) a.toNat (by omega) (by omega)))⟩⟩)⟩
            · have re142 : h 14 m = 25 := by omega
              rw [re142]
              show ov_R u d ov_m196 61 [(0, ov_r 0), (1, ov_i m), (2, ov_i b)] [ov_r 25] z h (P_OF_mark_0_t F z h m b)
              refine ov_blk (ls2 := [(0, ov_r 0), (1, ov_i m), (2, ov_i b)]) (st2 := [ov_r 0, ov_r 25]) (pc2 := 62) b_196_61_1 rfl rfl ?_
              refine ov_getf (v := ov_r 4) d_196_62 fl_OF_28 (zb_0 I) (zs_0 I) (congrArg ov_r (rg_0_2 I)) ?_
              refine ov_cV (as := [ov_r 4]) (st := []) (d2 := d - 1) d_196_65 lk_OF_322 rfl (Nat.le_of_ble_eq_true rfl) (c := 7) (zb_25 I) (zs_25 I) ⟨by decide, rfl⟩ (by omega) (c_State_copy_25_4_t (d - 1) (by omega) U (ov_I_ff (M := 1237940038997149966426701823) I) (ov_kw_ff (ov_kws hw (by decide +kernel)) (by decide +kernel))) ?_
              rintro _ z172 h173 ⟨rfl, I174, f171, xk⟩
              have I174k := I174
              have I174 := ov_I_fr I I174k
              have er175 : h173 4 = h 4 := ov_ff_k I174k (Or.inl (by decide)) (by decide +kernel)
              have er176 : h173 5 = h 5 := ov_ff_k I174k (Or.inl (by decide)) (by decide +kernel)
              have er177 : h173 6 = h 6 := ov_ff_k I174k (Or.inl (by decide)) (by decide +kernel)
              have er178 : h173 7 = h 7 := ov_ff_k I174k (Or.inl (by decide)) (by decide +kernel)
              have er179 : h173 8 = h 8 := ov_ff_k I174k (Or.inl (by decide)) (by decide +kernel)
              have er180 : h173 9 = h 9 := ov_ff_k I174k (Or.inl (by decide)) (by decide +kernel)
              have ek181 : h173 9 1 = (h 9 1) := congrFun er180 1
              have er182 : h173 35 = h 35 := ov_ff_k I174k (Or.inl (by decide)) (by decide +kernel)
              show ov_R u d ov_m196 68 [(0, ov_r 0), (1, ov_i m), (2, ov_i b)] [] z172 h173 (P_OF_mark_0_t F z h m b)
              have f183 : (h173 36 7) = (h 36 7) ∧ (h173 1 1) = (h 1 1) ∧ (h173 90 2) = (h 90 2) ∧ (h173 0 10) = (h 0 10) ∧ (h173 0 11) = (h 0 11) ∧ (h173 0 12) = (h 0 12) ∧ (h173 0 13) = (h 0 13) ∧ (h173 3 1) = (h 3 1) ∧ (h173 36 8) = (h 36 8) ∧ (h173 46 3) = (h 46 3) ∧ (h173 46 4) = (h 46 4) ∧ (h173 49 4) = (h 49 4) ∧ (h173 49 5) = (h 49 5) ∧ (h173 64 0) = (h 64 0) ∧ (h173 76 0) = (h 76 0) := f171
              clear f171
              refine ov_blk (ls2 := [(0, ov_r 0), (1, ov_i m), (2, ov_i b)]) (st2 := [ov_r 0]) (pc2 := 69) b_196_68_1 rfl rfl ?_
              refine ov_getf (v := ov_r 35) d_196_69 fl_OF_43 (zb_0 I174) (zs_0 I174) (congrArg ov_r (rg_0_5 I174)) ?_
              refine ov_blk (ls2 := [(0, ov_r 0), (1, ov_i m), (2, ov_i b)]) (st2 := [ov_i 1, ov_i m, ov_r 35]) (pc2 := 74) b_196_72_2 rfl rfl ?_
              refine ov_zast d_196_74 (zb_35 I174) (zs_35 I174) (by omega) (by omega) ?_
              have I184 := ua_35 (k := m) (x := 1) I174 (by omega) (hw 35 (by decide +kernel))
              refine ov_blk (ls2 := [(0, ov_r 0), (1, ov_i m), (2, ov_i b)]) (st2 := [ov_i 1]) (pc2 := 76) b_196_75_1 rfl rfl ?_
              exact ov_retz (st := []) d_196_76 rfl (by omega) ⟨_, rfl, I184, (by show (1 = 0 ∨ 1 = 1) ∧ (h173 36 7) = (h 36 7) ∧ (h173 1 1) = (h 1 1) ∧ (h173 90 2) = (h 90 2) ∧ (h173 0 10) = (h 0 10) ∧ (h173 0 11) = (h 0 11) ∧ (h173 0 12) = (h 0 12) ∧ (h173 0 13) = (h 0 13) ∧ (h173 3 1) = (h 3 1) ∧ (h173 36 8) = (h 36 8) ∧ (h173 46 3) = (h 46 3) ∧ (h173 46 4) = (h 46 4) ∧ (h173 49 4) = (h 49 4) ∧ (h173 49 5) = (h 49 5) ∧ (h173 64 0) = (h 64 0) ∧ (h173 76 0) = (h 76 0); omega), (Or.inr ⟨rfl, (by omega), Or.inl ⟨(by omega), (by show (ov_up h173 35 m 1) 35 = _; rw [ov_up_row]; rw [er182]), (by rw [show 15 + 5 * m = 25 by omega, show 16 + 5 * m = 26 by omega, show 17 + 5 * m = 27 by omega, show 18 + 5 * m = 28 by omega, show 19 + 5 * m = 29 by omega]; exact xk), (fun a a0 a1 a2 => by show (ov_up h173 35 m 1) a = _; rw [ov_up_ne (by omega)]; exact ov_ff_k I174k (Or.inl (by omega)) ((by decide +kernel : ∀ n, n < 36 → (n < 25 ∨ 30 ≤ n) → Nat.testBit 1237940038997149966426701823 n = true) a.toNat (by omega) (by omega)))⟩⟩)⟩
            · have re142 : h 14 m = 30 := by omega
              rw [re142]
              show ov_R u d ov_m196 61 [(0, ov_r 0), (1, ov_i m), (2, ov_i b)] [ov_r 30] z h (P_OF_mark_0_t F z h m b)
              refine ov_blk (ls2 := [(0, ov_r 0), (1, ov_i m), (2, ov_i b)]) (st2 := [ov_r 0, ov_r 30]) (pc2 := 62) b_196_61_1 rfl rfl ?_
              refine ov_getf (v := ov_r 4) d_196_62 fl_OF_28 (zb_0 I) (zs_0 I) (congrArg ov_r (rg_0_2 I)) ?_
              refine ov_cV (as := [ov_r 4]) (st := []) (d2 := d - 1) d_196_65 lk_OF_322 rfl (Nat.le_of_ble_eq_true rfl) (c := 7) (zb_30 I) (zs_30 I) ⟨by decide, rfl⟩ (by omega) (c_State_copy_30_4_t (d - 1) (by omega) U (ov_I_ff (M := 1237940038997149934180892671) I) (ov_kw_ff (ov_kws hw (by decide +kernel)) (by decide +kernel))) ?_
              rintro _ z186 h187 ⟨rfl, I188, f185, xk⟩
              have I188k := I188
              have I188 := ov_I_fr I I188k
              have er189 : h187 4 = h 4 := ov_ff_k I188k (Or.inl (by decide)) (by decide +kernel)
              have er190 : h187 5 = h 5 := ov_ff_k I188k (Or.inl (by decide)) (by decide +kernel)
              have er191 : h187 6 = h 6 := ov_ff_k I188k (Or.inl (by decide)) (by decide +kernel)
              have er192 : h187 7 = h 7 := ov_ff_k I188k (Or.inl (by decide)) (by decide +kernel)
              have er193 : h187 8 = h 8 := ov_ff_k I188k (Or.inl (by decide)) (by decide +kernel)
              have er194 : h187 9 = h 9 := ov_ff_k I188k (Or.inl (by decide)) (by decide +kernel)
              have ek195 : h187 9 1 = (h 9 1) := congrFun er194 1
              have er196 : h187 35 = h 35 := ov_ff_k I188k (Or.inl (by decide)) (by decide +kernel)
              show ov_R u d ov_m196 68 [(0, ov_r 0), (1, ov_i m), (2, ov_i b)] [] z186 h187 (P_OF_mark_0_t F z h m b)
              have f197 : (h187 36 7) = (h 36 7) ∧ (h187 1 1) = (h 1 1) ∧ (h187 90 2) = (h 90 2) ∧ (h187 0 10) = (h 0 10) ∧ (h187 0 11) = (h 0 11) ∧ (h187 0 12) = (h 0 12) ∧ (h187 0 13) = (h 0 13) ∧ (h187 3 1) = (h 3 1) ∧ (h187 36 8) = (h 36 8) ∧ (h187 46 3) = (h 46 3) ∧ (h187 46 4) = (h 46 4) ∧ (h187 49 4) = (h 49 4) ∧ (h187 49 5) = (h 49 5) ∧ (h187 64 0) = (h 64 0) ∧ (h187 76 0) = (h 76 0) := f185
              clear f185
              refine ov_blk (ls2 := [(0, ov_r 0), (1, ov_i m), (2, ov_i b)]) (st2 := [ov_r 0]) (pc2 := 69) b_196_68_1 rfl rfl ?_
              refine ov_getf (v := ov_r 35) d_196_69 fl_OF_43 (zb_0 I188) (zs_0 I188) (congrArg ov_r (rg_0_5 I188)) ?_
              refine ov_blk (ls2 := [(0, ov_r 0), (1, ov_i m), (2, ov_i b)]) (st2 := [ov_i 1, ov_i m, ov_r 35]) (pc2 := 74) b_196_72_2 rfl rfl ?_
              refine ov_zast d_196_74 (zb_35 I188) (zs_35 I188) (by omega) (by omega) ?_
              have I198 := ua_35 (k := m) (x := 1) I188 (by omega) (hw 35 (by decide +kernel))
              refine ov_blk (ls2 := [(0, ov_r 0), (1, ov_i m), (2, ov_i b)]) (st2 := [ov_i 1]) (pc2 := 76) b_196_75_1 rfl rfl ?_
              exact ov_retz (st := []) d_196_76 rfl (by omega) ⟨_, rfl, I198, (by show (1 = 0 ∨ 1 = 1) ∧ (h187 36 7) = (h 36 7) ∧ (h187 1 1) = (h 1 1) ∧ (h187 90 2) = (h 90 2) ∧ (h187 0 10) = (h 0 10) ∧ (h187 0 11) = (h 0 11) ∧ (h187 0 12) = (h 0 12) ∧ (h187 0 13) = (h 0 13) ∧ (h187 3 1) = (h 3 1) ∧ (h187 36 8) = (h 36 8) ∧ (h187 46 3) = (h 46 3) ∧ (h187 46 4) = (h 46 4) ∧ (h187 49 4) = (h 49 4) ∧ (h187 49 5) = (h 49 5) ∧ (h187 64 0) = (h 64 0) ∧ (h187 76 0) = (h 76 0); omega), (Or.inr ⟨rfl, (by omega), Or.inl ⟨(by omega), (by show (ov_up h187 35 m 1) 35 = _; rw [ov_up_row]; rw [er196]), (by rw [show 15 + 5 * m = 30 by omega, show 16 + 5 * m = 31 by omega, show 17 + 5 * m = 32 by omega, show 18 + 5 * m = 33 by omega, show 19 + 5 * m = 34 by omega]; exact xk), (fun a a0 a1 a2 => by show (ov_up h187 35 m 1) a = _; rw [ov_up_ne (by omega)]; exact ov_ff_k I188k (Or.inl (by omega)) ((by decide +kernel : ∀ n, n < 36 → (n < 30 ∨ 35 ≤ n) → Nat.testBit 1237940038997149934180892671 n = true) a.toNat (by omega) (by omega)))⟩⟩)⟩
          · skip
            refine ov_blk (ls2 := [(0, ov_r 0), (1, ov_i m), (2, ov_i b)]) (st2 := [ov_r 0]) (pc2 := 33) b_196_32_1 rfl rfl ?_
            refine ov_getf (v := ov_r 4) d_196_33 fl_OF_28 (zb_0 I) (zs_0 I) (congrArg ov_r (rg_0_2 I)) ?_
            refine ov_blk (ls2 := [(0, ov_r 0), (1, ov_i m), (2, ov_i b)]) (st2 := [ov_r 0, ov_r 4]) (pc2 := 37) b_196_36_1 rfl rfl ?_
            refine ov_getf (v := ov_r 14) d_196_37 fl_OF_39 (zb_0 I) (zs_0 I) (congrArg ov_r (rg_0_4 I)) ?_
            refine ov_blk (ls2 := [(0, ov_r 0), (1, ov_i m), (2, ov_i b)]) (st2 := [ov_i m, ov_r 14, ov_r 4]) (pc2 := 41) b_196_40_1 rfl rfl ?_
            refine ov_aald d_196_41 (zb_14 I) (zs_14 I) (by omega) ?_
            have me199 : m = 0 ∨ m = 1 ∨ m = 2 ∨ m = 3 := by omega
            have ne199 := ra_14 I m
            rcases me199 with e199 | e199 | e199 | e199
            · have re199 : h 14 m = 15 := by omega
              rw [re199]
              show ov_R u d ov_m196 42 [(0, ov_r 0), (1, ov_i m), (2, ov_i b)] [ov_r 15, ov_r 4] z h (P_OF_mark_0_t F z h m b)
              refine ov_cV (as := [ov_r 15]) (st := []) (d2 := d - 1) d_196_42 lk_OF_322 rfl (Nat.le_of_ble_eq_true rfl) (c := 7) (zb_4 I) (zs_4 I) ⟨by decide, rfl⟩ (by omega) (c_State_copy_4_15_t (d - 1) (by omega) U (ov_I_ff (M := 1237940038997149967466888719) I) (ov_kw_ff (ov_kws hw (by decide +kernel)) (by decide +kernel))) ?_
              rintro _ z201 h202 ⟨rfl, I203, f200, xk⟩
              have I203k := I203
              have I203 := ov_I_fr I I203k
              have er204 : h202 9 = h 9 := ov_ff_k I203k (Or.inl (by decide)) (by decide +kernel)
              have ek205 : h202 9 1 = (h 9 1) := congrFun er204 1
              have er206 : h202 35 = h 35 := ov_ff_k I203k (Or.inl (by decide)) (by decide +kernel)
              show ov_R u d ov_m196 45 [(0, ov_r 0), (1, ov_i m), (2, ov_i b)] [] z201 h202 (P_OF_mark_0_t F z h m b)
              have f207 : (h202 36 7) = (h 36 7) ∧ (h202 1 1) = (h 1 1) ∧ (h202 90 2) = (h 90 2) ∧ (h202 0 10) = (h 0 10) ∧ (h202 0 11) = (h 0 11) ∧ (h202 0 12) = (h 0 12) ∧ (h202 0 13) = (h 0 13) ∧ (h202 3 1) = (h 3 1) ∧ (h202 36 8) = (h 36 8) ∧ (h202 46 3) = (h 46 3) ∧ (h202 46 4) = (h 46 4) ∧ (h202 49 4) = (h 49 4) ∧ (h202 49 5) = (h 49 5) ∧ (h202 64 0) = (h 64 0) ∧ (h202 76 0) = (h 76 0) := f200
              clear f200
              refine ov_blk (ls2 := [(0, ov_r 0), (1, ov_i m), (2, ov_i b)]) (st2 := [ov_r 0]) (pc2 := 46) b_196_45_1 rfl rfl ?_
              refine ov_getf (v := ov_r 9) d_196_46 fl_OF_35 (zb_0 I203) (zs_0 I203) (congrArg ov_r (rg_0_3 I203)) ?_
              refine ov_cV (as := []) (st := []) (d2 := d - 1) d_196_49 lk_OF_115 rfl (Nat.le_of_ble_eq_true rfl) (c := 3) (zb_9 I203) (zs_9 I203) ⟨by decide, rfl⟩ (by omega) (c_History_clear_9_u (d - 1) (by omega) U (ov_I_ff (M := 1237940038997149967466888703) I203) (ov_kw_ff (ov_kws hw (by decide +kernel)) (by decide +kernel))) ?_
              rintro _ z209 h210 ⟨rfl, I211, f208⟩
              have I211k := I211
              have I211 := ov_I_fr I203 I211k
              have er212 : h210 4 = h202 4 := ov_ff_k I211k (Or.inl (by decide)) (by decide +kernel)
              have er213 : h210 5 = h202 5 := ov_ff_k I211k (Or.inl (by decide)) (by decide +kernel)
              have er214 : h210 6 = h202 6 := ov_ff_k I211k (Or.inl (by decide)) (by decide +kernel)
              have er215 : h210 7 = h202 7 := ov_ff_k I211k (Or.inl (by decide)) (by decide +kernel)
              have er216 : h210 8 = h202 8 := ov_ff_k I211k (Or.inl (by decide)) (by decide +kernel)
              have er217 : h210 35 = h202 35 := ov_ff_k I211k (Or.inl (by decide)) (by decide +kernel)
              show ov_R u d ov_m196 52 [(0, ov_r 0), (1, ov_i m), (2, ov_i b)] [] z209 h210 (P_OF_mark_0_t F z h m b)
              have f218 : (h210 9 0) = 0 ∧ (h210 9 1) = (h202 9 1) ∧ (h210 36 7) = (h202 36 7) ∧ (h210 1 1) = (h202 1 1) ∧ (h210 90 2) = (h202 90 2) ∧ (h210 0 10) = (h202 0 10) ∧ (h210 0 11) = (h202 0 11) ∧ (h210 0 12) = (h202 0 12) ∧ (h210 0 13) = (h202 0 13) ∧ (h210 3 1) = (h202 3 1) ∧ (h210 36 8) = (h202 36 8) ∧ (h210 46 3) = (h202 46 3) ∧ (h210 46 4) = (h202 46 4) ∧ (h210 49 4) = (h202 49 4) ∧ (h210 49 5) = (h202 49 5) ∧ (h210 64 0) = (h202 64 0) ∧ (h210 76 0) = (h202 76 0) := f208
              clear f208
              refine ov_goto (tgt := 75) d_196_52 (by decide) ?_
              refine ov_blk (ls2 := [(0, ov_r 0), (1, ov_i m), (2, ov_i b)]) (st2 := [ov_i 1]) (pc2 := 76) b_196_75_1 rfl rfl ?_
              exact ov_retz (st := []) d_196_76 rfl (by omega) ⟨_, rfl, I211, (by show (1 = 0 ∨ 1 = 1) ∧ (h210 36 7) = (h 36 7) ∧ (h210 1 1) = (h 1 1) ∧ (h210 90 2) = (h 90 2) ∧ (h210 0 10) = (h 0 10) ∧ (h210 0 11) = (h 0 11) ∧ (h210 0 12) = (h 0 12) ∧ (h210 0 13) = (h 0 13) ∧ (h210 3 1) = (h 3 1) ∧ (h210 36 8) = (h 36 8) ∧ (h210 46 3) = (h 46 3) ∧ (h210 46 4) = (h 46 4) ∧ (h210 49 4) = (h 49 4) ∧ (h210 49 5) = (h 49 5) ∧ (h210 64 0) = (h 64 0) ∧ (h210 76 0) = (h 76 0); omega), (Or.inr ⟨rfl, (by omega), Or.inr ⟨(by omega), (by rw [show 15 + 5 * m = 15 by omega, show 16 + 5 * m = 16 by omega, show 17 + 5 * m = 17 by omega, show 18 + 5 * m = 18 by omega, show 19 + 5 * m = 19 by omega]; exact st_C_rw xk er212 er213 er214 er215 er216), (by omega), (by omega), (fun a a0 a1 => (ov_ff_k I211k (Or.inl (by omega)) ((by decide +kernel : ∀ n, n < 36 → 15 ≤ n → Nat.testBit 1237940038997149967466888703 n = true) a.toNat (by omega) (by omega))).trans (ov_ff_k I203k (Or.inl (by omega)) ((by decide +kernel : ∀ n, n < 36 → 15 ≤ n → Nat.testBit 1237940038997149967466888719 n = true) a.toNat (by omega) (by omega))))⟩⟩)⟩
            · have re199 : h 14 m = 20 := by omega
              rw [re199]
              show ov_R u d ov_m196 42 [(0, ov_r 0), (1, ov_i m), (2, ov_i b)] [ov_r 20, ov_r 4] z h (P_OF_mark_0_t F z h m b)
              refine ov_cV (as := [ov_r 20]) (st := []) (d2 := d - 1) d_196_42 lk_OF_322 rfl (Nat.le_of_ble_eq_true rfl) (c := 7) (zb_4 I) (zs_4 I) ⟨by decide, rfl⟩ (by omega) (c_State_copy_4_20_t (d - 1) (by omega) U (ov_I_ff (M := 1237940038997149967466888719) I) (ov_kw_ff (ov_kws hw (by decide +kernel)) (by decide +kernel))) ?_
              rintro _ z220 h221 ⟨rfl, I222, f219, xk⟩
              have I222k := I222
              have I222 := ov_I_fr I I222k
              have er223 : h221 9 = h 9 := ov_ff_k I222k (Or.inl (by decide)) (by decide +kernel)
              have ek224 : h221 9 1 = (h 9 1) := congrFun er223 1
              have er225 : h221 35 = h 35 := ov_ff_k I222k (Or.inl (by decide)) (by decide +kernel)
              show ov_R u d ov_m196 45 [(0, ov_r 0), (1, ov_i m), (2, ov_i b)] [] z220 h221 (P_OF_mark_0_t F z h m b)
              have f226 : (h221 36 7) = (h 36 7) ∧ (h221 1 1) = (h 1 1) ∧ (h221 90 2) = (h 90 2) ∧ (h221 0 10) = (h 0 10) ∧ (h221 0 11) = (h 0 11) ∧ (h221 0 12) = (h 0 12) ∧ (h221 0 13) = (h 0 13) ∧ (h221 3 1) = (h 3 1) ∧ (h221 36 8) = (h 36 8) ∧ (h221 46 3) = (h 46 3) ∧ (h221 46 4) = (h 46 4) ∧ (h221 49 4) = (h 49 4) ∧ (h221 49 5) = (h 49 5) ∧ (h221 64 0) = (h 64 0) ∧ (h221 76 0) = (h 76 0) := f219
              clear f219
              refine ov_blk (ls2 := [(0, ov_r 0), (1, ov_i m), (2, ov_i b)]) (st2 := [ov_r 0]) (pc2 := 46) b_196_45_1 rfl rfl ?_
              refine ov_getf (v := ov_r 9) d_196_46 fl_OF_35 (zb_0 I222) (zs_0 I222) (congrArg ov_r (rg_0_3 I222)) ?_
              refine ov_cV (as := []) (st := []) (d2 := d - 1) d_196_49 lk_OF_115 rfl (Nat.le_of_ble_eq_true rfl) (c := 3) (zb_9 I222) (zs_9 I222) ⟨by decide, rfl⟩ (by omega) (c_History_clear_9_u (d - 1) (by omega) U (ov_I_ff (M := 1237940038997149967466888703) I222) (ov_kw_ff (ov_kws hw (by decide +kernel)) (by decide +kernel))) ?_
              rintro _ z228 h229 ⟨rfl, I230, f227⟩
              have I230k := I230
              have I230 := ov_I_fr I222 I230k
              have er231 : h229 4 = h221 4 := ov_ff_k I230k (Or.inl (by decide)) (by decide +kernel)
              have er232 : h229 5 = h221 5 := ov_ff_k I230k (Or.inl (by decide)) (by decide +kernel)
              have er233 : h229 6 = h221 6 := ov_ff_k I230k (Or.inl (by decide)) (by decide +kernel)
              have er234 : h229 7 = h221 7 := ov_ff_k I230k (Or.inl (by decide)) (by decide +kernel)
              have er235 : h229 8 = h221 8 := ov_ff_k I230k (Or.inl (by decide)) (by decide +kernel)
              have er236 : h229 35 = h221 35 := ov_ff_k I230k (Or.inl (by decide)) (by decide +kernel)
              show ov_R u d ov_m196 52 [(0, ov_r 0), (1, ov_i m), (2, ov_i b)] [] z228 h229 (P_OF_mark_0_t F z h m b)
              have f237 : (h229 9 0) = 0 ∧ (h229 9 1) = (h221 9 1) ∧ (h229 36 7) = (h221 36 7) ∧ (h229 1 1) = (h221 1 1) ∧ (h229 90 2) = (h221 90 2) ∧ (h229 0 10) = (h221 0 10) ∧ (h229 0 11) = (h221 0 11) ∧ (h229 0 12) = (h221 0 12) ∧ (h229 0 13) = (h221 0 13) ∧ (h229 3 1) = (h221 3 1) ∧ (h229 36 8) = (h221 36 8) ∧ (h229 46 3) = (h221 46 3) ∧ (h229 46 4) = (h221 46 4) ∧ (h229 49 4) = (h221 49 4) ∧ (h229 49 5) = (h221 49 5) ∧ (h229 64 0) = (h221 64 0) ∧ (h229 76 0) = (h221 76 0) := f227
              clear f227
              refine ov_goto (tgt := 75) d_196_52 (by decide) ?_
              refine ov_blk (ls2 := [(0, ov_r 0), (1, ov_i m), (2, ov_i b)]) (st2 := [ov_i 1]) (pc2 := 76) b_196_75_1 rfl rfl ?_
              exact ov_retz (st := []) d_196_76 rfl (by omega) ⟨_, rfl, I230, (by show (1 = 0 ∨ 1 = 1) ∧ (h229 36 7) = (h 36 7) ∧ (h229 1 1) = (h 1 1) ∧ (h229 90 2) = (h 90 2) ∧ (h229 0 10) = (h 0 10) ∧ (h229 0 11) = (h 0 11) ∧ (h229 0 12) = (h 0 12) ∧ (h229 0 13) = (h 0 13) ∧ (h229 3 1) = (h 3 1) ∧ (h229 36 8) = (h 36 8) ∧ (h229 46 3) = (h 46 3) ∧ (h229 46 4) = (h 46 4) ∧ (h229 49 4) = (h 49 4) ∧ (h229 49 5) = (h 49 5) ∧ (h229 64 0) = (h 64 0) ∧ (h229 76 0) = (h 76 0); omega), (Or.inr ⟨rfl, (by omega), Or.inr ⟨(by omega), (by rw [show 15 + 5 * m = 20 by omega, show 16 + 5 * m = 21 by omega, show 17 + 5 * m = 22 by omega, show 18 + 5 * m = 23 by omega, show 19 + 5 * m = 24 by omega]; exact st_C_rw xk er231 er232 er233 er234 er235), (by omega), (by omega), (fun a a0 a1 => (ov_ff_k I230k (Or.inl (by omega)) ((by decide +kernel : ∀ n, n < 36 → 15 ≤ n → Nat.testBit 1237940038997149967466888703 n = true) a.toNat (by omega) (by omega))).trans (ov_ff_k I222k (Or.inl (by omega)) ((by decide +kernel : ∀ n, n < 36 → 15 ≤ n → Nat.testBit 1237940038997149967466888719 n = true) a.toNat (by omega) (by omega))))⟩⟩)⟩
            · have re199 : h 14 m = 25 := by omega
              rw [re199]
              show ov_R u d ov_m196 42 [(0, ov_r 0), (1, ov_i m), (2, ov_i b)] [ov_r 25, ov_r 4] z h (P_OF_mark_0_t F z h m b)
              refine ov_cV (as := [ov_r 25]) (st := []) (d2 := d - 1) d_196_42 lk_OF_322 rfl (Nat.le_of_ble_eq_true rfl) (c := 7) (zb_4 I) (zs_4 I) ⟨by decide, rfl⟩ (by omega) (c_State_copy_4_25_t (d - 1) (by omega) U (ov_I_ff (M := 1237940038997149967466888719) I) (ov_kw_ff (ov_kws hw (by decide +kernel)) (by decide +kernel))) ?_
              rintro _ z239 h240 ⟨rfl, I241, f238, xk⟩
              have I241k := I241
              have I241 := ov_I_fr I I241k
              have er242 : h240 9 = h 9 := ov_ff_k I241k (Or.inl (by decide)) (by decide +kernel)
              have ek243 : h240 9 1 = (h 9 1) := congrFun er242 1
              have er244 : h240 35 = h 35 := ov_ff_k I241k (Or.inl (by decide)) (by decide +kernel)
              show ov_R u d ov_m196 45 [(0, ov_r 0), (1, ov_i m), (2, ov_i b)] [] z239 h240 (P_OF_mark_0_t F z h m b)
              have f245 : (h240 36 7) = (h 36 7) ∧ (h240 1 1) = (h 1 1) ∧ (h240 90 2) = (h 90 2) ∧ (h240 0 10) = (h 0 10) ∧ (h240 0 11) = (h 0 11) ∧ (h240 0 12) = (h 0 12) ∧ (h240 0 13) = (h 0 13) ∧ (h240 3 1) = (h 3 1) ∧ (h240 36 8) = (h 36 8) ∧ (h240 46 3) = (h 46 3) ∧ (h240 46 4) = (h 46 4) ∧ (h240 49 4) = (h 49 4) ∧ (h240 49 5) = (h 49 5) ∧ (h240 64 0) = (h 64 0) ∧ (h240 76 0) = (h 76 0) := f238
              clear f238
              refine ov_blk (ls2 := [(0, ov_r 0), (1, ov_i m), (2, ov_i b)]) (st2 := [ov_r 0]) (pc2 := 46) b_196_45_1 rfl rfl ?_
              refine ov_getf (v := ov_r 9) d_196_46 fl_OF_35 (zb_0 I241) (zs_0 I241) (congrArg ov_r (rg_0_3 I241)) ?_
              refine ov_cV (as := []) (st := []) (d2 := d - 1) d_196_49 lk_OF_115 rfl (Nat.le_of_ble_eq_true rfl) (c := 3) (zb_9 I241) (zs_9 I241) ⟨by decide, rfl⟩ (by omega) (c_History_clear_9_u (d - 1) (by omega) U (ov_I_ff (M := 1237940038997149967466888703) I241) (ov_kw_ff (ov_kws hw (by decide +kernel)) (by decide +kernel))) ?_
              rintro _ z247 h248 ⟨rfl, I249, f246⟩
              have I249k := I249
              have I249 := ov_I_fr I241 I249k
              have er250 : h248 4 = h240 4 := ov_ff_k I249k (Or.inl (by decide)) (by decide +kernel)
              have er251 : h248 5 = h240 5 := ov_ff_k I249k (Or.inl (by decide)) (by decide +kernel)
              have er252 : h248 6 = h240 6 := ov_ff_k I249k (Or.inl (by decide)) (by decide +kernel)
              have er253 : h248 7 = h240 7 := ov_ff_k I249k (Or.inl (by decide)) (by decide +kernel)
              have er254 : h248 8 = h240 8 := ov_ff_k I249k (Or.inl (by decide)) (by decide +kernel)
              have er255 : h248 35 = h240 35 := ov_ff_k I249k (Or.inl (by decide)) (by decide +kernel)
              show ov_R u d ov_m196 52 [(0, ov_r 0), (1, ov_i m), (2, ov_i b)] [] z247 h248 (P_OF_mark_0_t F z h m b)
              have f256 : (h248 9 0) = 0 ∧ (h248 9 1) = (h240 9 1) ∧ (h248 36 7) = (h240 36 7) ∧ (h248 1 1) = (h240 1 1) ∧ (h248 90 2) = (h240 90 2) ∧ (h248 0 10) = (h240 0 10) ∧ (h248 0 11) = (h240 0 11) ∧ (h248 0 12) = (h240 0 12) ∧ (h248 0 13) = (h240 0 13) ∧ (h248 3 1) = (h240 3 1) ∧ (h248 36 8) = (h240 36 8) ∧ (h248 46 3) = (h240 46 3) ∧ (h248 46 4) = (h240 46 4) ∧ (h248 49 4) = (h240 49 4) ∧ (h248 49 5) = (h240 49 5) ∧ (h248 64 0) = (h240 64 0) ∧ (h248 76 0) = (h240 76 0) := f246
              clear f246
              refine ov_goto (tgt := 75) d_196_52 (by decide) ?_
              refine ov_blk (ls2 := [(0, ov_r 0), (1, ov_i m), (2, ov_i b)]) (st2 := [ov_i 1]) (pc2 := 76) b_196_75_1 rfl rfl ?_
              exact ov_retz (st := []) d_196_76 rfl (by omega) ⟨_, rfl, I249, (by show (1 = 0 ∨ 1 = 1) ∧ (h248 36 7) = (h 36 7) ∧ (h248 1 1) = (h 1 1) ∧ (h248 90 2) = (h 90 2) ∧ (h248 0 10) = (h 0 10) ∧ (h248 0 11) = (h 0 11) ∧ (h248 0 12) = (h 0 12) ∧ (h248 0 13) = (h 0 13) ∧ (h248 3 1) = (h 3 1) ∧ (h248 36 8) = (h 36 8) ∧ (h248 46 3) = (h 46 3) ∧ (h248 46 4) = (h 46 4) ∧ (h248 49 4) = (h 49 4) ∧ (h248 49 5) = (h 49 5) ∧ (h248 64 0) = (h 64 0) ∧ (h248 76 0) = (h 76 0); omega), (Or.inr ⟨rfl, (by omega), Or.inr ⟨(by omega), (by rw [show 15 + 5 * m = 25 by omega, show 16 + 5 * m = 26 by omega, show 17 + 5 * m = 27 by omega, show 18 + 5 * m = 28 by omega, show 19 + 5 * m = 29 by omega]; exact st_C_rw xk er250 er251 er252 er253 er254), (by omega), (by omega), (fun a a0 a1 => (ov_ff_k I249k (Or.inl (by omega)) ((by decide +kernel : ∀ n, n < 36 → 15 ≤ n → Nat.testBit 1237940038997149967466888703 n = true) a.toNat (by omega) (by omega))).trans (ov_ff_k I241k (Or.inl (by omega)) ((by decide +kernel : ∀ n, n < 36 → 15 ≤ n → Nat.testBit 1237940038997149967466888719 n = true) a.toNat (by omega) (by omega))))⟩⟩)⟩
            · have re199 : h 14 m = 30 := by omega
              rw [re199]
              show ov_R u d ov_m196 42 [(0, ov_r 0), (1, ov_i m), (2, ov_i b)] [ov_r 30, ov_r 4] z h (P_OF_mark_0_t F z h m b)
              refine ov_cV (as := [ov_r 30]) (st := []) (d2 := d - 1) d_196_42 lk_OF_322 rfl (Nat.le_of_ble_eq_true rfl) (c := 7) (zb_4 I) (zs_4 I) ⟨by decide, rfl⟩ (by omega) (c_State_copy_4_30_t (d - 1) (by omega) U (ov_I_ff (M := 1237940038997149967466888719) I) (ov_kw_ff (ov_kws hw (by decide +kernel)) (by decide +kernel))) ?_
              rintro _ z258 h259 ⟨rfl, I260, f257, xk⟩
              have I260k := I260
              have I260 := ov_I_fr I I260k
              have er261 : h259 9 = h 9 := ov_ff_k I260k (Or.inl (by decide)) (by decide +kernel)
              have ek262 : h259 9 1 = (h 9 1) := congrFun er261 1
              have er263 : h259 35 = h 35 := ov_ff_k I260k (Or.inl (by decide)) (by decide +kernel)
              show ov_R u d ov_m196 45 [(0, ov_r 0), (1, ov_i m), (2, ov_i b)] [] z258 h259 (P_OF_mark_0_t F z h m b)
              have f264 : (h259 36 7) = (h 36 7) ∧ (h259 1 1) = (h 1 1) ∧ (h259 90 2) = (h 90 2) ∧ (h259 0 10) = (h 0 10) ∧ (h259 0 11) = (h 0 11) ∧ (h259 0 12) = (h 0 12) ∧ (h259 0 13) = (h 0 13) ∧ (h259 3 1) = (h 3 1) ∧ (h259 36 8) = (h 36 8) ∧ (h259 46 3) = (h 46 3) ∧ (h259 46 4) = (h 46 4) ∧ (h259 49 4) = (h 49 4) ∧ (h259 49 5) = (h 49 5) ∧ (h259 64 0) = (h 64 0) ∧ (h259 76 0) = (h 76 0) := f257
              clear f257
              refine ov_blk (ls2 := [(0, ov_r 0), (1, ov_i m), (2, ov_i b)]) (st2 := [ov_r 0]) (pc2 := 46) b_196_45_1 rfl rfl ?_
              refine ov_getf (v := ov_r 9) d_196_46 fl_OF_35 (zb_0 I260) (zs_0 I260) (congrArg ov_r (rg_0_3 I260)) ?_
              refine ov_cV (as := []) (st := []) (d2 := d - 1) d_196_49 lk_OF_115 rfl (Nat.le_of_ble_eq_true rfl) (c := 3) (zb_9 I260) (zs_9 I260) ⟨by decide, rfl⟩ (by omega) (c_History_clear_9_u (d - 1) (by omega) U (ov_I_ff (M := 1237940038997149967466888703) I260) (ov_kw_ff (ov_kws hw (by decide +kernel)) (by decide +kernel))) ?_
              rintro _ z266 h267 ⟨rfl, I268, f265⟩
              have I268k := I268
              have I268 := ov_I_fr I260 I268k
              have er269 : h267 4 = h259 4 := ov_ff_k I268k (Or.inl (by decide)) (by decide +kernel)
              have er270 : h267 5 = h259 5 := ov_ff_k I268k (Or.inl (by decide)) (by decide +kernel)
              have er271 : h267 6 = h259 6 := ov_ff_k I268k (Or.inl (by decide)) (by decide +kernel)
              have er272 : h267 7 = h259 7 := ov_ff_k I268k (Or.inl (by decide)) (by decide +kernel)
              have er273 : h267 8 = h259 8 := ov_ff_k I268k (Or.inl (by decide)) (by decide +kernel)
              have er274 : h267 35 = h259 35 := ov_ff_k I268k (Or.inl (by decide)) (by decide +kernel)
              show ov_R u d ov_m196 52 [(0, ov_r 0), (1, ov_i m), (2, ov_i b)] [] z266 h267 (P_OF_mark_0_t F z h m b)
              have f275 : (h267 9 0) = 0 ∧ (h267 9 1) = (h259 9 1) ∧ (h267 36 7) = (h259 36 7) ∧ (h267 1 1) = (h259 1 1) ∧ (h267 90 2) = (h259 90 2) ∧ (h267 0 10) = (h259 0 10) ∧ (h267 0 11) = (h259 0 11) ∧ (h267 0 12) = (h259 0 12) ∧ (h267 0 13) = (h259 0 13) ∧ (h267 3 1) = (h259 3 1) ∧ (h267 36 8) = (h259 36 8) ∧ (h267 46 3) = (h259 46 3) ∧ (h267 46 4) = (h259 46 4) ∧ (h267 49 4) = (h259 49 4) ∧ (h267 49 5) = (h259 49 5) ∧ (h267 64 0) = (h259 64 0) ∧ (h267 76 0) = (h259 76 0) := f265
              clear f265
              refine ov_goto (tgt := 75) d_196_52 (by decide) ?_
              refine ov_blk (ls2 := [(0, ov_r 0), (1, ov_i m), (2, ov_i b)]) (st2 := [ov_i 1]) (pc2 := 76) b_196_75_1 rfl rfl ?_
              exact ov_retz (st := []) d_196_76 rfl (by omega) ⟨_, rfl, I268, (by show (1 = 0 ∨ 1 = 1) ∧ (h267 36 7) = (h 36 7) ∧ (h267 1 1) = (h 1 1) ∧ (h267 90 2) = (h 90 2) ∧ (h267 0 10) = (h 0 10) ∧ (h267 0 11) = (h 0 11) ∧ (h267 0 12) = (h 0 12) ∧ (h267 0 13) = (h 0 13) ∧ (h267 3 1) = (h 3 1) ∧ (h267 36 8) = (h 36 8) ∧ (h267 46 3) = (h 46 3) ∧ (h267 46 4) = (h 46 4) ∧ (h267 49 4) = (h 49 4) ∧ (h267 49 5) = (h 49 5) ∧ (h267 64 0) = (h 64 0) ∧ (h267 76 0) = (h 76 0); omega), (Or.inr ⟨rfl, (by omega), Or.inr ⟨(by omega), (by rw [show 15 + 5 * m = 30 by omega, show 16 + 5 * m = 31 by omega, show 17 + 5 * m = 32 by omega, show 18 + 5 * m = 33 by omega, show 19 + 5 * m = 34 by omega]; exact st_C_rw xk er269 er270 er271 er272 er273), (by omega), (by omega), (fun a a0 a1 => (ov_ff_k I268k (Or.inl (by omega)) ((by decide +kernel : ∀ n, n < 36 → 15 ≤ n → Nat.testBit 1237940038997149967466888703 n = true) a.toNat (by omega) (by omega))).trans (ov_ff_k I260k (Or.inl (by omega)) ((by decide +kernel : ∀ n, n < 36 → 15 ≤ n → Nat.testBit 1237940038997149967466888719 n = true) a.toNat (by omega) (by omega))))⟩⟩)⟩
        · skip
          refine ov_blk (ls2 := [(0, ov_r 0), (1, ov_i m), (2, ov_i b)]) (st2 := [ov_i 0]) (pc2 := 27) b_196_26_1 rfl rfl ?_
          exact ov_retz (st := []) d_196_27 rfl (by omega) ⟨_, rfl, I, (by show (0 = 0 ∨ 0 = 1) ∧ (h 36 7) = (h 36 7) ∧ (h 1 1) = (h 1 1) ∧ (h 90 2) = (h 90 2) ∧ (h 0 10) = (h 0 10) ∧ (h 0 11) = (h 0 11) ∧ (h 0 12) = (h 0 12) ∧ (h 0 13) = (h 0 13) ∧ (h 3 1) = (h 3 1) ∧ (h 36 8) = (h 36 8) ∧ (h 46 3) = (h 46 3) ∧ (h 46 4) = (h 46 4) ∧ (h 49 4) = (h 49 4) ∧ (h 49 5) = (h 49 5) ∧ (h 64 0) = (h 64 0) ∧ (h 76 0) = (h 76 0); omega), (Or.inl ⟨rfl, (by omega), (fun _ _ => rfl)⟩)⟩

abbrev P_OF_look_0 (F : ov_H) (z : ov_Z) (h : ov_H)  : Option ov_V → ov_Z → ov_H → Prop := fun r0 z' h' => ∃ r : Int, r0 = some (ov_i r) ∧ ov_I F z' h' ∧ ((r = 0 ∨ r = 1) ∧ (h' 36 7) = (h 36 7) ∧ (h' 1 1) = (h 1 1) ∧ (h' 90 2) = (h 90 2) ∧ (h' 0 10) = (h 0 10) ∧ (h' 0 11) = (h 0 11) ∧ (h' 0 12) = (h 0 12) ∧ (h' 0 13) = (h 0 13) ∧ (h' 3 1) = (h 3 1) ∧ (h' 36 8) = (h 36 8) ∧ (h' 46 3) = (h 46 3) ∧ (h' 46 4) = (h 46 4) ∧ (h' 49 4) = (h 49 4) ∧ (h' 49 5) = (h 49 5) ∧ (h' 64 0) = (h 64 0) ∧ (h' 76 0) = (h 76 0))
set_option maxHeartbeats 4000000 in
theorem c_OF_look_0 {u : ov_U} {F : ov_H} {z : ov_Z} {h : ov_H} (d : Nat) (hd : 2 ≤ d) (U : ov_cap u) (I : ov_I F z h) (hw : ov_kw 15888 F) : ov_T u d ov_m106 [ov_r 0] z h (P_OF_look_0 F z h) := by
  refine ov_en rfl (Nat.le_of_ble_eq_true rfl) ?_
  show ov_R u d ov_m106 0 [(0, ov_r 0)] [] z h (P_OF_look_0 F z h)
  refine ov_blk (ls2 := [(0, ov_r 0)]) (st2 := [ov_r 0]) (pc2 := 1) b_106_0_1 rfl rfl ?_
  rcases rg_0_10 I with e1 | e1
  · skip
    refine ov_getf (v := ov_r 58) d_106_1 fl_OF_78 (zb_0 I) (zs_0 I) (congrArg ov_r e1) ?_
    refine ov_getf (v := ov_r 59) d_106_4 fl_OF_139 (zb_58 I) (zs_58 I) (congrArg ov_r (rg_58_2 I)) ?_
    refine ov_blk (ls2 := [(0, ov_r 0)]) (st2 := [ov_r 0, ov_r 59]) (pc2 := 8) b_106_7_1 rfl rfl ?_
    refine ov_getf (v := ov_r 4) d_106_8 fl_OF_28 (zb_0 I) (zs_0 I) (congrArg ov_r (rg_0_2 I)) ?_
    refine ov_getf (v := ov_i (h 4 0)) d_106_11 fl_OF_166 (zb_4 I) (zs_4 I) rfl ?_
    have g2 := rg_4_0 I
    refine ov_iald d_106_14 (zb_59 I) (zs_59 I) (by omega) ?_
    have g3 := ra_59 I (h 4 0)
    refine ov_blk (ls2 := [(0, ov_r 0)]) (st2 := [ov_i 1, ov_i (h 59 (h 4 0))]) (pc2 := 16) b_106_15_1 rfl rfl ?_
    refine ov_icne (tgt := 36) d_106_16 (by decide) (by omega) (by omega) (fun c4 => ?_) (fun c4 => ?_)
    · skip
      refine ov_blk (ls2 := [(0, ov_r 0)]) (st2 := [ov_i 0]) (pc2 := 37) b_106_36_1 rfl rfl ?_
      exact ov_retz (st := []) d_106_37 rfl (by omega) ⟨_, rfl, I, (by show (0 = 0 ∨ 0 = 1) ∧ (h 36 7) = (h 36 7) ∧ (h 1 1) = (h 1 1) ∧ (h 90 2) = (h 90 2) ∧ (h 0 10) = (h 0 10) ∧ (h 0 11) = (h 0 11) ∧ (h 0 12) = (h 0 12) ∧ (h 0 13) = (h 0 13) ∧ (h 3 1) = (h 3 1) ∧ (h 36 8) = (h 36 8) ∧ (h 46 3) = (h 46 3) ∧ (h 46 4) = (h 46 4) ∧ (h 49 4) = (h 49 4) ∧ (h 49 5) = (h 49 5) ∧ (h 64 0) = (h 64 0) ∧ (h 76 0) = (h 76 0); omega)⟩
    · skip
      refine ov_blk (ls2 := [(0, ov_r 0)]) (st2 := [ov_r 0]) (pc2 := 20) b_106_19_1 rfl rfl ?_
      refine ov_getf (v := ov_r 4) d_106_20 fl_OF_28 (zb_0 I) (zs_0 I) (congrArg ov_r (rg_0_2 I)) ?_
      refine ov_blk (ls2 := [(0, ov_r 0)]) (st2 := [ov_r 0, ov_r 4]) (pc2 := 24) b_106_23_1 rfl rfl ?_
      refine ov_getf (v := ov_r 4) d_106_24 fl_OF_28 (zb_0 I) (zs_0 I) (congrArg ov_r (rg_0_2 I)) ?_
      refine ov_getf (v := ov_i (h 4 0)) d_106_27 fl_OF_166 (zb_4 I) (zs_4 I) rfl ?_
      refine ov_cV (as := [ov_i (h 4 0)]) (st := []) (d2 := d - 1) d_106_30 lk_OF_151 rfl (Nat.le_of_ble_eq_true rfl) (c := 7) (zb_4 I) (zs_4 I) ⟨by decide, rfl⟩ (by omega) (c_State_knows_4 (d - 1) (by omega) U I (h 4 0) (by omega)) ?_
      rintro _ _ _ ⟨v7, rfl, rfl, rfl, f6⟩
      show ov_R u d ov_m106 33 [(0, ov_r 0)] [ov_i v7] z h (P_OF_look_0 F z h)
      have f8 : (v7 = 0 ∨ v7 = 1) := f6
      clear f6
      refine ov_ifeq (tgt := 38) d_106_33 (by decide) (by omega) (fun c9 => ?_) (fun c9 => ?_)
      · skip
        refine ov_blk (ls2 := [(0, ov_r 0)]) (st2 := [ov_r 0]) (pc2 := 39) b_106_38_1 rfl rfl ?_
        refine ov_getf (v := ov_r 9) d_106_39 fl_OF_35 (zb_0 I) (zs_0 I) (congrArg ov_r (rg_0_3 I)) ?_
        refine ov_blk (ls2 := [(0, ov_r 0)]) (st2 := [ov_r 0, ov_r 9]) (pc2 := 43) b_106_42_1 rfl rfl ?_
        refine ov_getf (v := ov_r 4) d_106_43 fl_OF_28 (zb_0 I) (zs_0 I) (congrArg ov_r (rg_0_2 I)) ?_
        refine ov_cV (as := [ov_r 4]) (st := []) (d2 := d - 1) d_106_46 lk_OF_172 rfl (Nat.le_of_ble_eq_true rfl) (c := 3) (zb_9 I) (zs_9 I) ⟨by decide, rfl⟩ (by omega) (c_History_keep_9_4_b (d - 1) (by omega) U I (ov_kws hw (by decide +kernel))) ?_
        rintro _ z11 h12 ⟨rfl, I13, f10⟩
        show ov_R u d ov_m106 49 [(0, ov_r 0)] [] z11 h12 (P_OF_look_0 F z h)
        have f14 : (h12 4 0) = (h 4 0) ∧ (h12 36 7) = (h 36 7) ∧ (h12 1 1) = (h 1 1) ∧ (h12 90 2) = (h 90 2) ∧ (h12 0 10) = (h 0 10) ∧ (h12 0 11) = (h 0 11) ∧ (h12 0 12) = (h 0 12) ∧ (h12 0 13) = (h 0 13) ∧ (h12 3 1) = (h 3 1) ∧ (h12 36 8) = (h 36 8) ∧ (h12 46 3) = (h 46 3) ∧ (h12 46 4) = (h 46 4) ∧ (h12 49 4) = (h 49 4) ∧ (h12 49 5) = (h 49 5) ∧ (h12 64 0) = (h 64 0) ∧ (h12 76 0) = (h 76 0) := f10
        clear f10
        have e15 : h12 0 10 = 58 := by omega
        refine ov_blk (ls2 := [(0, ov_r 0)]) (st2 := [ov_r 0]) (pc2 := 50) b_106_49_1 rfl rfl ?_
        refine ov_getf (v := ov_r 4) d_106_50 fl_OF_28 (zb_0 I13) (zs_0 I13) (congrArg ov_r (rg_0_2 I13)) ?_
        refine ov_blk (ls2 := [(0, ov_r 0)]) (st2 := [ov_r 4, ov_r 4]) (pc2 := 54) b_106_53_1 rfl rfl ?_
        refine ov_getf (v := ov_l (h12 4 3)) d_106_54 fl_OF_192 (zb_4 I13) (zs_4 I13) rfl ?_
        refine ov_blk (ls2 := [(0, ov_r 0)]) (st2 := [ov_r 0, ov_l 1, ov_l (h12 4 3), ov_r 4]) (pc2 := 59) b_106_57_2 rfl rfl ?_
        refine ov_getf (v := ov_r 4) d_106_59 fl_OF_28 (zb_0 I13) (zs_0 I13) (congrArg ov_r (rg_0_2 I13)) ?_
        refine ov_getf (v := ov_i (h12 4 0)) d_106_62 fl_OF_166 (zb_4 I13) (zs_4 I13) rfl ?_
        have g16 := rg_4_0 I13
        refine ov_blk (ls2 := [(0, ov_r 0)]) (st2 := [ov_l (ov_lor (h12 4 3) (ov_lshl 1 (h12 4 0))), ov_r 4]) (pc2 := 67) b_106_65_2 rfl rfl ?_
        refine ov_putf (x := (ov_lor (h12 4 3) (ov_lshl 1 (h12 4 0)))) d_106_67 fl_OF_192 (zb_4 I13) (zs_4 I13) rfl nk_1 rfl ?_
        have I17 := up_4_3 (x := (ov_lor (h12 4 3) (ov_lshl 1 (h12 4 0)))) I13 (hw 4 (by decide +kernel))
        refine ov_blk (ls2 := [(0, ov_r 0)]) (st2 := [ov_i 1]) (pc2 := 71) b_106_70_1 rfl rfl ?_
        exact ov_retz (st := []) d_106_71 rfl (by omega) ⟨_, rfl, I17, (by show (1 = 0 ∨ 1 = 1) ∧ (h12 36 7) = (h 36 7) ∧ (h12 1 1) = (h 1 1) ∧ (h12 90 2) = (h 90 2) ∧ (h12 0 10) = (h 0 10) ∧ (h12 0 11) = (h 0 11) ∧ (h12 0 12) = (h 0 12) ∧ (h12 0 13) = (h 0 13) ∧ (h12 3 1) = (h 3 1) ∧ (h12 36 8) = (h 36 8) ∧ (h12 46 3) = (h 46 3) ∧ (h12 46 4) = (h 46 4) ∧ (h12 49 4) = (h 49 4) ∧ (h12 49 5) = (h 49 5) ∧ (h12 64 0) = (h 64 0) ∧ (h12 76 0) = (h 76 0); omega)⟩
      · skip
        refine ov_blk (ls2 := [(0, ov_r 0)]) (st2 := [ov_i 0]) (pc2 := 37) b_106_36_1 rfl rfl ?_
        exact ov_retz (st := []) d_106_37 rfl (by omega) ⟨_, rfl, I, (by show (0 = 0 ∨ 0 = 1) ∧ (h 36 7) = (h 36 7) ∧ (h 1 1) = (h 1 1) ∧ (h 90 2) = (h 90 2) ∧ (h 0 10) = (h 0 10) ∧ (h 0 11) = (h 0 11) ∧ (h 0 12) = (h 0 12) ∧ (h 0 13) = (h 0 13) ∧ (h 3 1) = (h 3 1) ∧ (h 36 8) = (h 36 8) ∧ (h 46 3) = (h 46 3) ∧ (h 46 4) = (h 46 4) ∧ (h 49 4) = (h 49 4) ∧ (h 49 5) = (h 49 5) ∧ (h 64 0) = (h 64 0) ∧ (h 76 0) = (h 76 0); omega)⟩
  · skip
    refine ov_getf (v := ov_r 70) d_106_1 fl_OF_78 (zb_0 I) (zs_0 I) (congrArg ov_r e1) ?_
    refine ov_getf (v := ov_r 71) d_106_4 fl_OF_139 (zb_70 I) (zs_70 I) (congrArg ov_r (rg_70_2 I)) ?_
    refine ov_blk (ls2 := [(0, ov_r 0)]) (st2 := [ov_r 0, ov_r 71]) (pc2 := 8) b_106_7_1 rfl rfl ?_
    refine ov_getf (v := ov_r 4) d_106_8 fl_OF_28 (zb_0 I) (zs_0 I) (congrArg ov_r (rg_0_2 I)) ?_
    refine ov_getf (v := ov_i (h 4 0)) d_106_11 fl_OF_166 (zb_4 I) (zs_4 I) rfl ?_
    have g18 := rg_4_0 I
    refine ov_iald d_106_14 (zb_71 I) (zs_71 I) (by omega) ?_
    have g19 := ra_71 I (h 4 0)
    refine ov_blk (ls2 := [(0, ov_r 0)]) (st2 := [ov_i 1, ov_i (h 71 (h 4 0))]) (pc2 := 16) b_106_15_1 rfl rfl ?_
    refine ov_icne (tgt := 36) d_106_16 (by decide) (by omega) (by omega) (fun c20 => ?_) (fun c20 => ?_)
    · skip
      refine ov_blk (ls2 := [(0, ov_r 0)]) (st2 := [ov_i 0]) (pc2 := 37) b_106_36_1 rfl rfl ?_
      exact ov_retz (st := []) d_106_37 rfl (by omega) ⟨_, rfl, I, (by show (0 = 0 ∨ 0 = 1) ∧ (h 36 7) = (h 36 7) ∧ (h 1 1) = (h 1 1) ∧ (h 90 2) = (h 90 2) ∧ (h 0 10) = (h 0 10) ∧ (h 0 11) = (h 0 11) ∧ (h 0 12) = (h 0 12) ∧ (h 0 13) = (h 0 13) ∧ (h 3 1) = (h 3 1) ∧ (h 36 8) = (h 36 8) ∧ (h 46 3) = (h 46 3) ∧ (h 46 4) = (h 46 4) ∧ (h 49 4) = (h 49 4) ∧ (h 49 5) = (h 49 5) ∧ (h 64 0) = (h 64 0) ∧ (h 76 0) = (h 76 0); omega)⟩
    · skip
      refine ov_blk (ls2 := [(0, ov_r 0)]) (st2 := [ov_r 0]) (pc2 := 20) b_106_19_1 rfl rfl ?_
      refine ov_getf (v := ov_r 4) d_106_20 fl_OF_28 (zb_0 I) (zs_0 I) (congrArg ov_r (rg_0_2 I)) ?_
      refine ov_blk (ls2 := [(0, ov_r 0)]) (st2 := [ov_r 0, ov_r 4]) (pc2 := 24) b_106_23_1 rfl rfl ?_
      refine ov_getf (v := ov_r 4) d_106_24 fl_OF_28 (zb_0 I) (zs_0 I) (congrArg ov_r (rg_0_2 I)) ?_
      refine ov_getf (v := ov_i (h 4 0)) d_106_27 fl_OF_166 (zb_4 I) (zs_4 I) rfl ?_
      refine ov_cV (as := [ov_i (h 4 0)]) (st := []) (d2 := d - 1) d_106_30 lk_OF_151 rfl (Nat.le_of_ble_eq_true rfl) (c := 7) (zb_4 I) (zs_4 I) ⟨by decide, rfl⟩ (by omega) (c_State_knows_4 (d - 1) (by omega) U I (h 4 0) (by omega)) ?_
      rintro _ _ _ ⟨v23, rfl, rfl, rfl, f22⟩
      show ov_R u d ov_m106 33 [(0, ov_r 0)] [ov_i v23] z h (P_OF_look_0 F z h)
      have f24 : (v23 = 0 ∨ v23 = 1) := f22
      clear f22
      refine ov_ifeq (tgt := 38) d_106_33 (by decide) (by omega) (fun c25 => ?_) (fun c25 => ?_)
      · skip
        refine ov_blk (ls2 := [(0, ov_r 0)]) (st2 := [ov_r 0]) (pc2 := 39) b_106_38_1 rfl rfl ?_
        refine ov_getf (v := ov_r 9) d_106_39 fl_OF_35 (zb_0 I) (zs_0 I) (congrArg ov_r (rg_0_3 I)) ?_
        refine ov_blk (ls2 := [(0, ov_r 0)]) (st2 := [ov_r 0, ov_r 9]) (pc2 := 43) b_106_42_1 rfl rfl ?_
        refine ov_getf (v := ov_r 4) d_106_43 fl_OF_28 (zb_0 I) (zs_0 I) (congrArg ov_r (rg_0_2 I)) ?_
        refine ov_cV (as := [ov_r 4]) (st := []) (d2 := d - 1) d_106_46 lk_OF_172 rfl (Nat.le_of_ble_eq_true rfl) (c := 3) (zb_9 I) (zs_9 I) ⟨by decide, rfl⟩ (by omega) (c_History_keep_9_4_b (d - 1) (by omega) U I (ov_kws hw (by decide +kernel))) ?_
        rintro _ z27 h28 ⟨rfl, I29, f26⟩
        show ov_R u d ov_m106 49 [(0, ov_r 0)] [] z27 h28 (P_OF_look_0 F z h)
        have f30 : (h28 4 0) = (h 4 0) ∧ (h28 36 7) = (h 36 7) ∧ (h28 1 1) = (h 1 1) ∧ (h28 90 2) = (h 90 2) ∧ (h28 0 10) = (h 0 10) ∧ (h28 0 11) = (h 0 11) ∧ (h28 0 12) = (h 0 12) ∧ (h28 0 13) = (h 0 13) ∧ (h28 3 1) = (h 3 1) ∧ (h28 36 8) = (h 36 8) ∧ (h28 46 3) = (h 46 3) ∧ (h28 46 4) = (h 46 4) ∧ (h28 49 4) = (h 49 4) ∧ (h28 49 5) = (h 49 5) ∧ (h28 64 0) = (h 64 0) ∧ (h28 76 0) = (h 76 0) := f26
        clear f26
        have e31 : h28 0 10 = 70 := by omega
        refine ov_blk (ls2 := [(0, ov_r 0)]) (st2 := [ov_r 0]) (pc2 := 50) b_106_49_1 rfl rfl ?_
        refine ov_getf (v := ov_r 4) d_106_50 fl_OF_28 (zb_0 I29) (zs_0 I29) (congrArg ov_r (rg_0_2 I29)) ?_
        refine ov_blk (ls2 := [(0, ov_r 0)]) (st2 := [ov_r 4, ov_r 4]) (pc2 := 54) b_106_53_1 rfl rfl ?_
        refine ov_getf (v := ov_l (h28 4 3)) d_106_54 fl_OF_192 (zb_4 I29) (zs_4 I29) rfl ?_
        refine ov_blk (ls2 := [(0, ov_r 0)]) (st2 := [ov_r 0, ov_l 1, ov_l (h28 4 3), ov_r 4]) (pc2 := 59) b_106_57_2 rfl rfl ?_
        refine ov_getf (v := ov_r 4) d_106_59 fl_OF_28 (zb_0 I29) (zs_0 I29) (congrArg ov_r (rg_0_2 I29)) ?_
        refine ov_getf (v := ov_i (h28 4 0)) d_106_62 fl_OF_166 (zb_4 I29) (zs_4 I29) rfl ?_
        have g32 := rg_4_0 I29
        refine ov_blk (ls2 := [(0, ov_r 0)]) (st2 := [ov_l (ov_lor (h28 4 3) (ov_lshl 1 (h28 4 0))), ov_r 4]) (pc2 := 67) b_106_65_2 rfl rfl ?_
        refine ov_putf (x := (ov_lor (h28 4 3) (ov_lshl 1 (h28 4 0)))) d_106_67 fl_OF_192 (zb_4 I29) (zs_4 I29) rfl nk_1 rfl ?_
        have I33 := up_4_3 (x := (ov_lor (h28 4 3) (ov_lshl 1 (h28 4 0)))) I29 (hw 4 (by decide +kernel))
        refine ov_blk (ls2 := [(0, ov_r 0)]) (st2 := [ov_i 1]) (pc2 := 71) b_106_70_1 rfl rfl ?_
        exact ov_retz (st := []) d_106_71 rfl (by omega) ⟨_, rfl, I33, (by show (1 = 0 ∨ 1 = 1) ∧ (h28 36 7) = (h 36 7) ∧ (h28 1 1) = (h 1 1) ∧ (h28 90 2) = (h 90 2) ∧ (h28 0 10) = (h 0 10) ∧ (h28 0 11) = (h 0 11) ∧ (h28 0 12) = (h 0 12) ∧ (h28 0 13) = (h 0 13) ∧ (h28 3 1) = (h 3 1) ∧ (h28 36 8) = (h 36 8) ∧ (h28 46 3) = (h 46 3) ∧ (h28 46 4) = (h 46 4) ∧ (h28 49 4) = (h 49 4) ∧ (h28 49 5) = (h 49 5) ∧ (h28 64 0) = (h 64 0) ∧ (h28 76 0) = (h 76 0); omega)⟩
      · skip
        refine ov_blk (ls2 := [(0, ov_r 0)]) (st2 := [ov_i 0]) (pc2 := 37) b_106_36_1 rfl rfl ?_
        exact ov_retz (st := []) d_106_37 rfl (by omega) ⟨_, rfl, I, (by show (0 = 0 ∨ 0 = 1) ∧ (h 36 7) = (h 36 7) ∧ (h 1 1) = (h 1 1) ∧ (h 90 2) = (h 90 2) ∧ (h 0 10) = (h 0 10) ∧ (h 0 11) = (h 0 11) ∧ (h 0 12) = (h 0 12) ∧ (h 0 13) = (h 0 13) ∧ (h 3 1) = (h 3 1) ∧ (h 36 8) = (h 36 8) ∧ (h 46 3) = (h 46 3) ∧ (h 46 4) = (h 46 4) ∧ (h 49 4) = (h 49 4) ∧ (h 49 5) = (h 49 5) ∧ (h 64 0) = (h 64 0) ∧ (h 76 0) = (h 76 0); omega)⟩
abbrev P_OF_undo_0 (F : ov_H) (z : ov_Z) (h : ov_H)  : Option ov_V → ov_Z → ov_H → Prop := fun r0 z' h' => ∃ r : Int, r0 = some (ov_i r) ∧ ov_I F z' h' ∧ ((r = 0 ∨ r = 1) ∧ (h' 36 7) = (h 36 7) ∧ (h' 1 1) = (h 1 1) ∧ (h' 90 2) = (h 90 2) ∧ (h' 0 10) = (h 0 10) ∧ (h' 0 11) = (h 0 11) ∧ (h' 0 12) = (h 0 12) ∧ (h' 0 13) = (h 0 13) ∧ (h' 3 1) = (h 3 1) ∧ (h' 36 8) = (h 36 8) ∧ (h' 46 3) = (h 46 3) ∧ (h' 46 4) = (h 46 4) ∧ (h' 49 4) = (h 49 4) ∧ (h' 49 5) = (h 49 5) ∧ (h' 64 0) = (h 64 0) ∧ (h' 76 0) = (h 76 0))
set_option maxHeartbeats 4000000 in
theorem c_OF_undo_0 {u : ov_U} {F : ov_H} {z : ov_Z} {h : ov_H} (d : Nat) (hd : 1 ≤ d) (U : ov_cap u) (I : ov_I F z h) (hw : ov_kw 528 F) : ov_T u d ov_m107 [ov_r 0] z h (P_OF_undo_0 F z h) := by
  refine ov_en rfl (Nat.le_of_ble_eq_true rfl) ?_
  show ov_R u d ov_m107 0 [(0, ov_r 0)] [] z h (P_OF_undo_0 F z h)
  refine ov_blk (ls2 := [(0, ov_r 0)]) (st2 := [ov_r 0]) (pc2 := 1) b_107_0_1 rfl rfl ?_
  refine ov_getf (v := ov_r 9) d_107_1 fl_OF_35 (zb_0 I) (zs_0 I) (congrArg ov_r (rg_0_3 I)) ?_
  refine ov_blk (ls2 := [(0, ov_r 0)]) (st2 := [ov_r 0, ov_r 9]) (pc2 := 5) b_107_4_1 rfl rfl ?_
  refine ov_getf (v := ov_r 4) d_107_5 fl_OF_28 (zb_0 I) (zs_0 I) (congrArg ov_r (rg_0_2 I)) ?_
  refine ov_cV (as := [ov_r 4]) (st := []) (d2 := d - 1) d_107_8 lk_OF_196 rfl (Nat.le_of_ble_eq_true rfl) (c := 3) (zb_9 I) (zs_9 I) ⟨by decide, rfl⟩ (by omega) (c_History_giveBack_9_4 (d - 1) (by omega) U I (ov_kws hw (by decide +kernel))) ?_
  rintro _ z3 h4 ⟨v2, rfl, I5, f1⟩
  show ov_R u d ov_m107 11 [(0, ov_r 0)] [ov_i v2] z3 h4 (P_OF_undo_0 F z h)
  have f6 : (v2 = 0 ∨ v2 = 1) ∧ (h4 36 7) = (h 36 7) ∧ (h4 1 1) = (h 1 1) ∧ (h4 90 2) = (h 90 2) ∧ (h4 0 10) = (h 0 10) ∧ (h4 0 11) = (h 0 11) ∧ (h4 0 12) = (h 0 12) ∧ (h4 0 13) = (h 0 13) ∧ (h4 3 1) = (h 3 1) ∧ (h4 36 8) = (h 36 8) ∧ (h4 46 3) = (h 46 3) ∧ (h4 46 4) = (h 46 4) ∧ (h4 49 4) = (h 49 4) ∧ (h4 49 5) = (h 49 5) ∧ (h4 64 0) = (h 64 0) ∧ (h4 76 0) = (h 76 0) := f1
  clear f1
  exact ov_retz (st := []) d_107_11 rfl (by omega) ⟨_, rfl, I5, (by show (v2 = 0 ∨ v2 = 1) ∧ (h4 36 7) = (h 36 7) ∧ (h4 1 1) = (h 1 1) ∧ (h4 90 2) = (h 90 2) ∧ (h4 0 10) = (h 0 10) ∧ (h4 0 11) = (h 0 11) ∧ (h4 0 12) = (h 0 12) ∧ (h4 0 13) = (h 0 13) ∧ (h4 3 1) = (h 3 1) ∧ (h4 36 8) = (h 36 8) ∧ (h4 46 3) = (h 46 3) ∧ (h4 46 4) = (h 46 4) ∧ (h4 49 4) = (h 49 4) ∧ (h4 49 5) = (h 49 5) ∧ (h4 64 0) = (h 64 0) ∧ (h4 76 0) = (h 76 0); omega)⟩
abbrev P_OF_judged_0 (F : ov_H) (z : ov_Z) (h : ov_H)  : Option ov_V → ov_Z → ov_H → Prop := fun r0 z' h' => ∃ r : Int, r0 = some (ov_i r) ∧ z = z' ∧ h = h' ∧ (True)
set_option maxHeartbeats 4000000 in
theorem c_OF_judged_0 {u : ov_U} {F : ov_H} {z : ov_Z} {h : ov_H} (d : Nat) (hd : 4 ≤ d) (U : ov_cap u) (I : ov_I F z h) : ov_T u d ov_m109 [ov_r 0] z h (P_OF_judged_0 F z h) := by
  refine ov_en rfl (Nat.le_of_ble_eq_true rfl) ?_
  show ov_R u d ov_m109 0 [(0, ov_r 0)] [] z h (P_OF_judged_0 F z h)
  refine ov_blk (ls2 := [(0, ov_r 0)]) (st2 := [ov_r 0]) (pc2 := 1) b_109_0_1 rfl rfl ?_
  rcases rg_0_12 I with e1 | e1
  · skip
    refine ov_getf (v := ov_r 82) d_109_1 fl_OF_88 (zb_0 I) (zs_0 I) (congrArg ov_r e1) ?_
    refine ov_blk (ls2 := [(0, ov_r 0)]) (st2 := [ov_r 0, ov_r 82]) (pc2 := 5) b_109_4_1 rfl rfl ?_
    rcases rg_0_10 I with e2 | e2
    · skip
      refine ov_getf (v := ov_r 58) d_109_5 fl_OF_78 (zb_0 I) (zs_0 I) (congrArg ov_r e2) ?_
      refine ov_cV (as := [ov_r 58]) (st := []) (d2 := d - 1) d_109_8 lk_OF_200 rfl (Nat.le_of_ble_eq_true rfl) (c := 10) (zb_82 I) (zs_82 I) ⟨by decide, rfl⟩ (by omega) (c_Walk_firstWrong_82_58 (d - 1) (by omega) U I) ?_
      rintro _ _ _ ⟨v4, rfl, rfl, rfl, f3⟩
      show ov_R u d ov_m109 11 [(0, ov_r 0)] [ov_i v4] z h (P_OF_judged_0 F z h)
      have f5 : -1 ≤ v4 ∧ v4 ≤ 13 := f3
      clear f3
      exact ov_reti (st := []) d_109_11 rfl ⟨_, rfl, rfl, rfl, trivial⟩
    · skip
      refine ov_getf (v := ov_r 70) d_109_5 fl_OF_78 (zb_0 I) (zs_0 I) (congrArg ov_r e2) ?_
      refine ov_cV (as := [ov_r 70]) (st := []) (d2 := d - 1) d_109_8 lk_OF_200 rfl (Nat.le_of_ble_eq_true rfl) (c := 10) (zb_82 I) (zs_82 I) ⟨by decide, rfl⟩ (by omega) (c_Walk_firstWrong_82_70 (d - 1) (by omega) U I) ?_
      rintro _ _ _ ⟨v7, rfl, rfl, rfl, f6⟩
      show ov_R u d ov_m109 11 [(0, ov_r 0)] [ov_i v7] z h (P_OF_judged_0 F z h)
      have f8 : -1 ≤ v7 ∧ v7 ≤ 13 := f6
      clear f6
      exact ov_reti (st := []) d_109_11 rfl ⟨_, rfl, rfl, rfl, trivial⟩
  · skip
    refine ov_getf (v := ov_r 86) d_109_1 fl_OF_88 (zb_0 I) (zs_0 I) (congrArg ov_r e1) ?_
    refine ov_blk (ls2 := [(0, ov_r 0)]) (st2 := [ov_r 0, ov_r 86]) (pc2 := 5) b_109_4_1 rfl rfl ?_
    rcases rg_0_10 I with e9 | e9
    · skip
      refine ov_getf (v := ov_r 58) d_109_5 fl_OF_78 (zb_0 I) (zs_0 I) (congrArg ov_r e9) ?_
      refine ov_cV (as := [ov_r 58]) (st := []) (d2 := d - 1) d_109_8 lk_OF_200 rfl (Nat.le_of_ble_eq_true rfl) (c := 10) (zb_86 I) (zs_86 I) ⟨by decide, rfl⟩ (by omega) (c_Walk_firstWrong_86_58 (d - 1) (by omega) U I) ?_
      rintro _ _ _ ⟨v11, rfl, rfl, rfl, f10⟩
      show ov_R u d ov_m109 11 [(0, ov_r 0)] [ov_i v11] z h (P_OF_judged_0 F z h)
      have f12 : -1 ≤ v11 ∧ v11 ≤ 13 := f10
      clear f10
      exact ov_reti (st := []) d_109_11 rfl ⟨_, rfl, rfl, rfl, trivial⟩
    · skip
      refine ov_getf (v := ov_r 70) d_109_5 fl_OF_78 (zb_0 I) (zs_0 I) (congrArg ov_r e9) ?_
      refine ov_cV (as := [ov_r 70]) (st := []) (d2 := d - 1) d_109_8 lk_OF_200 rfl (Nat.le_of_ble_eq_true rfl) (c := 10) (zb_86 I) (zs_86 I) ⟨by decide, rfl⟩ (by omega) (c_Walk_firstWrong_86_70 (d - 1) (by omega) U I) ?_
      rintro _ _ _ ⟨v14, rfl, rfl, rfl, f13⟩
      show ov_R u d ov_m109 11 [(0, ov_r 0)] [ov_i v14] z h (P_OF_judged_0 F z h)
      have f15 : -1 ≤ v14 ∧ v14 ≤ 13 := f13
      clear f13
      exact ov_reti (st := []) d_109_11 rfl ⟨_, rfl, rfl, rfl, trivial⟩
abbrev P_OF_soonest_0 (F : ov_H) (z : ov_Z) (h : ov_H) (x : Int) (y : Int) (s : Int) (w : Int) : Option ov_V → ov_Z → ov_H → Prop := fun r0 z' h' => ∃ r : Int, r0 = some (ov_i r) ∧ ov_I F z' h' ∧ ((h' 36 7) = (h 36 7) ∧ (h' 1 1) = (h 1 1) ∧ (h' 90 2) = (h 90 2) ∧ (h' 0 10) = (h 0 10) ∧ (h' 0 11) = (h 0 11) ∧ (h' 0 12) = (h 0 12) ∧ (h' 0 13) = (h 0 13) ∧ (h' 3 1) = (h 3 1) ∧ (h' 36 8) = (h 36 8) ∧ (h' 46 4) = (h 46 4) ∧ (h' 49 4) = (h 49 4) ∧ (h' 49 5) = (h 49 5) ∧ (h' 64 0) = (h 64 0) ∧ (h' 76 0) = (h 76 0))
set_option maxHeartbeats 4000000 in
theorem c_OF_soonest_0 {u : ov_U} {F : ov_H} {z : ov_Z} {h : ov_H} (d : Nat) (hd : 21 ≤ d) (U : ov_cap u) (I : ov_I F z h) (x : Int) (y : Int) (s : Int) (w : Int) (g_x : ov_g x) (g_y : ov_g y) (g_s : ov_g s) (g_w : ov_g w) (p0 : (h 0 10 = 58 ∧ h 0 11 = 70 ∧ 0 ≤ h 64 0 ∨ h 0 10 = 70 ∧ h 0 11 = 58 ∧ 0 ≤ h 76 0)) (p1 : (h 0 10 = 58 ∧ F (-5) 58 = 1 ∨ h 0 10 = 70 ∧ F (-5) 70 = 1)) : ov_T u d ov_m112 [ov_r 0, ov_i x, ov_i y, ov_i s, ov_i w] z h (P_OF_soonest_0 F z h x y s w) := by
  refine ov_en rfl (Nat.le_of_ble_eq_true rfl) ?_
  show ov_R u d ov_m112 0 [(0, ov_r 0), (1, ov_i x), (2, ov_i y), (3, ov_i s), (4, ov_i w)] [] z h (P_OF_soonest_0 F z h x y s w)
  refine ov_blk (ls2 := [(0, ov_r 0), (1, ov_i x), (2, ov_i y), (3, ov_i s), (4, ov_i w)]) (st2 := [ov_r 0]) (pc2 := 1) b_112_0_1 rfl rfl ?_
  rcases rg_0_10 I with e1 | e1
  · skip
    refine ov_getf (v := ov_r 58) d_112_1 fl_OF_78 (zb_0 I) (zs_0 I) (congrArg ov_r e1) ?_
    refine ov_blk (ls2 := [(0, ov_r 0), (1, ov_i x), (2, ov_i y), (3, ov_i s), (4, ov_i w)]) (st2 := [ov_i y, ov_i x, ov_r 58]) (pc2 := 6) b_112_4_2 rfl rfl ?_
    refine ov_cV (as := [ov_i x, ov_i y]) (st := []) (d2 := d - 1) d_112_6 lk_OF_131 rfl (Nat.le_of_ble_eq_true rfl) (c := 9) (zb_58 I) (zs_58 I) ⟨by decide, rfl⟩ (by omega) (c_Town_corner_58 (d - 1) (by omega) U I x y (by omega) (by omega)) ?_
    rintro _ _ _ ⟨v3, rfl, rfl, rfl, f2⟩
    show ov_R u d ov_m112 9 [(0, ov_r 0), (1, ov_i x), (2, ov_i y), (3, ov_i s), (4, ov_i w)] [ov_i v3] z h (P_OF_soonest_0 F z h x y s w)
    have f4 : v3 = -1 ∨ (0 ≤ x ∧ x < (h 58 0) ∧ 0 ≤ y ∧ y < (h 58 1) ∧ v3 = y * 6 + x ∧ (h 58 0) ≤ 6 ∧ (h 58 1) ≤ 9) := f2
    clear f2
    refine ov_blk (ls2 := [(0, ov_r 0), (1, ov_i x), (2, ov_i y), (3, ov_i s), (4, ov_i w), (5, ov_i v3)]) (st2 := [ov_i (-1), ov_i v3]) (pc2 := 14) b_112_9_3 rfl rfl ?_
    refine ov_iceq (tgt := 37) d_112_14 (by decide) (by omega) (by omega) (fun c5 => ?_) (fun c5 => ?_)
    · skip
      refine ov_blk (ls2 := [(0, ov_r 0), (1, ov_i x), (2, ov_i y), (3, ov_i s), (4, ov_i w), (5, ov_i v3)]) (st2 := [ov_i (-2)]) (pc2 := 39) b_112_37_1 rfl rfl ?_
      exact ov_reti (st := []) d_112_39 rfl ⟨_, rfl, I, (by show (h 36 7) = (h 36 7) ∧ (h 1 1) = (h 1 1) ∧ (h 90 2) = (h 90 2) ∧ (h 0 10) = (h 0 10) ∧ (h 0 11) = (h 0 11) ∧ (h 0 12) = (h 0 12) ∧ (h 0 13) = (h 0 13) ∧ (h 3 1) = (h 3 1) ∧ (h 36 8) = (h 36 8) ∧ (h 46 4) = (h 46 4) ∧ (h 49 4) = (h 49 4) ∧ (h 49 5) = (h 49 5) ∧ (h 64 0) = (h 64 0) ∧ (h 76 0) = (h 76 0); omega)⟩
    · skip
      refine ov_blk (ls2 := [(0, ov_r 0), (1, ov_i x), (2, ov_i y), (3, ov_i s), (4, ov_i w), (5, ov_i v3)]) (st2 := [ov_i s]) (pc2 := 18) b_112_17_1 rfl rfl ?_
      refine ov_cS (as := [ov_i s]) (st := []) (d2 := d - 1) d_112_18 lk_OF_155 rfl (Nat.le_of_ble_eq_true rfl) (by omega) (c_OF_isSecond (d - 1) (by omega) U I s (by omega)) ?_
      rintro _ _ _ ⟨v7, rfl, rfl, rfl, f6⟩
      show ov_R u d ov_m112 21 [(0, ov_r 0), (1, ov_i x), (2, ov_i y), (3, ov_i s), (4, ov_i w), (5, ov_i v3)] [ov_i v7] z h (P_OF_soonest_0 F z h x y s w)
      have f8 : (v7 = 0 ∨ v7 = 1) ∧ (v7 = 1 → 0 ≤ s ∧ s ≤ 1000000) := f6
      clear f6
      refine ov_ifeq (tgt := 37) d_112_21 (by decide) (by omega) (fun c9 => ?_) (fun c9 => ?_)
      · skip
        refine ov_blk (ls2 := [(0, ov_r 0), (1, ov_i x), (2, ov_i y), (3, ov_i s), (4, ov_i w), (5, ov_i v3)]) (st2 := [ov_i (-2)]) (pc2 := 39) b_112_37_1 rfl rfl ?_
        exact ov_reti (st := []) d_112_39 rfl ⟨_, rfl, I, (by show (h 36 7) = (h 36 7) ∧ (h 1 1) = (h 1 1) ∧ (h 90 2) = (h 90 2) ∧ (h 0 10) = (h 0 10) ∧ (h 0 11) = (h 0 11) ∧ (h 0 12) = (h 0 12) ∧ (h 0 13) = (h 0 13) ∧ (h 3 1) = (h 3 1) ∧ (h 36 8) = (h 36 8) ∧ (h 46 4) = (h 46 4) ∧ (h 49 4) = (h 49 4) ∧ (h 49 5) = (h 49 5) ∧ (h 64 0) = (h 64 0) ∧ (h 76 0) = (h 76 0); omega)⟩
      · skip
        refine ov_blk (ls2 := [(0, ov_r 0), (1, ov_i x), (2, ov_i y), (3, ov_i s), (4, ov_i w), (5, ov_i v3)]) (st2 := [ov_i (-1), ov_i w]) (pc2 := 27) b_112_24_2 rfl rfl ?_
        refine ov_iclt (tgt := 37) d_112_27 (by decide) (by omega) (by omega) (fun c10 => ?_) (fun c10 => ?_)
        · skip
          refine ov_blk (ls2 := [(0, ov_r 0), (1, ov_i x), (2, ov_i y), (3, ov_i s), (4, ov_i w), (5, ov_i v3)]) (st2 := [ov_i (-2)]) (pc2 := 39) b_112_37_1 rfl rfl ?_
          exact ov_reti (st := []) d_112_39 rfl ⟨_, rfl, I, (by show (h 36 7) = (h 36 7) ∧ (h 1 1) = (h 1 1) ∧ (h 90 2) = (h 90 2) ∧ (h 0 10) = (h 0 10) ∧ (h 0 11) = (h 0 11) ∧ (h 0 12) = (h 0 12) ∧ (h 0 13) = (h 0 13) ∧ (h 3 1) = (h 3 1) ∧ (h 36 8) = (h 36 8) ∧ (h 46 4) = (h 46 4) ∧ (h 49 4) = (h 49 4) ∧ (h 49 5) = (h 49 5) ∧ (h 64 0) = (h 64 0) ∧ (h 76 0) = (h 76 0); omega)⟩
        · skip
          refine ov_blk (ls2 := [(0, ov_r 0), (1, ov_i x), (2, ov_i y), (3, ov_i s), (4, ov_i w), (5, ov_i v3)]) (st2 := [ov_i 13, ov_i w]) (pc2 := 34) b_112_30_2 rfl rfl ?_
          refine ov_iclt (tgt := 40) d_112_34 (by decide) (by omega) (by omega) (fun c11 => ?_) (fun c11 => ?_)
          · skip
            refine ov_blk (ls2 := [(0, ov_r 0), (1, ov_i x), (2, ov_i y), (3, ov_i s), (4, ov_i w), (5, ov_i v3)]) (st2 := [ov_i (-1), ov_i w]) (pc2 := 43) b_112_40_2 rfl rfl ?_
            refine ov_iceq (tgt := 63) d_112_43 (by decide) (by omega) (by omega) (fun c12 => ?_) (fun c12 => ?_)
            · skip
              refine ov_blk (ls2 := [(0, ov_r 0), (1, ov_i x), (2, ov_i y), (3, ov_i s), (4, ov_i w), (5, ov_i v3)]) (st2 := [ov_r 0]) (pc2 := 64) b_112_63_1 rfl rfl ?_
              refine ov_getf (v := ov_r 46) d_112_64 fl_OF_57 (zb_0 I) (zs_0 I) (congrArg ov_r (rg_0_7 I)) ?_
              refine ov_blk (ls2 := [(0, ov_r 0), (1, ov_i x), (2, ov_i y), (3, ov_i s), (4, ov_i w), (5, ov_i v3)]) (st2 := [ov_r 0, ov_r 46]) (pc2 := 68) b_112_67_1 rfl rfl ?_
              refine ov_getf (v := ov_r 58) d_112_68 fl_OF_78 (zb_0 I) (zs_0 I) (congrArg ov_r e1) ?_
              refine ov_blk (ls2 := [(0, ov_r 0), (1, ov_i x), (2, ov_i y), (3, ov_i s), (4, ov_i w), (5, ov_i v3)]) (st2 := [ov_i s, ov_i v3, ov_r 58, ov_r 46]) (pc2 := 74) b_112_71_2 rfl rfl ?_
              refine ov_cV (as := [ov_r 58, ov_i v3, ov_i s]) (st := []) (d2 := d - 1) d_112_74 lk_OF_207 rfl (Nat.le_of_ble_eq_true rfl) (c := 12) (zb_46 I) (zs_46 I) ⟨by decide, rfl⟩ (by omega) (c_Ways_arrival_46_58 (d - 1) (by omega) U I v3 s (by omega) (by omega) (by omega) (by omega)) ?_
              rintro _ z15 h16 ⟨v14, rfl, I17, f13⟩
              show ov_R u d ov_m112 77 [(0, ov_r 0), (1, ov_i x), (2, ov_i y), (3, ov_i s), (4, ov_i w), (5, ov_i v3)] [ov_i v14] z15 h16 (P_OF_soonest_0 F z h x y s w)
              have f18 : -2147483648 ≤ v14 ∧ v14 ≤ 2147483647 ∧ (h16 46 3) = 58 ∧ (h16 36 7) = (h 36 7) ∧ (h16 1 1) = (h 1 1) ∧ (h16 90 2) = (h 90 2) ∧ (h16 0 10) = (h 0 10) ∧ (h16 0 11) = (h 0 11) ∧ (h16 0 12) = (h 0 12) ∧ (h16 0 13) = (h 0 13) ∧ (h16 3 1) = (h 3 1) ∧ (h16 36 8) = (h 36 8) ∧ (h16 46 4) = (h 46 4) ∧ (h16 49 4) = (h 49 4) ∧ (h16 49 5) = (h 49 5) ∧ (h16 64 0) = (h 64 0) ∧ (h16 76 0) = (h 76 0) := f13
              clear f13
              have e19 : h16 0 10 = 58 := by omega
              have e20 : h16 46 3 = 58 := by omega
              refine ov_blk (ls2 := [(0, ov_r 0), (1, ov_i x), (2, ov_i y), (3, ov_i s), (4, ov_i w), (5, ov_i v3), (6, ov_i v14)]) (st2 := [ov_i (-1), ov_i v14]) (pc2 := 82) b_112_77_3 rfl rfl ?_
              refine ov_icne (tgt := 90) d_112_82 (by decide) (by omega) (by omega) (fun c21 => ?_) (fun c21 => ?_)
              · skip
                refine ov_blk (ls2 := [(0, ov_r 0), (1, ov_i x), (2, ov_i y), (3, ov_i s), (4, ov_i w), (5, ov_i v3), (6, ov_i v14)]) (st2 := [ov_i v14]) (pc2 := 92) b_112_90_1 rfl rfl ?_
                exact ov_reti (st := []) d_112_92 rfl ⟨_, rfl, I17, (by show (h16 36 7) = (h 36 7) ∧ (h16 1 1) = (h 1 1) ∧ (h16 90 2) = (h 90 2) ∧ (h16 0 10) = (h 0 10) ∧ (h16 0 11) = (h 0 11) ∧ (h16 0 12) = (h 0 12) ∧ (h16 0 13) = (h 0 13) ∧ (h16 3 1) = (h 3 1) ∧ (h16 36 8) = (h 36 8) ∧ (h16 46 4) = (h 46 4) ∧ (h16 49 4) = (h 49 4) ∧ (h16 49 5) = (h 49 5) ∧ (h16 64 0) = (h 64 0) ∧ (h16 76 0) = (h 76 0); omega)⟩
              · skip
                refine ov_blk (ls2 := [(0, ov_r 0), (1, ov_i x), (2, ov_i y), (3, ov_i s), (4, ov_i w), (5, ov_i v3), (6, ov_i v14)]) (st2 := [ov_i (-2)]) (pc2 := 87) b_112_85_1 rfl rfl ?_
                refine ov_goto (tgt := 92) d_112_87 (by decide) ?_
                exact ov_reti (st := []) d_112_92 rfl ⟨_, rfl, I17, (by show (h16 36 7) = (h 36 7) ∧ (h16 1 1) = (h 1 1) ∧ (h16 90 2) = (h 90 2) ∧ (h16 0 10) = (h 0 10) ∧ (h16 0 11) = (h 0 11) ∧ (h16 0 12) = (h 0 12) ∧ (h16 0 13) = (h 0 13) ∧ (h16 3 1) = (h 3 1) ∧ (h16 36 8) = (h 36 8) ∧ (h16 46 4) = (h 46 4) ∧ (h16 49 4) = (h 49 4) ∧ (h16 49 5) = (h 49 5) ∧ (h16 64 0) = (h 64 0) ∧ (h16 76 0) = (h 76 0); omega)⟩
            · skip
              refine ov_blk (ls2 := [(0, ov_r 0), (1, ov_i x), (2, ov_i y), (3, ov_i s), (4, ov_i w), (5, ov_i v3)]) (st2 := [ov_r 0]) (pc2 := 47) b_112_46_1 rfl rfl ?_
              refine ov_getf (v := ov_r 46) d_112_47 fl_OF_57 (zb_0 I) (zs_0 I) (congrArg ov_r (rg_0_7 I)) ?_
              refine ov_blk (ls2 := [(0, ov_r 0), (1, ov_i x), (2, ov_i y), (3, ov_i s), (4, ov_i w), (5, ov_i v3)]) (st2 := [ov_r 0, ov_r 46]) (pc2 := 51) b_112_50_1 rfl rfl ?_
              refine ov_getf (v := ov_r 58) d_112_51 fl_OF_78 (zb_0 I) (zs_0 I) (congrArg ov_r e1) ?_
              refine ov_blk (ls2 := [(0, ov_r 0), (1, ov_i x), (2, ov_i y), (3, ov_i s), (4, ov_i w), (5, ov_i v3)]) (st2 := [ov_i w, ov_i s, ov_i v3, ov_r 58, ov_r 46]) (pc2 := 59) b_112_54_3 rfl rfl ?_
              refine ov_cV (as := [ov_r 58, ov_i v3, ov_i s, ov_i w]) (st := []) (d2 := d - 1) d_112_59 lk_OF_203 rfl (Nat.le_of_ble_eq_true rfl) (c := 12) (zb_46 I) (zs_46 I) ⟨by decide, rfl⟩ (by omega) (c_Ways_soonestWay_46_58 (d - 1) (by omega) U I v3 s w (by omega) (by omega) (by omega) (by omega) (by omega) (by omega) (by omega)) ?_
              rintro _ z24 h25 ⟨v23, rfl, I26, f22⟩
              show ov_R u d ov_m112 62 [(0, ov_r 0), (1, ov_i x), (2, ov_i y), (3, ov_i s), (4, ov_i w), (5, ov_i v3)] [ov_i v23] z24 h25 (P_OF_soonest_0 F z h x y s w)
              have f27 : -2 ≤ v23 ∧ v23 ≤ 1 ∧ (h25 36 7) = (h 36 7) ∧ (h25 1 1) = (h 1 1) ∧ (h25 90 2) = (h 90 2) ∧ (h25 0 10) = (h 0 10) ∧ (h25 0 11) = (h 0 11) ∧ (h25 0 12) = (h 0 12) ∧ (h25 0 13) = (h 0 13) ∧ (h25 3 1) = (h 3 1) ∧ (h25 36 8) = (h 36 8) ∧ (h25 46 4) = (h 46 4) ∧ (h25 49 4) = (h 49 4) ∧ (h25 49 5) = (h 49 5) ∧ (h25 64 0) = (h 64 0) ∧ (h25 76 0) = (h 76 0) := f22
              clear f22
              have e28 : h25 0 10 = 58 := by omega
              exact ov_reti (st := []) d_112_62 rfl ⟨_, rfl, I26, (by show (h25 36 7) = (h 36 7) ∧ (h25 1 1) = (h 1 1) ∧ (h25 90 2) = (h 90 2) ∧ (h25 0 10) = (h 0 10) ∧ (h25 0 11) = (h 0 11) ∧ (h25 0 12) = (h 0 12) ∧ (h25 0 13) = (h 0 13) ∧ (h25 3 1) = (h 3 1) ∧ (h25 36 8) = (h 36 8) ∧ (h25 46 4) = (h 46 4) ∧ (h25 49 4) = (h 49 4) ∧ (h25 49 5) = (h 49 5) ∧ (h25 64 0) = (h 64 0) ∧ (h25 76 0) = (h 76 0); omega)⟩
          · skip
            refine ov_blk (ls2 := [(0, ov_r 0), (1, ov_i x), (2, ov_i y), (3, ov_i s), (4, ov_i w), (5, ov_i v3)]) (st2 := [ov_i (-2)]) (pc2 := 39) b_112_37_1 rfl rfl ?_
            exact ov_reti (st := []) d_112_39 rfl ⟨_, rfl, I, (by show (h 36 7) = (h 36 7) ∧ (h 1 1) = (h 1 1) ∧ (h 90 2) = (h 90 2) ∧ (h 0 10) = (h 0 10) ∧ (h 0 11) = (h 0 11) ∧ (h 0 12) = (h 0 12) ∧ (h 0 13) = (h 0 13) ∧ (h 3 1) = (h 3 1) ∧ (h 36 8) = (h 36 8) ∧ (h 46 4) = (h 46 4) ∧ (h 49 4) = (h 49 4) ∧ (h 49 5) = (h 49 5) ∧ (h 64 0) = (h 64 0) ∧ (h 76 0) = (h 76 0); omega)⟩
  · skip
    refine ov_getf (v := ov_r 70) d_112_1 fl_OF_78 (zb_0 I) (zs_0 I) (congrArg ov_r e1) ?_
    refine ov_blk (ls2 := [(0, ov_r 0), (1, ov_i x), (2, ov_i y), (3, ov_i s), (4, ov_i w)]) (st2 := [ov_i y, ov_i x, ov_r 70]) (pc2 := 6) b_112_4_2 rfl rfl ?_
    refine ov_cV (as := [ov_i x, ov_i y]) (st := []) (d2 := d - 1) d_112_6 lk_OF_131 rfl (Nat.le_of_ble_eq_true rfl) (c := 9) (zb_70 I) (zs_70 I) ⟨by decide, rfl⟩ (by omega) (c_Town_corner_70 (d - 1) (by omega) U I x y (by omega) (by omega)) ?_
    rintro _ _ _ ⟨v30, rfl, rfl, rfl, f29⟩
    show ov_R u d ov_m112 9 [(0, ov_r 0), (1, ov_i x), (2, ov_i y), (3, ov_i s), (4, ov_i w)] [ov_i v30] z h (P_OF_soonest_0 F z h x y s w)
    have f31 : v30 = -1 ∨ (0 ≤ x ∧ x < (h 70 0) ∧ 0 ≤ y ∧ y < (h 70 1) ∧ v30 = y * 6 + x ∧ (h 70 0) ≤ 6 ∧ (h 70 1) ≤ 9) := f29
    clear f29
    refine ov_blk (ls2 := [(0, ov_r 0), (1, ov_i x), (2, ov_i y), (3, ov_i s), (4, ov_i w), (5, ov_i v30)]) (st2 := [ov_i (-1), ov_i v30]) (pc2 := 14) b_112_9_3 rfl rfl ?_
    refine ov_iceq (tgt := 37) d_112_14 (by decide) (by omega) (by omega) (fun c32 => ?_) (fun c32 => ?_)
    · skip
      refine ov_blk (ls2 := [(0, ov_r 0), (1, ov_i x), (2, ov_i y), (3, ov_i s), (4, ov_i w), (5, ov_i v30)]) (st2 := [ov_i (-2)]) (pc2 := 39) b_112_37_1 rfl rfl ?_
      exact ov_reti (st := []) d_112_39 rfl ⟨_, rfl, I, (by show (h 36 7) = (h 36 7) ∧ (h 1 1) = (h 1 1) ∧ (h 90 2) = (h 90 2) ∧ (h 0 10) = (h 0 10) ∧ (h 0 11) = (h 0 11) ∧ (h 0 12) = (h 0 12) ∧ (h 0 13) = (h 0 13) ∧ (h 3 1) = (h 3 1) ∧ (h 36 8) = (h 36 8) ∧ (h 46 4) = (h 46 4) ∧ (h 49 4) = (h 49 4) ∧ (h 49 5) = (h 49 5) ∧ (h 64 0) = (h 64 0) ∧ (h 76 0) = (h 76 0); omega)⟩
    · skip
      refine ov_blk (ls2 := [(0, ov_r 0), (1, ov_i x), (2, ov_i y), (3, ov_i s), (4, ov_i w), (5, ov_i v30)]) (st2 := [ov_i s]) (pc2 := 18) b_112_17_1 rfl rfl ?_
      refine ov_cS (as := [ov_i s]) (st := []) (d2 := d - 1) d_112_18 lk_OF_155 rfl (Nat.le_of_ble_eq_true rfl) (by omega) (c_OF_isSecond (d - 1) (by omega) U I s (by omega)) ?_
      rintro _ _ _ ⟨v34, rfl, rfl, rfl, f33⟩
      show ov_R u d ov_m112 21 [(0, ov_r 0), (1, ov_i x), (2, ov_i y), (3, ov_i s), (4, ov_i w), (5, ov_i v30)] [ov_i v34] z h (P_OF_soonest_0 F z h x y s w)
      have f35 : (v34 = 0 ∨ v34 = 1) ∧ (v34 = 1 → 0 ≤ s ∧ s ≤ 1000000) := f33
      clear f33
      refine ov_ifeq (tgt := 37) d_112_21 (by decide) (by omega) (fun c36 => ?_) (fun c36 => ?_)
      · skip
        refine ov_blk (ls2 := [(0, ov_r 0), (1, ov_i x), (2, ov_i y), (3, ov_i s), (4, ov_i w), (5, ov_i v30)]) (st2 := [ov_i (-2)]) (pc2 := 39) b_112_37_1 rfl rfl ?_
        exact ov_reti (st := []) d_112_39 rfl ⟨_, rfl, I, (by show (h 36 7) = (h 36 7) ∧ (h 1 1) = (h 1 1) ∧ (h 90 2) = (h 90 2) ∧ (h 0 10) = (h 0 10) ∧ (h 0 11) = (h 0 11) ∧ (h 0 12) = (h 0 12) ∧ (h 0 13) = (h 0 13) ∧ (h 3 1) = (h 3 1) ∧ (h 36 8) = (h 36 8) ∧ (h 46 4) = (h 46 4) ∧ (h 49 4) = (h 49 4) ∧ (h 49 5) = (h 49 5) ∧ (h 64 0) = (h 64 0) ∧ (h 76 0) = (h 76 0); omega)⟩
      · skip
        refine ov_blk (ls2 := [(0, ov_r 0), (1, ov_i x), (2, ov_i y), (3, ov_i s), (4, ov_i w), (5, ov_i v30)]) (st2 := [ov_i (-1), ov_i w]) (pc2 := 27) b_112_24_2 rfl rfl ?_
        refine ov_iclt (tgt := 37) d_112_27 (by decide) (by omega) (by omega) (fun c37 => ?_) (fun c37 => ?_)
        · skip
          refine ov_blk (ls2 := [(0, ov_r 0), (1, ov_i x), (2, ov_i y), (3, ov_i s), (4, ov_i w), (5, ov_i v30)]) (st2 := [ov_i (-2)]) (pc2 := 39) b_112_37_1 rfl rfl ?_
          exact ov_reti (st := []) d_112_39 rfl ⟨_, rfl, I, (by show (h 36 7) = (h 36 7) ∧ (h 1 1) = (h 1 1) ∧ (h 90 2) = (h 90 2) ∧ (h 0 10) = (h 0 10) ∧ (h 0 11) = (h 0 11) ∧ (h 0 12) = (h 0 12) ∧ (h 0 13) = (h 0 13) ∧ (h 3 1) = (h 3 1) ∧ (h 36 8) = (h 36 8) ∧ (h 46 4) = (h 46 4) ∧ (h 49 4) = (h 49 4) ∧ (h 49 5) = (h 49 5) ∧ (h 64 0) = (h 64 0) ∧ (h 76 0) = (h 76 0); omega)⟩
        · skip
          refine ov_blk (ls2 := [(0, ov_r 0), (1, ov_i x), (2, ov_i y), (3, ov_i s), (4, ov_i w), (5, ov_i v30)]) (st2 := [ov_i 13, ov_i w]) (pc2 := 34) b_112_30_2 rfl rfl ?_
          refine ov_iclt (tgt := 40) d_112_34 (by decide) (by omega) (by omega) (fun c38 => ?_) (fun c38 => ?_)
          · skip
            refine ov_blk (ls2 := [(0, ov_r 0), (1, ov_i x), (2, ov_i y), (3, ov_i s), (4, ov_i w), (5, ov_i v30)]) (st2 := [ov_i (-1), ov_i w]) (pc2 := 43) b_112_40_2 rfl rfl ?_
            refine ov_iceq (tgt := 63) d_112_43 (by decide) (by omega) (by omega) (fun c39 => ?_) (fun c39 => ?_)
            · skip
              refine ov_blk (ls2 := [(0, ov_r 0), (1, ov_i x), (2, ov_i y), (3, ov_i s), (4, ov_i w), (5, ov_i v30)]) (st2 := [ov_r 0]) (pc2 := 64) b_112_63_1 rfl rfl ?_
              refine ov_getf (v := ov_r 46) d_112_64 fl_OF_57 (zb_0 I) (zs_0 I) (congrArg ov_r (rg_0_7 I)) ?_
              refine ov_blk (ls2 := [(0, ov_r 0), (1, ov_i x), (2, ov_i y), (3, ov_i s), (4, ov_i w), (5, ov_i v30)]) (st2 := [ov_r 0, ov_r 46]) (pc2 := 68) b_112_67_1 rfl rfl ?_
              refine ov_getf (v := ov_r 70) d_112_68 fl_OF_78 (zb_0 I) (zs_0 I) (congrArg ov_r e1) ?_
              refine ov_blk (ls2 := [(0, ov_r 0), (1, ov_i x), (2, ov_i y), (3, ov_i s), (4, ov_i w), (5, ov_i v30)]) (st2 := [ov_i s, ov_i v30, ov_r 70, ov_r 46]) (pc2 := 74) b_112_71_2 rfl rfl ?_
              refine ov_cV (as := [ov_r 70, ov_i v30, ov_i s]) (st := []) (d2 := d - 1) d_112_74 lk_OF_207 rfl (Nat.le_of_ble_eq_true rfl) (c := 12) (zb_46 I) (zs_46 I) ⟨by decide, rfl⟩ (by omega) (c_Ways_arrival_46_70 (d - 1) (by omega) U I v30 s (by omega) (by omega) (by omega) (by omega)) ?_
              rintro _ z42 h43 ⟨v41, rfl, I44, f40⟩
              show ov_R u d ov_m112 77 [(0, ov_r 0), (1, ov_i x), (2, ov_i y), (3, ov_i s), (4, ov_i w), (5, ov_i v30)] [ov_i v41] z42 h43 (P_OF_soonest_0 F z h x y s w)
              have f45 : -2147483648 ≤ v41 ∧ v41 ≤ 2147483647 ∧ (h43 46 3) = 70 ∧ (h43 36 7) = (h 36 7) ∧ (h43 1 1) = (h 1 1) ∧ (h43 90 2) = (h 90 2) ∧ (h43 0 10) = (h 0 10) ∧ (h43 0 11) = (h 0 11) ∧ (h43 0 12) = (h 0 12) ∧ (h43 0 13) = (h 0 13) ∧ (h43 3 1) = (h 3 1) ∧ (h43 36 8) = (h 36 8) ∧ (h43 46 4) = (h 46 4) ∧ (h43 49 4) = (h 49 4) ∧ (h43 49 5) = (h 49 5) ∧ (h43 64 0) = (h 64 0) ∧ (h43 76 0) = (h 76 0) := f40
              clear f40
              have e46 : h43 0 10 = 70 := by omega
              have e47 : h43 46 3 = 70 := by omega
              refine ov_blk (ls2 := [(0, ov_r 0), (1, ov_i x), (2, ov_i y), (3, ov_i s), (4, ov_i w), (5, ov_i v30), (6, ov_i v41)]) (st2 := [ov_i (-1), ov_i v41]) (pc2 := 82) b_112_77_3 rfl rfl ?_
              refine ov_icne (tgt := 90) d_112_82 (by decide) (by omega) (by omega) (fun c48 => ?_) (fun c48 => ?_)
              · skip
                refine ov_blk (ls2 := [(0, ov_r 0), (1, ov_i x), (2, ov_i y), (3, ov_i s), (4, ov_i w), (5, ov_i v30), (6, ov_i v41)]) (st2 := [ov_i v41]) (pc2 := 92) b_112_90_1 rfl rfl ?_
                exact ov_reti (st := []) d_112_92 rfl ⟨_, rfl, I44, (by show (h43 36 7) = (h 36 7) ∧ (h43 1 1) = (h 1 1) ∧ (h43 90 2) = (h 90 2) ∧ (h43 0 10) = (h 0 10) ∧ (h43 0 11) = (h 0 11) ∧ (h43 0 12) = (h 0 12) ∧ (h43 0 13) = (h 0 13) ∧ (h43 3 1) = (h 3 1) ∧ (h43 36 8) = (h 36 8) ∧ (h43 46 4) = (h 46 4) ∧ (h43 49 4) = (h 49 4) ∧ (h43 49 5) = (h 49 5) ∧ (h43 64 0) = (h 64 0) ∧ (h43 76 0) = (h 76 0); omega)⟩
              · skip
                refine ov_blk (ls2 := [(0, ov_r 0), (1, ov_i x), (2, ov_i y), (3, ov_i s), (4, ov_i w), (5, ov_i v30), (6, ov_i v41)]) (st2 := [ov_i (-2)]) (pc2 := 87) b_112_85_1 rfl rfl ?_
                refine ov_goto (tgt := 92) d_112_87 (by decide) ?_
                exact ov_reti (st := []) d_112_92 rfl ⟨_, rfl, I44, (by show (h43 36 7) = (h 36 7) ∧ (h43 1 1) = (h 1 1) ∧ (h43 90 2) = (h 90 2) ∧ (h43 0 10) = (h 0 10) ∧ (h43 0 11) = (h 0 11) ∧ (h43 0 12) = (h 0 12) ∧ (h43 0 13) = (h 0 13) ∧ (h43 3 1) = (h 3 1) ∧ (h43 36 8) = (h 36 8) ∧ (h43 46 4) = (h 46 4) ∧ (h43 49 4) = (h 49 4) ∧ (h43 49 5) = (h 49 5) ∧ (h43 64 0) = (h 64 0) ∧ (h43 76 0) = (h 76 0); omega)⟩
            · skip
              refine ov_blk (ls2 := [(0, ov_r 0), (1, ov_i x), (2, ov_i y), (3, ov_i s), (4, ov_i w), (5, ov_i v30)]) (st2 := [ov_r 0]) (pc2 := 47) b_112_46_1 rfl rfl ?_
              refine ov_getf (v := ov_r 46) d_112_47 fl_OF_57 (zb_0 I) (zs_0 I) (congrArg ov_r (rg_0_7 I)) ?_
              refine ov_blk (ls2 := [(0, ov_r 0), (1, ov_i x), (2, ov_i y), (3, ov_i s), (4, ov_i w), (5, ov_i v30)]) (st2 := [ov_r 0, ov_r 46]) (pc2 := 51) b_112_50_1 rfl rfl ?_
              refine ov_getf (v := ov_r 70) d_112_51 fl_OF_78 (zb_0 I) (zs_0 I) (congrArg ov_r e1) ?_
              refine ov_blk (ls2 := [(0, ov_r 0), (1, ov_i x), (2, ov_i y), (3, ov_i s), (4, ov_i w), (5, ov_i v30)]) (st2 := [ov_i w, ov_i s, ov_i v30, ov_r 70, ov_r 46]) (pc2 := 59) b_112_54_3 rfl rfl ?_
              refine ov_cV (as := [ov_r 70, ov_i v30, ov_i s, ov_i w]) (st := []) (d2 := d - 1) d_112_59 lk_OF_203 rfl (Nat.le_of_ble_eq_true rfl) (c := 12) (zb_46 I) (zs_46 I) ⟨by decide, rfl⟩ (by omega) (c_Ways_soonestWay_46_70 (d - 1) (by omega) U I v30 s w (by omega) (by omega) (by omega) (by omega) (by omega) (by omega) (by omega)) ?_
              rintro _ z51 h52 ⟨v50, rfl, I53, f49⟩
              show ov_R u d ov_m112 62 [(0, ov_r 0), (1, ov_i x), (2, ov_i y), (3, ov_i s), (4, ov_i w), (5, ov_i v30)] [ov_i v50] z51 h52 (P_OF_soonest_0 F z h x y s w)
              have f54 : -2 ≤ v50 ∧ v50 ≤ 1 ∧ (h52 36 7) = (h 36 7) ∧ (h52 1 1) = (h 1 1) ∧ (h52 90 2) = (h 90 2) ∧ (h52 0 10) = (h 0 10) ∧ (h52 0 11) = (h 0 11) ∧ (h52 0 12) = (h 0 12) ∧ (h52 0 13) = (h 0 13) ∧ (h52 3 1) = (h 3 1) ∧ (h52 36 8) = (h 36 8) ∧ (h52 46 4) = (h 46 4) ∧ (h52 49 4) = (h 49 4) ∧ (h52 49 5) = (h 49 5) ∧ (h52 64 0) = (h 64 0) ∧ (h52 76 0) = (h 76 0) := f49
              clear f49
              have e55 : h52 0 10 = 70 := by omega
              exact ov_reti (st := []) d_112_62 rfl ⟨_, rfl, I53, (by show (h52 36 7) = (h 36 7) ∧ (h52 1 1) = (h 1 1) ∧ (h52 90 2) = (h 90 2) ∧ (h52 0 10) = (h 0 10) ∧ (h52 0 11) = (h 0 11) ∧ (h52 0 12) = (h 0 12) ∧ (h52 0 13) = (h 0 13) ∧ (h52 3 1) = (h 3 1) ∧ (h52 36 8) = (h 36 8) ∧ (h52 46 4) = (h 46 4) ∧ (h52 49 4) = (h 49 4) ∧ (h52 49 5) = (h 49 5) ∧ (h52 64 0) = (h 64 0) ∧ (h52 76 0) = (h 76 0); omega)⟩
          · skip
            refine ov_blk (ls2 := [(0, ov_r 0), (1, ov_i x), (2, ov_i y), (3, ov_i s), (4, ov_i w), (5, ov_i v30)]) (st2 := [ov_i (-2)]) (pc2 := 39) b_112_37_1 rfl rfl ?_
            exact ov_reti (st := []) d_112_39 rfl ⟨_, rfl, I, (by show (h 36 7) = (h 36 7) ∧ (h 1 1) = (h 1 1) ∧ (h 90 2) = (h 90 2) ∧ (h 0 10) = (h 0 10) ∧ (h 0 11) = (h 0 11) ∧ (h 0 12) = (h 0 12) ∧ (h 0 13) = (h 0 13) ∧ (h 3 1) = (h 3 1) ∧ (h 36 8) = (h 36 8) ∧ (h 46 4) = (h 46 4) ∧ (h 49 4) = (h 49 4) ∧ (h 49 5) = (h 49 5) ∧ (h 64 0) = (h 64 0) ∧ (h 76 0) = (h 76 0); omega)⟩
abbrev P_OF_reckoned_0 (F : ov_H) (z : ov_Z) (h : ov_H) (g : Int) (c : Int) (s : Int) (w : Int) : Option ov_V → ov_Z → ov_H → Prop := fun r0 z' h' => ∃ r : Int, r0 = some (ov_i r) ∧ ov_I F z' h' ∧ (-2147483648 ≤ r ∧ r ≤ 2147483647 ∧ ((h' 36 7) = 1 → (h' 36 8) = (h' 0 10)) ∧ (¬ r = -1 → (h' 36 8) = (h' 0 10)) ∧ (h' 1 1) = (h 1 1) ∧ (h' 90 2) = (h 90 2) ∧ (h' 0 10) = (h 0 10) ∧ (h' 0 11) = (h 0 11) ∧ (h' 0 12) = (h 0 12) ∧ (h' 0 13) = (h 0 13) ∧ (h' 3 1) = (h 3 1) ∧ (h' 46 3) = (h 46 3) ∧ (h' 46 4) = (h 46 4) ∧ (h' 49 4) = (h 49 4) ∧ (h' 49 5) = (h 49 5) ∧ (h' 64 0) = (h 64 0) ∧ (h' 76 0) = (h 76 0))
set_option maxHeartbeats 4000000 in
theorem c_OF_reckoned_0 {u : ov_U} {F : ov_H} {z : ov_Z} {h : ov_H} (d : Nat) (hd : 300 ≤ d) (U : ov_cap u) (I : ov_I F z h) (hw : ov_kw 2418441935039617055064064 F) (g : Int) (c : Int) (s : Int) (w : Int) (g_g : ov_g g) (g_c : ov_g c) (g_s : ov_g s) (g_w : w = 0 ∨ w = 1) (p0 : -1 ≤ c ∧ c ≤ 53) (p1 : h 36 7 = 1 → h 36 8 = h 0 10) (p2 : (h 0 10 = 58 ∧ F (-5) 58 = 1 ∨ h 0 10 = 70 ∧ F (-5) 70 = 1)) : ov_T u d ov_m121 [ov_r 0, ov_i g, ov_i c, ov_i s, ov_i w] z h (P_OF_reckoned_0 F z h g c s w) := by
  refine ov_en rfl (Nat.le_of_ble_eq_true rfl) ?_
  show ov_R u d ov_m121 0 [(0, ov_r 0), (1, ov_i g), (2, ov_i c), (3, ov_i s), (4, ov_i w)] [] z h (P_OF_reckoned_0 F z h g c s w)
  refine ov_blk (ls2 := [(0, ov_r 0), (1, ov_i g), (2, ov_i c), (3, ov_i s), (4, ov_i w)]) (st2 := [ov_i (-1), ov_i c]) (pc2 := 2) b_121_0_2 rfl rfl ?_
  refine ov_iceq (tgt := 20) d_121_2 (by decide) (by omega) (by omega) (fun c1 => ?_) (fun c1 => ?_)
  · skip
    refine ov_blk (ls2 := [(0, ov_r 0), (1, ov_i g), (2, ov_i c), (3, ov_i s), (4, ov_i w)]) (st2 := [ov_i (-1)]) (pc2 := 21) b_121_20_1 rfl rfl ?_
    exact ov_reti (st := []) d_121_21 rfl ⟨_, rfl, I, (by show -2147483648 ≤ (-1) ∧ (-1) ≤ 2147483647 ∧ ((h 36 7) = 1 → (h 36 8) = (h 0 10)) ∧ (¬ (-1) = -1 → (h 36 8) = (h 0 10)) ∧ (h 1 1) = (h 1 1) ∧ (h 90 2) = (h 90 2) ∧ (h 0 10) = (h 0 10) ∧ (h 0 11) = (h 0 11) ∧ (h 0 12) = (h 0 12) ∧ (h 0 13) = (h 0 13) ∧ (h 3 1) = (h 3 1) ∧ (h 46 3) = (h 46 3) ∧ (h 46 4) = (h 46 4) ∧ (h 49 4) = (h 49 4) ∧ (h 49 5) = (h 49 5) ∧ (h 64 0) = (h 64 0) ∧ (h 76 0) = (h 76 0); omega)⟩
  · skip
    refine ov_blk (ls2 := [(0, ov_r 0), (1, ov_i g), (2, ov_i c), (3, ov_i s), (4, ov_i w)]) (st2 := [ov_i g, ov_r 0]) (pc2 := 7) b_121_5_2 rfl rfl ?_
    refine ov_cV (as := [ov_i g]) (st := []) (d2 := d - 1) d_121_7 lk_OF_215 rfl (Nat.le_of_ble_eq_true rfl) (c := 0) (zb_0 I) (zs_0 I) ⟨by decide, rfl⟩ (by omega) (c_OF_isGoer_0 (d - 1) (by omega) U I g (by omega)) ?_
    rintro _ _ _ ⟨v3, rfl, rfl, rfl, f2⟩
    show ov_R u d ov_m121 10 [(0, ov_r 0), (1, ov_i g), (2, ov_i c), (3, ov_i s), (4, ov_i w)] [ov_i v3] z h (P_OF_reckoned_0 F z h g c s w)
    have f4 : (v3 = 0 ∨ v3 = 1) ∧ (v3 = 1 → 0 ≤ g ∧ g ≤ 7) := f2
    clear f2
    refine ov_ifeq (tgt := 20) d_121_10 (by decide) (by omega) (fun c5 => ?_) (fun c5 => ?_)
    · skip
      refine ov_blk (ls2 := [(0, ov_r 0), (1, ov_i g), (2, ov_i c), (3, ov_i s), (4, ov_i w)]) (st2 := [ov_i (-1)]) (pc2 := 21) b_121_20_1 rfl rfl ?_
      exact ov_reti (st := []) d_121_21 rfl ⟨_, rfl, I, (by show -2147483648 ≤ (-1) ∧ (-1) ≤ 2147483647 ∧ ((h 36 7) = 1 → (h 36 8) = (h 0 10)) ∧ (¬ (-1) = -1 → (h 36 8) = (h 0 10)) ∧ (h 1 1) = (h 1 1) ∧ (h 90 2) = (h 90 2) ∧ (h 0 10) = (h 0 10) ∧ (h 0 11) = (h 0 11) ∧ (h 0 12) = (h 0 12) ∧ (h 0 13) = (h 0 13) ∧ (h 3 1) = (h 3 1) ∧ (h 46 3) = (h 46 3) ∧ (h 46 4) = (h 46 4) ∧ (h 49 4) = (h 49 4) ∧ (h 49 5) = (h 49 5) ∧ (h 64 0) = (h 64 0) ∧ (h 76 0) = (h 76 0); omega)⟩
    · skip
      refine ov_blk (ls2 := [(0, ov_r 0), (1, ov_i g), (2, ov_i c), (3, ov_i s), (4, ov_i w)]) (st2 := [ov_i s]) (pc2 := 14) b_121_13_1 rfl rfl ?_
      refine ov_cS (as := [ov_i s]) (st := []) (d2 := d - 1) d_121_14 lk_OF_155 rfl (Nat.le_of_ble_eq_true rfl) (by omega) (c_OF_isSecond (d - 1) (by omega) U I s (by omega)) ?_
      rintro _ _ _ ⟨v7, rfl, rfl, rfl, f6⟩
      show ov_R u d ov_m121 17 [(0, ov_r 0), (1, ov_i g), (2, ov_i c), (3, ov_i s), (4, ov_i w)] [ov_i v7] z h (P_OF_reckoned_0 F z h g c s w)
      have f8 : (v7 = 0 ∨ v7 = 1) ∧ (v7 = 1 → 0 ≤ s ∧ s ≤ 1000000) := f6
      clear f6
      refine ov_ifne (tgt := 22) d_121_17 (by decide) (by omega) (fun c9 => ?_) (fun c9 => ?_)
      · skip
        refine ov_blk (ls2 := [(0, ov_r 0), (1, ov_i g), (2, ov_i c), (3, ov_i s), (4, ov_i w)]) (st2 := [ov_r 0]) (pc2 := 23) b_121_22_1 rfl rfl ?_
        refine ov_getf (v := ov_r 36) d_121_23 fl_OF_50 (zb_0 I) (zs_0 I) (congrArg ov_r (rg_0_6 I)) ?_
        refine ov_blk (ls2 := [(0, ov_r 0), (1, ov_i g), (2, ov_i c), (3, ov_i s), (4, ov_i w)]) (st2 := [ov_r 0, ov_r 36]) (pc2 := 27) b_121_26_1 rfl rfl ?_
        rcases rg_0_10 I with e10 | e10
        · skip
          refine ov_getf (v := ov_r 58) d_121_27 fl_OF_78 (zb_0 I) (zs_0 I) (congrArg ov_r e10) ?_
          refine ov_blk (ls2 := [(0, ov_r 0), (1, ov_i g), (2, ov_i c), (3, ov_i s), (4, ov_i w)]) (st2 := [ov_r 0, ov_r 58, ov_r 36]) (pc2 := 31) b_121_30_1 rfl rfl ?_
          refine ov_getf (v := ov_r 4) d_121_31 fl_OF_28 (zb_0 I) (zs_0 I) (congrArg ov_r (rg_0_2 I)) ?_
          refine ov_getf (v := ov_l (h 4 3)) d_121_34 fl_OF_192 (zb_4 I) (zs_4 I) rfl ?_
          refine ov_blk (ls2 := [(0, ov_r 0), (1, ov_i g), (2, ov_i c), (3, ov_i s), (4, ov_i w)]) (st2 := [ov_i w, ov_i g, ov_l (h 4 3), ov_r 58, ov_r 36]) (pc2 := 40) b_121_37_2 rfl rfl ?_
          refine ov_cV (as := [ov_r 58, ov_l (h 4 3), ov_i g, ov_i w]) (st := []) (d2 := d - 1) d_121_40 lk_OF_218 rfl (Nat.le_of_ble_eq_true rfl) (c := 2) (zb_36 I) (zs_36 I) ⟨by decide, rfl⟩ (by omega) (c_Goers_ask_36_58 (d - 1) (by omega) U I (h 4 3) g w (by omega) (by omega) (by omega) (by omega)) ?_
          rintro _ z12 h13 ⟨rfl, I14, f11⟩
          show ov_R u d ov_m121 43 [(0, ov_r 0), (1, ov_i g), (2, ov_i c), (3, ov_i s), (4, ov_i w)] [] z12 h13 (P_OF_reckoned_0 F z h g c s w)
          have f15 : (h13 36 8) = 58 ∧ (h13 36 7) = 1 ∧ (h13 1 1) = (h 1 1) ∧ (h13 90 2) = (h 90 2) ∧ (h13 0 10) = (h 0 10) ∧ (h13 0 11) = (h 0 11) ∧ (h13 0 12) = (h 0 12) ∧ (h13 0 13) = (h 0 13) ∧ (h13 3 1) = (h 3 1) ∧ (h13 46 3) = (h 46 3) ∧ (h13 46 4) = (h 46 4) ∧ (h13 49 4) = (h 49 4) ∧ (h13 49 5) = (h 49 5) ∧ (h13 64 0) = (h 64 0) ∧ (h13 76 0) = (h 76 0) := f11
          clear f11
          have e16 : h13 0 10 = 58 := by omega
          have e17 : h13 36 8 = 58 := by omega
          refine ov_blk (ls2 := [(0, ov_r 0), (1, ov_i g), (2, ov_i c), (3, ov_i s), (4, ov_i w)]) (st2 := [ov_r 0]) (pc2 := 44) b_121_43_1 rfl rfl ?_
          refine ov_getf (v := ov_r 36) d_121_44 fl_OF_50 (zb_0 I14) (zs_0 I14) (congrArg ov_r (rg_0_6 I14)) ?_
          refine ov_blk (ls2 := [(0, ov_r 0), (1, ov_i g), (2, ov_i c), (3, ov_i s), (4, ov_i w)]) (st2 := [ov_i s, ov_i c, ov_r 36]) (pc2 := 49) b_121_47_2 rfl rfl ?_
          refine ov_cV (as := [ov_i c, ov_i s]) (st := []) (d2 := d - 1) d_121_49 lk_OF_222 rfl (Nat.le_of_ble_eq_true rfl) (c := 2) (zb_36 I14) (zs_36 I14) ⟨by decide, rfl⟩ (by omega) (c_Goers_valueAt_36_k36_8_58_all (Int.toNat (53 - (c))) (d - 1) (by omega) U I14 (ov_kws hw (by decide +kernel)) c s e17 (by omega) (by omega) (by omega) (by omega)) ?_
          rintro _ z20 h21 ⟨v19, rfl, I22, f18⟩
          show ov_R u d ov_m121 52 [(0, ov_r 0), (1, ov_i g), (2, ov_i c), (3, ov_i s), (4, ov_i w)] [ov_i v19] z20 h21 (P_OF_reckoned_0 F z h g c s w)
          have f23 : -2147483648 ≤ v19 ∧ v19 ≤ 2147483647 ∧ (h21 36 7) = (h13 36 7) ∧ (h21 1 1) = (h13 1 1) ∧ (h21 90 2) = (h13 90 2) ∧ (h21 0 10) = (h13 0 10) ∧ (h21 0 11) = (h13 0 11) ∧ (h21 0 12) = (h13 0 12) ∧ (h21 0 13) = (h13 0 13) ∧ (h21 3 1) = (h13 3 1) ∧ (h21 36 8) = (h13 36 8) ∧ (h21 46 3) = (h13 46 3) ∧ (h21 46 4) = (h13 46 4) ∧ (h21 49 4) = (h13 49 4) ∧ (h21 49 5) = (h13 49 5) ∧ (h21 64 0) = (h13 64 0) ∧ (h21 76 0) = (h13 76 0) := f18
          clear f18
          have e24 : h21 0 10 = 58 := by omega
          have e25 : h21 36 8 = 58 := by omega
          exact ov_reti (st := []) d_121_52 rfl ⟨_, rfl, I22, (by show -2147483648 ≤ v19 ∧ v19 ≤ 2147483647 ∧ ((h21 36 7) = 1 → (h21 36 8) = (h21 0 10)) ∧ (¬ v19 = -1 → (h21 36 8) = (h21 0 10)) ∧ (h21 1 1) = (h 1 1) ∧ (h21 90 2) = (h 90 2) ∧ (h21 0 10) = (h 0 10) ∧ (h21 0 11) = (h 0 11) ∧ (h21 0 12) = (h 0 12) ∧ (h21 0 13) = (h 0 13) ∧ (h21 3 1) = (h 3 1) ∧ (h21 46 3) = (h 46 3) ∧ (h21 46 4) = (h 46 4) ∧ (h21 49 4) = (h 49 4) ∧ (h21 49 5) = (h 49 5) ∧ (h21 64 0) = (h 64 0) ∧ (h21 76 0) = (h 76 0); omega)⟩
        · skip
          refine ov_getf (v := ov_r 70) d_121_27 fl_OF_78 (zb_0 I) (zs_0 I) (congrArg ov_r e10) ?_
          refine ov_blk (ls2 := [(0, ov_r 0), (1, ov_i g), (2, ov_i c), (3, ov_i s), (4, ov_i w)]) (st2 := [ov_r 0, ov_r 70, ov_r 36]) (pc2 := 31) b_121_30_1 rfl rfl ?_
          refine ov_getf (v := ov_r 4) d_121_31 fl_OF_28 (zb_0 I) (zs_0 I) (congrArg ov_r (rg_0_2 I)) ?_
          refine ov_getf (v := ov_l (h 4 3)) d_121_34 fl_OF_192 (zb_4 I) (zs_4 I) rfl ?_
          refine ov_blk (ls2 := [(0, ov_r 0), (1, ov_i g), (2, ov_i c), (3, ov_i s), (4, ov_i w)]) (st2 := [ov_i w, ov_i g, ov_l (h 4 3), ov_r 70, ov_r 36]) (pc2 := 40) b_121_37_2 rfl rfl ?_
          refine ov_cV (as := [ov_r 70, ov_l (h 4 3), ov_i g, ov_i w]) (st := []) (d2 := d - 1) d_121_40 lk_OF_218 rfl (Nat.le_of_ble_eq_true rfl) (c := 2) (zb_36 I) (zs_36 I) ⟨by decide, rfl⟩ (by omega) (c_Goers_ask_36_70 (d - 1) (by omega) U I (h 4 3) g w (by omega) (by omega) (by omega) (by omega)) ?_
          rintro _ z27 h28 ⟨rfl, I29, f26⟩
          show ov_R u d ov_m121 43 [(0, ov_r 0), (1, ov_i g), (2, ov_i c), (3, ov_i s), (4, ov_i w)] [] z27 h28 (P_OF_reckoned_0 F z h g c s w)
          have f30 : (h28 36 8) = 70 ∧ (h28 36 7) = 1 ∧ (h28 1 1) = (h 1 1) ∧ (h28 90 2) = (h 90 2) ∧ (h28 0 10) = (h 0 10) ∧ (h28 0 11) = (h 0 11) ∧ (h28 0 12) = (h 0 12) ∧ (h28 0 13) = (h 0 13) ∧ (h28 3 1) = (h 3 1) ∧ (h28 46 3) = (h 46 3) ∧ (h28 46 4) = (h 46 4) ∧ (h28 49 4) = (h 49 4) ∧ (h28 49 5) = (h 49 5) ∧ (h28 64 0) = (h 64 0) ∧ (h28 76 0) = (h 76 0) := f26
          clear f26
          have e31 : h28 0 10 = 70 := by omega
          have e32 : h28 36 8 = 70 := by omega
          refine ov_blk (ls2 := [(0, ov_r 0), (1, ov_i g), (2, ov_i c), (3, ov_i s), (4, ov_i w)]) (st2 := [ov_r 0]) (pc2 := 44) b_121_43_1 rfl rfl ?_
          refine ov_getf (v := ov_r 36) d_121_44 fl_OF_50 (zb_0 I29) (zs_0 I29) (congrArg ov_r (rg_0_6 I29)) ?_
          refine ov_blk (ls2 := [(0, ov_r 0), (1, ov_i g), (2, ov_i c), (3, ov_i s), (4, ov_i w)]) (st2 := [ov_i s, ov_i c, ov_r 36]) (pc2 := 49) b_121_47_2 rfl rfl ?_
          refine ov_cV (as := [ov_i c, ov_i s]) (st := []) (d2 := d - 1) d_121_49 lk_OF_222 rfl (Nat.le_of_ble_eq_true rfl) (c := 2) (zb_36 I29) (zs_36 I29) ⟨by decide, rfl⟩ (by omega) (c_Goers_valueAt_36_k36_8_70_all (Int.toNat (53 - (c))) (d - 1) (by omega) U I29 (ov_kws hw (by decide +kernel)) c s e32 (by omega) (by omega) (by omega) (by omega)) ?_
          rintro _ z35 h36 ⟨v34, rfl, I37, f33⟩
          show ov_R u d ov_m121 52 [(0, ov_r 0), (1, ov_i g), (2, ov_i c), (3, ov_i s), (4, ov_i w)] [ov_i v34] z35 h36 (P_OF_reckoned_0 F z h g c s w)
          have f38 : -2147483648 ≤ v34 ∧ v34 ≤ 2147483647 ∧ (h36 36 7) = (h28 36 7) ∧ (h36 1 1) = (h28 1 1) ∧ (h36 90 2) = (h28 90 2) ∧ (h36 0 10) = (h28 0 10) ∧ (h36 0 11) = (h28 0 11) ∧ (h36 0 12) = (h28 0 12) ∧ (h36 0 13) = (h28 0 13) ∧ (h36 3 1) = (h28 3 1) ∧ (h36 36 8) = (h28 36 8) ∧ (h36 46 3) = (h28 46 3) ∧ (h36 46 4) = (h28 46 4) ∧ (h36 49 4) = (h28 49 4) ∧ (h36 49 5) = (h28 49 5) ∧ (h36 64 0) = (h28 64 0) ∧ (h36 76 0) = (h28 76 0) := f33
          clear f33
          have e39 : h36 0 10 = 70 := by omega
          have e40 : h36 36 8 = 70 := by omega
          exact ov_reti (st := []) d_121_52 rfl ⟨_, rfl, I37, (by show -2147483648 ≤ v34 ∧ v34 ≤ 2147483647 ∧ ((h36 36 7) = 1 → (h36 36 8) = (h36 0 10)) ∧ (¬ v34 = -1 → (h36 36 8) = (h36 0 10)) ∧ (h36 1 1) = (h 1 1) ∧ (h36 90 2) = (h 90 2) ∧ (h36 0 10) = (h 0 10) ∧ (h36 0 11) = (h 0 11) ∧ (h36 0 12) = (h 0 12) ∧ (h36 0 13) = (h 0 13) ∧ (h36 3 1) = (h 3 1) ∧ (h36 46 3) = (h 46 3) ∧ (h36 46 4) = (h 46 4) ∧ (h36 49 4) = (h 49 4) ∧ (h36 49 5) = (h 49 5) ∧ (h36 64 0) = (h 64 0) ∧ (h36 76 0) = (h 76 0); omega)⟩
      · skip
        refine ov_blk (ls2 := [(0, ov_r 0), (1, ov_i g), (2, ov_i c), (3, ov_i s), (4, ov_i w)]) (st2 := [ov_i (-1)]) (pc2 := 21) b_121_20_1 rfl rfl ?_
        exact ov_reti (st := []) d_121_21 rfl ⟨_, rfl, I, (by show -2147483648 ≤ (-1) ∧ (-1) ≤ 2147483647 ∧ ((h 36 7) = 1 → (h 36 8) = (h 0 10)) ∧ (¬ (-1) = -1 → (h 36 8) = (h 0 10)) ∧ (h 1 1) = (h 1 1) ∧ (h 90 2) = (h 90 2) ∧ (h 0 10) = (h 0 10) ∧ (h 0 11) = (h 0 11) ∧ (h 0 12) = (h 0 12) ∧ (h 0 13) = (h 0 13) ∧ (h 3 1) = (h 3 1) ∧ (h 46 3) = (h 46 3) ∧ (h 46 4) = (h 46 4) ∧ (h 49 4) = (h 49 4) ∧ (h 49 5) = (h 49 5) ∧ (h 64 0) = (h 64 0) ∧ (h 76 0) = (h 76 0); omega)⟩
abbrev P_OF_mean_0 (F : ov_H) (z : ov_Z) (h : ov_H) (g : Int) (x : Int) (y : Int) (s : Int) : Option ov_V → ov_Z → ov_H → Prop := fun r0 z' h' => ∃ r : Int, r0 = some (ov_i r) ∧ ov_I F z' h' ∧ (-2147483648 ≤ r ∧ r ≤ 2147483647 ∧ ((h' 36 7) = 1 → (h' 36 8) = (h' 0 10)) ∧ (h' 1 1) = (h 1 1) ∧ (h' 90 2) = (h 90 2) ∧ (h' 0 10) = (h 0 10) ∧ (h' 0 11) = (h 0 11) ∧ (h' 0 12) = (h 0 12) ∧ (h' 0 13) = (h 0 13) ∧ (h' 3 1) = (h 3 1) ∧ (h' 46 3) = (h 46 3) ∧ (h' 46 4) = (h 46 4) ∧ (h' 49 4) = (h 49 4) ∧ (h' 49 5) = (h 49 5) ∧ (h' 64 0) = (h 64 0) ∧ (h' 76 0) = (h 76 0))
set_option maxHeartbeats 4000000 in
theorem c_OF_mean_0 {u : ov_U} {F : ov_H} {z : ov_Z} {h : ov_H} (d : Nat) (hd : 301 ≤ d) (U : ov_cap u) (I : ov_I F z h) (hw : ov_kw 2418441935039617055064064 F) (g : Int) (x : Int) (y : Int) (s : Int) (g_g : ov_g g) (g_x : ov_g x) (g_y : ov_g y) (g_s : ov_g s) (p0 : h 36 7 = 1 → h 36 8 = h 0 10) (p1 : (h 0 10 = 58 ∧ F (-5) 58 = 1 ∨ h 0 10 = 70 ∧ F (-5) 70 = 1)) : ov_T u d ov_m120 [ov_r 0, ov_i g, ov_i x, ov_i y, ov_i s] z h (P_OF_mean_0 F z h g x y s) := by
  refine ov_en rfl (Nat.le_of_ble_eq_true rfl) ?_
  show ov_R u d ov_m120 0 [(0, ov_r 0), (1, ov_i g), (2, ov_i x), (3, ov_i y), (4, ov_i s)] [] z h (P_OF_mean_0 F z h g x y s)
  refine ov_blk (ls2 := [(0, ov_r 0), (1, ov_i g), (2, ov_i x), (3, ov_i y), (4, ov_i s)]) (st2 := [ov_r 0, ov_i g, ov_r 0]) (pc2 := 3) b_120_0_3 rfl rfl ?_
  rcases rg_0_10 I with e1 | e1
  · skip
    refine ov_getf (v := ov_r 58) d_120_3 fl_OF_78 (zb_0 I) (zs_0 I) (congrArg ov_r e1) ?_
    refine ov_blk (ls2 := [(0, ov_r 0), (1, ov_i g), (2, ov_i x), (3, ov_i y), (4, ov_i s)]) (st2 := [ov_i y, ov_i x, ov_r 58, ov_i g, ov_r 0]) (pc2 := 8) b_120_6_2 rfl rfl ?_
    refine ov_cV (as := [ov_i x, ov_i y]) (st := [ov_i g, ov_r 0]) (d2 := d - 1) d_120_8 lk_OF_131 rfl (Nat.le_of_ble_eq_true rfl) (c := 9) (zb_58 I) (zs_58 I) ⟨by decide, rfl⟩ (by omega) (c_Town_corner_58 (d - 1) (by omega) U I x y (by omega) (by omega)) ?_
    rintro _ _ _ ⟨v3, rfl, rfl, rfl, f2⟩
    show ov_R u d ov_m120 11 [(0, ov_r 0), (1, ov_i g), (2, ov_i x), (3, ov_i y), (4, ov_i s)] [ov_i v3, ov_i g, ov_r 0] z h (P_OF_mean_0 F z h g x y s)
    have f4 : v3 = -1 ∨ (0 ≤ x ∧ x < (h 58 0) ∧ 0 ≤ y ∧ y < (h 58 1) ∧ v3 = y * 6 + x ∧ (h 58 0) ≤ 6 ∧ (h 58 1) ≤ 9) := f2
    clear f2
    refine ov_blk (ls2 := [(0, ov_r 0), (1, ov_i g), (2, ov_i x), (3, ov_i y), (4, ov_i s)]) (st2 := [ov_i 0, ov_i s, ov_i v3, ov_i g, ov_r 0]) (pc2 := 14) b_120_11_2 rfl rfl ?_
    refine ov_cV (as := [ov_i g, ov_i v3, ov_i s, ov_i 0]) (st := []) (d2 := d - 1) d_120_14 lk_OF_211 rfl (Nat.le_of_ble_eq_true rfl) (c := 0) (zb_0 I) (zs_0 I) ⟨by decide, rfl⟩ (by omega) (c_OF_reckoned_0 (d - 1) (by omega) U I (ov_kws hw (by decide +kernel)) g v3 s 0 (by omega) (by omega) (by omega) (by omega) (by omega) (by omega) (by omega)) ?_
    rintro _ z7 h8 ⟨v6, rfl, I9, f5⟩
    show ov_R u d ov_m120 17 [(0, ov_r 0), (1, ov_i g), (2, ov_i x), (3, ov_i y), (4, ov_i s)] [ov_i v6] z7 h8 (P_OF_mean_0 F z h g x y s)
    have f10 : -2147483648 ≤ v6 ∧ v6 ≤ 2147483647 ∧ ((h8 36 7) = 1 → (h8 36 8) = (h8 0 10)) ∧ (¬ v6 = -1 → (h8 36 8) = (h8 0 10)) ∧ (h8 1 1) = (h 1 1) ∧ (h8 90 2) = (h 90 2) ∧ (h8 0 10) = (h 0 10) ∧ (h8 0 11) = (h 0 11) ∧ (h8 0 12) = (h 0 12) ∧ (h8 0 13) = (h 0 13) ∧ (h8 3 1) = (h 3 1) ∧ (h8 46 3) = (h 46 3) ∧ (h8 46 4) = (h 46 4) ∧ (h8 49 4) = (h 49 4) ∧ (h8 49 5) = (h 49 5) ∧ (h8 64 0) = (h 64 0) ∧ (h8 76 0) = (h 76 0) := f5
    clear f5
    have e11 : h8 0 10 = 58 := by omega
    exact ov_reti (st := []) d_120_17 rfl ⟨_, rfl, I9, (by show -2147483648 ≤ v6 ∧ v6 ≤ 2147483647 ∧ ((h8 36 7) = 1 → (h8 36 8) = (h8 0 10)) ∧ (h8 1 1) = (h 1 1) ∧ (h8 90 2) = (h 90 2) ∧ (h8 0 10) = (h 0 10) ∧ (h8 0 11) = (h 0 11) ∧ (h8 0 12) = (h 0 12) ∧ (h8 0 13) = (h 0 13) ∧ (h8 3 1) = (h 3 1) ∧ (h8 46 3) = (h 46 3) ∧ (h8 46 4) = (h 46 4) ∧ (h8 49 4) = (h 49 4) ∧ (h8 49 5) = (h 49 5) ∧ (h8 64 0) = (h 64 0) ∧ (h8 76 0) = (h 76 0); omega)⟩
  · skip
    refine ov_getf (v := ov_r 70) d_120_3 fl_OF_78 (zb_0 I) (zs_0 I) (congrArg ov_r e1) ?_
    refine ov_blk (ls2 := [(0, ov_r 0), (1, ov_i g), (2, ov_i x), (3, ov_i y), (4, ov_i s)]) (st2 := [ov_i y, ov_i x, ov_r 70, ov_i g, ov_r 0]) (pc2 := 8) b_120_6_2 rfl rfl ?_
    refine ov_cV (as := [ov_i x, ov_i y]) (st := [ov_i g, ov_r 0]) (d2 := d - 1) d_120_8 lk_OF_131 rfl (Nat.le_of_ble_eq_true rfl) (c := 9) (zb_70 I) (zs_70 I) ⟨by decide, rfl⟩ (by omega) (c_Town_corner_70 (d - 1) (by omega) U I x y (by omega) (by omega)) ?_
    rintro _ _ _ ⟨v13, rfl, rfl, rfl, f12⟩
    show ov_R u d ov_m120 11 [(0, ov_r 0), (1, ov_i g), (2, ov_i x), (3, ov_i y), (4, ov_i s)] [ov_i v13, ov_i g, ov_r 0] z h (P_OF_mean_0 F z h g x y s)
    have f14 : v13 = -1 ∨ (0 ≤ x ∧ x < (h 70 0) ∧ 0 ≤ y ∧ y < (h 70 1) ∧ v13 = y * 6 + x ∧ (h 70 0) ≤ 6 ∧ (h 70 1) ≤ 9) := f12
    clear f12
    refine ov_blk (ls2 := [(0, ov_r 0), (1, ov_i g), (2, ov_i x), (3, ov_i y), (4, ov_i s)]) (st2 := [ov_i 0, ov_i s, ov_i v13, ov_i g, ov_r 0]) (pc2 := 14) b_120_11_2 rfl rfl ?_
    refine ov_cV (as := [ov_i g, ov_i v13, ov_i s, ov_i 0]) (st := []) (d2 := d - 1) d_120_14 lk_OF_211 rfl (Nat.le_of_ble_eq_true rfl) (c := 0) (zb_0 I) (zs_0 I) ⟨by decide, rfl⟩ (by omega) (c_OF_reckoned_0 (d - 1) (by omega) U I (ov_kws hw (by decide +kernel)) g v13 s 0 (by omega) (by omega) (by omega) (by omega) (by omega) (by omega) (by omega)) ?_
    rintro _ z17 h18 ⟨v16, rfl, I19, f15⟩
    show ov_R u d ov_m120 17 [(0, ov_r 0), (1, ov_i g), (2, ov_i x), (3, ov_i y), (4, ov_i s)] [ov_i v16] z17 h18 (P_OF_mean_0 F z h g x y s)
    have f20 : -2147483648 ≤ v16 ∧ v16 ≤ 2147483647 ∧ ((h18 36 7) = 1 → (h18 36 8) = (h18 0 10)) ∧ (¬ v16 = -1 → (h18 36 8) = (h18 0 10)) ∧ (h18 1 1) = (h 1 1) ∧ (h18 90 2) = (h 90 2) ∧ (h18 0 10) = (h 0 10) ∧ (h18 0 11) = (h 0 11) ∧ (h18 0 12) = (h 0 12) ∧ (h18 0 13) = (h 0 13) ∧ (h18 3 1) = (h 3 1) ∧ (h18 46 3) = (h 46 3) ∧ (h18 46 4) = (h 46 4) ∧ (h18 49 4) = (h 49 4) ∧ (h18 49 5) = (h 49 5) ∧ (h18 64 0) = (h 64 0) ∧ (h18 76 0) = (h 76 0) := f15
    clear f15
    have e21 : h18 0 10 = 70 := by omega
    exact ov_reti (st := []) d_120_17 rfl ⟨_, rfl, I19, (by show -2147483648 ≤ v16 ∧ v16 ≤ 2147483647 ∧ ((h18 36 7) = 1 → (h18 36 8) = (h18 0 10)) ∧ (h18 1 1) = (h 1 1) ∧ (h18 90 2) = (h 90 2) ∧ (h18 0 10) = (h 0 10) ∧ (h18 0 11) = (h 0 11) ∧ (h18 0 12) = (h 0 12) ∧ (h18 0 13) = (h 0 13) ∧ (h18 3 1) = (h 3 1) ∧ (h18 46 3) = (h 46 3) ∧ (h18 46 4) = (h 46 4) ∧ (h18 49 4) = (h 49 4) ∧ (h18 49 5) = (h 49 5) ∧ (h18 64 0) = (h 64 0) ∧ (h18 76 0) = (h 76 0); omega)⟩
abbrev P_OF_worst_0 (F : ov_H) (z : ov_Z) (h : ov_H) (g : Int) (x : Int) (y : Int) (s : Int) : Option ov_V → ov_Z → ov_H → Prop := fun r0 z' h' => ∃ r : Int, r0 = some (ov_i r) ∧ ov_I F z' h' ∧ (-2147483648 ≤ r ∧ r ≤ 2147483647 ∧ ((h' 36 7) = 1 → (h' 36 8) = (h' 0 10)) ∧ (h' 1 1) = (h 1 1) ∧ (h' 90 2) = (h 90 2) ∧ (h' 0 10) = (h 0 10) ∧ (h' 0 11) = (h 0 11) ∧ (h' 0 12) = (h 0 12) ∧ (h' 0 13) = (h 0 13) ∧ (h' 3 1) = (h 3 1) ∧ (h' 46 3) = (h 46 3) ∧ (h' 46 4) = (h 46 4) ∧ (h' 49 4) = (h 49 4) ∧ (h' 49 5) = (h 49 5) ∧ (h' 64 0) = (h 64 0) ∧ (h' 76 0) = (h 76 0))
set_option maxHeartbeats 4000000 in
theorem c_OF_worst_0 {u : ov_U} {F : ov_H} {z : ov_Z} {h : ov_H} (d : Nat) (hd : 301 ≤ d) (U : ov_cap u) (I : ov_I F z h) (hw : ov_kw 2418441935039617055064064 F) (g : Int) (x : Int) (y : Int) (s : Int) (g_g : ov_g g) (g_x : ov_g x) (g_y : ov_g y) (g_s : ov_g s) (p0 : h 36 7 = 1 → h 36 8 = h 0 10) (p1 : (h 0 10 = 58 ∧ F (-5) 58 = 1 ∨ h 0 10 = 70 ∧ F (-5) 70 = 1)) : ov_T u d ov_m142 [ov_r 0, ov_i g, ov_i x, ov_i y, ov_i s] z h (P_OF_worst_0 F z h g x y s) := by
  refine ov_en rfl (Nat.le_of_ble_eq_true rfl) ?_
  show ov_R u d ov_m142 0 [(0, ov_r 0), (1, ov_i g), (2, ov_i x), (3, ov_i y), (4, ov_i s)] [] z h (P_OF_worst_0 F z h g x y s)
  refine ov_blk (ls2 := [(0, ov_r 0), (1, ov_i g), (2, ov_i x), (3, ov_i y), (4, ov_i s)]) (st2 := [ov_r 0, ov_i g, ov_r 0]) (pc2 := 3) b_142_0_3 rfl rfl ?_
  rcases rg_0_10 I with e1 | e1
  · skip
    refine ov_getf (v := ov_r 58) d_142_3 fl_OF_78 (zb_0 I) (zs_0 I) (congrArg ov_r e1) ?_
    refine ov_blk (ls2 := [(0, ov_r 0), (1, ov_i g), (2, ov_i x), (3, ov_i y), (4, ov_i s)]) (st2 := [ov_i y, ov_i x, ov_r 58, ov_i g, ov_r 0]) (pc2 := 8) b_142_6_2 rfl rfl ?_
    refine ov_cV (as := [ov_i x, ov_i y]) (st := [ov_i g, ov_r 0]) (d2 := d - 1) d_142_8 lk_OF_131 rfl (Nat.le_of_ble_eq_true rfl) (c := 9) (zb_58 I) (zs_58 I) ⟨by decide, rfl⟩ (by omega) (c_Town_corner_58 (d - 1) (by omega) U I x y (by omega) (by omega)) ?_
    rintro _ _ _ ⟨v3, rfl, rfl, rfl, f2⟩
    show ov_R u d ov_m142 11 [(0, ov_r 0), (1, ov_i g), (2, ov_i x), (3, ov_i y), (4, ov_i s)] [ov_i v3, ov_i g, ov_r 0] z h (P_OF_worst_0 F z h g x y s)
    have f4 : v3 = -1 ∨ (0 ≤ x ∧ x < (h 58 0) ∧ 0 ≤ y ∧ y < (h 58 1) ∧ v3 = y * 6 + x ∧ (h 58 0) ≤ 6 ∧ (h 58 1) ≤ 9) := f2
    clear f2
    refine ov_blk (ls2 := [(0, ov_r 0), (1, ov_i g), (2, ov_i x), (3, ov_i y), (4, ov_i s)]) (st2 := [ov_i 1, ov_i s, ov_i v3, ov_i g, ov_r 0]) (pc2 := 14) b_142_11_2 rfl rfl ?_
    refine ov_cV (as := [ov_i g, ov_i v3, ov_i s, ov_i 1]) (st := []) (d2 := d - 1) d_142_14 lk_OF_211 rfl (Nat.le_of_ble_eq_true rfl) (c := 0) (zb_0 I) (zs_0 I) ⟨by decide, rfl⟩ (by omega) (c_OF_reckoned_0 (d - 1) (by omega) U I (ov_kws hw (by decide +kernel)) g v3 s 1 (by omega) (by omega) (by omega) (by omega) (by omega) (by omega) (by omega)) ?_
    rintro _ z7 h8 ⟨v6, rfl, I9, f5⟩
    show ov_R u d ov_m142 17 [(0, ov_r 0), (1, ov_i g), (2, ov_i x), (3, ov_i y), (4, ov_i s)] [ov_i v6] z7 h8 (P_OF_worst_0 F z h g x y s)
    have f10 : -2147483648 ≤ v6 ∧ v6 ≤ 2147483647 ∧ ((h8 36 7) = 1 → (h8 36 8) = (h8 0 10)) ∧ (¬ v6 = -1 → (h8 36 8) = (h8 0 10)) ∧ (h8 1 1) = (h 1 1) ∧ (h8 90 2) = (h 90 2) ∧ (h8 0 10) = (h 0 10) ∧ (h8 0 11) = (h 0 11) ∧ (h8 0 12) = (h 0 12) ∧ (h8 0 13) = (h 0 13) ∧ (h8 3 1) = (h 3 1) ∧ (h8 46 3) = (h 46 3) ∧ (h8 46 4) = (h 46 4) ∧ (h8 49 4) = (h 49 4) ∧ (h8 49 5) = (h 49 5) ∧ (h8 64 0) = (h 64 0) ∧ (h8 76 0) = (h 76 0) := f5
    clear f5
    have e11 : h8 0 10 = 58 := by omega
    exact ov_reti (st := []) d_142_17 rfl ⟨_, rfl, I9, (by show -2147483648 ≤ v6 ∧ v6 ≤ 2147483647 ∧ ((h8 36 7) = 1 → (h8 36 8) = (h8 0 10)) ∧ (h8 1 1) = (h 1 1) ∧ (h8 90 2) = (h 90 2) ∧ (h8 0 10) = (h 0 10) ∧ (h8 0 11) = (h 0 11) ∧ (h8 0 12) = (h 0 12) ∧ (h8 0 13) = (h 0 13) ∧ (h8 3 1) = (h 3 1) ∧ (h8 46 3) = (h 46 3) ∧ (h8 46 4) = (h 46 4) ∧ (h8 49 4) = (h 49 4) ∧ (h8 49 5) = (h 49 5) ∧ (h8 64 0) = (h 64 0) ∧ (h8 76 0) = (h 76 0); omega)⟩
  · skip
    refine ov_getf (v := ov_r 70) d_142_3 fl_OF_78 (zb_0 I) (zs_0 I) (congrArg ov_r e1) ?_
    refine ov_blk (ls2 := [(0, ov_r 0), (1, ov_i g), (2, ov_i x), (3, ov_i y), (4, ov_i s)]) (st2 := [ov_i y, ov_i x, ov_r 70, ov_i g, ov_r 0]) (pc2 := 8) b_142_6_2 rfl rfl ?_
    refine ov_cV (as := [ov_i x, ov_i y]) (st := [ov_i g, ov_r 0]) (d2 := d - 1) d_142_8 lk_OF_131 rfl (Nat.le_of_ble_eq_true rfl) (c := 9) (zb_70 I) (zs_70 I) ⟨by decide, rfl⟩ (by omega) (c_Town_corner_70 (d - 1) (by omega) U I x y (by omega) (by omega)) ?_
    rintro _ _ _ ⟨v13, rfl, rfl, rfl, f12⟩
    show ov_R u d ov_m142 11 [(0, ov_r 0), (1, ov_i g), (2, ov_i x), (3, ov_i y), (4, ov_i s)] [ov_i v13, ov_i g, ov_r 0] z h (P_OF_worst_0 F z h g x y s)
    have f14 : v13 = -1 ∨ (0 ≤ x ∧ x < (h 70 0) ∧ 0 ≤ y ∧ y < (h 70 1) ∧ v13 = y * 6 + x ∧ (h 70 0) ≤ 6 ∧ (h 70 1) ≤ 9) := f12
    clear f12
    refine ov_blk (ls2 := [(0, ov_r 0), (1, ov_i g), (2, ov_i x), (3, ov_i y), (4, ov_i s)]) (st2 := [ov_i 1, ov_i s, ov_i v13, ov_i g, ov_r 0]) (pc2 := 14) b_142_11_2 rfl rfl ?_
    refine ov_cV (as := [ov_i g, ov_i v13, ov_i s, ov_i 1]) (st := []) (d2 := d - 1) d_142_14 lk_OF_211 rfl (Nat.le_of_ble_eq_true rfl) (c := 0) (zb_0 I) (zs_0 I) ⟨by decide, rfl⟩ (by omega) (c_OF_reckoned_0 (d - 1) (by omega) U I (ov_kws hw (by decide +kernel)) g v13 s 1 (by omega) (by omega) (by omega) (by omega) (by omega) (by omega) (by omega)) ?_
    rintro _ z17 h18 ⟨v16, rfl, I19, f15⟩
    show ov_R u d ov_m142 17 [(0, ov_r 0), (1, ov_i g), (2, ov_i x), (3, ov_i y), (4, ov_i s)] [ov_i v16] z17 h18 (P_OF_worst_0 F z h g x y s)
    have f20 : -2147483648 ≤ v16 ∧ v16 ≤ 2147483647 ∧ ((h18 36 7) = 1 → (h18 36 8) = (h18 0 10)) ∧ (¬ v16 = -1 → (h18 36 8) = (h18 0 10)) ∧ (h18 1 1) = (h 1 1) ∧ (h18 90 2) = (h 90 2) ∧ (h18 0 10) = (h 0 10) ∧ (h18 0 11) = (h 0 11) ∧ (h18 0 12) = (h 0 12) ∧ (h18 0 13) = (h 0 13) ∧ (h18 3 1) = (h 3 1) ∧ (h18 46 3) = (h 46 3) ∧ (h18 46 4) = (h 46 4) ∧ (h18 49 4) = (h 49 4) ∧ (h18 49 5) = (h 49 5) ∧ (h18 64 0) = (h 64 0) ∧ (h18 76 0) = (h 76 0) := f15
    clear f15
    have e21 : h18 0 10 = 70 := by omega
    exact ov_reti (st := []) d_142_17 rfl ⟨_, rfl, I19, (by show -2147483648 ≤ v16 ∧ v16 ≤ 2147483647 ∧ ((h18 36 7) = 1 → (h18 36 8) = (h18 0 10)) ∧ (h18 1 1) = (h 1 1) ∧ (h18 90 2) = (h 90 2) ∧ (h18 0 10) = (h 0 10) ∧ (h18 0 11) = (h 0 11) ∧ (h18 0 12) = (h 0 12) ∧ (h18 0 13) = (h 0 13) ∧ (h18 3 1) = (h 3 1) ∧ (h18 46 3) = (h 46 3) ∧ (h18 46 4) = (h 46 4) ∧ (h18 49 4) = (h 49 4) ∧ (h18 49 5) = (h 49 5) ∧ (h18 64 0) = (h 64 0) ∧ (h18 76 0) = (h 76 0); omega)⟩
abbrev P_OF_choice_0 (F : ov_H) (z : ov_Z) (h : ov_H) (x : Int) (y : Int) (s : Int) (at_ : Int) : Option ov_V → ov_Z → ov_H → Prop := fun r0 z' h' => ∃ r : Int, r0 = some (ov_i r) ∧ ov_I F z' h' ∧ (((h' 36 7) = 1 → (h' 36 8) = (h' 0 10)) ∧ (h' 1 1) = (h 1 1) ∧ (h' 90 2) = (h 90 2) ∧ (h' 0 10) = (h 0 10) ∧ (h' 0 11) = (h 0 11) ∧ (h' 0 12) = (h 0 12) ∧ (h' 0 13) = (h 0 13) ∧ (h' 3 1) = (h 3 1) ∧ (h' 46 3) = (h 46 3) ∧ (h' 46 4) = (h 46 4) ∧ (h' 49 4) = (h 49 4) ∧ (h' 49 5) = (h 49 5) ∧ (h' 64 0) = (h 64 0) ∧ (h' 76 0) = (h 76 0))
set_option maxHeartbeats 4000000 in
theorem c_OF_choice_0 {u : ov_U} {F : ov_H} {z : ov_Z} {h : ov_H} (d : Nat) (hd : 301 ≤ d) (U : ov_cap u) (I : ov_I F z h) (hw : ov_kw 2418441935039617055064064 F) (x : Int) (y : Int) (s : Int) (at_ : Int) (g_x : ov_g x) (g_y : ov_g y) (g_s : ov_g s) (g_at_ : ov_g at_) (p0 : h 36 7 = 1 → h 36 8 = h 0 10) (p1 : (h 0 10 = 58 ∧ F (-5) 58 = 1 ∨ h 0 10 = 70 ∧ F (-5) 70 = 1)) : ov_T u d ov_m143 [ov_r 0, ov_i x, ov_i y, ov_i s, ov_i at_] z h (P_OF_choice_0 F z h x y s at_) := by
  refine ov_en rfl (Nat.le_of_ble_eq_true rfl) ?_
  show ov_R u d ov_m143 0 [(0, ov_r 0), (1, ov_i x), (2, ov_i y), (3, ov_i s), (4, ov_i at_)] [] z h (P_OF_choice_0 F z h x y s at_)
  refine ov_blk (ls2 := [(0, ov_r 0), (1, ov_i x), (2, ov_i y), (3, ov_i s), (4, ov_i at_)]) (st2 := [ov_r 0]) (pc2 := 1) b_143_0_1 rfl rfl ?_
  rcases rg_0_10 I with e1 | e1
  · skip
    refine ov_getf (v := ov_r 58) d_143_1 fl_OF_78 (zb_0 I) (zs_0 I) (congrArg ov_r e1) ?_
    refine ov_blk (ls2 := [(0, ov_r 0), (1, ov_i x), (2, ov_i y), (3, ov_i s), (4, ov_i at_)]) (st2 := [ov_i y, ov_i x, ov_r 58]) (pc2 := 6) b_143_4_2 rfl rfl ?_
    refine ov_cV (as := [ov_i x, ov_i y]) (st := []) (d2 := d - 1) d_143_6 lk_OF_131 rfl (Nat.le_of_ble_eq_true rfl) (c := 9) (zb_58 I) (zs_58 I) ⟨by decide, rfl⟩ (by omega) (c_Town_corner_58 (d - 1) (by omega) U I x y (by omega) (by omega)) ?_
    rintro _ _ _ ⟨v3, rfl, rfl, rfl, f2⟩
    show ov_R u d ov_m143 9 [(0, ov_r 0), (1, ov_i x), (2, ov_i y), (3, ov_i s), (4, ov_i at_)] [ov_i v3] z h (P_OF_choice_0 F z h x y s at_)
    have f4 : v3 = -1 ∨ (0 ≤ x ∧ x < (h 58 0) ∧ 0 ≤ y ∧ y < (h 58 1) ∧ v3 = y * 6 + x ∧ (h 58 0) ≤ 6 ∧ (h 58 1) ≤ 9) := f2
    clear f2
    refine ov_blk (ls2 := [(0, ov_r 0), (1, ov_i x), (2, ov_i y), (3, ov_i s), (4, ov_i at_), (5, ov_i v3)]) (st2 := [ov_i (-1), ov_i v3]) (pc2 := 14) b_143_9_3 rfl rfl ?_
    refine ov_iceq (tgt := 36) d_143_14 (by decide) (by omega) (by omega) (fun c5 => ?_) (fun c5 => ?_)
    · skip
      refine ov_blk (ls2 := [(0, ov_r 0), (1, ov_i x), (2, ov_i y), (3, ov_i s), (4, ov_i at_), (5, ov_i v3)]) (st2 := [ov_i (-1)]) (pc2 := 37) b_143_36_1 rfl rfl ?_
      exact ov_reti (st := []) d_143_37 rfl ⟨_, rfl, I, (by show ((h 36 7) = 1 → (h 36 8) = (h 0 10)) ∧ (h 1 1) = (h 1 1) ∧ (h 90 2) = (h 90 2) ∧ (h 0 10) = (h 0 10) ∧ (h 0 11) = (h 0 11) ∧ (h 0 12) = (h 0 12) ∧ (h 0 13) = (h 0 13) ∧ (h 3 1) = (h 3 1) ∧ (h 46 3) = (h 46 3) ∧ (h 46 4) = (h 46 4) ∧ (h 49 4) = (h 49 4) ∧ (h 49 5) = (h 49 5) ∧ (h 64 0) = (h 64 0) ∧ (h 76 0) = (h 76 0); omega)⟩
    · skip
      refine ov_blk (ls2 := [(0, ov_r 0), (1, ov_i x), (2, ov_i y), (3, ov_i s), (4, ov_i at_), (5, ov_i v3)]) (st2 := [ov_r 0, ov_i v3]) (pc2 := 20) b_143_17_2 rfl rfl ?_
      refine ov_getf (v := ov_r 58) d_143_20 fl_OF_78 (zb_0 I) (zs_0 I) (congrArg ov_r e1) ?_
      refine ov_cV (as := []) (st := [ov_i v3]) (d2 := d - 1) d_143_23 lk_OF_225 rfl (Nat.le_of_ble_eq_true rfl) (c := 9) (zb_58 I) (zs_58 I) ⟨by decide, rfl⟩ (by omega) (c_Town_home_58 (d - 1) (by omega) U I (by omega)) ?_
      rintro _ _ _ ⟨v7, rfl, rfl, rfl, f6⟩
      show ov_R u d ov_m143 26 [(0, ov_r 0), (1, ov_i x), (2, ov_i y), (3, ov_i s), (4, ov_i at_), (5, ov_i v3)] [ov_i v7, ov_i v3] z h (P_OF_choice_0 F z h x y s at_)
      have f8 : v7 = ((h 58 1) - 1) * 6 + (h 58 0) - 1 ∧ 0 ≤ v7 ∧ v7 ≤ 53 := f6
      clear f6
      refine ov_iceq (tgt := 36) d_143_26 (by decide) (by omega) (by omega) (fun c9 => ?_) (fun c9 => ?_)
      · skip
        refine ov_blk (ls2 := [(0, ov_r 0), (1, ov_i x), (2, ov_i y), (3, ov_i s), (4, ov_i at_), (5, ov_i v3)]) (st2 := [ov_i (-1)]) (pc2 := 37) b_143_36_1 rfl rfl ?_
        exact ov_reti (st := []) d_143_37 rfl ⟨_, rfl, I, (by show ((h 36 7) = 1 → (h 36 8) = (h 0 10)) ∧ (h 1 1) = (h 1 1) ∧ (h 90 2) = (h 90 2) ∧ (h 0 10) = (h 0 10) ∧ (h 0 11) = (h 0 11) ∧ (h 0 12) = (h 0 12) ∧ (h 0 13) = (h 0 13) ∧ (h 3 1) = (h 3 1) ∧ (h 46 3) = (h 46 3) ∧ (h 46 4) = (h 46 4) ∧ (h 49 4) = (h 49 4) ∧ (h 49 5) = (h 49 5) ∧ (h 64 0) = (h 64 0) ∧ (h 76 0) = (h 76 0); omega)⟩
      · skip
        refine ov_blk (ls2 := [(0, ov_r 0), (1, ov_i x), (2, ov_i y), (3, ov_i s), (4, ov_i at_), (5, ov_i v3)]) (st2 := [ov_i s]) (pc2 := 30) b_143_29_1 rfl rfl ?_
        refine ov_cS (as := [ov_i s]) (st := []) (d2 := d - 1) d_143_30 lk_OF_155 rfl (Nat.le_of_ble_eq_true rfl) (by omega) (c_OF_isSecond (d - 1) (by omega) U I s (by omega)) ?_
        rintro _ _ _ ⟨v11, rfl, rfl, rfl, f10⟩
        show ov_R u d ov_m143 33 [(0, ov_r 0), (1, ov_i x), (2, ov_i y), (3, ov_i s), (4, ov_i at_), (5, ov_i v3)] [ov_i v11] z h (P_OF_choice_0 F z h x y s at_)
        have f12 : (v11 = 0 ∨ v11 = 1) ∧ (v11 = 1 → 0 ≤ s ∧ s ≤ 1000000) := f10
        clear f10
        refine ov_ifne (tgt := 38) d_143_33 (by decide) (by omega) (fun c13 => ?_) (fun c13 => ?_)
        · skip
          refine ov_blk (ls2 := [(0, ov_r 0), (1, ov_i x), (2, ov_i y), (3, ov_i s), (4, ov_i at_), (5, ov_i v3)]) (st2 := [ov_r 0]) (pc2 := 39) b_143_38_1 rfl rfl ?_
          refine ov_getf (v := ov_r 36) d_143_39 fl_OF_50 (zb_0 I) (zs_0 I) (congrArg ov_r (rg_0_6 I)) ?_
          refine ov_blk (ls2 := [(0, ov_r 0), (1, ov_i x), (2, ov_i y), (3, ov_i s), (4, ov_i at_), (5, ov_i v3)]) (st2 := [ov_r 0, ov_r 36]) (pc2 := 43) b_143_42_1 rfl rfl ?_
          refine ov_getf (v := ov_r 58) d_143_43 fl_OF_78 (zb_0 I) (zs_0 I) (congrArg ov_r e1) ?_
          refine ov_blk (ls2 := [(0, ov_r 0), (1, ov_i x), (2, ov_i y), (3, ov_i s), (4, ov_i at_), (5, ov_i v3)]) (st2 := [ov_r 0, ov_r 58, ov_r 36]) (pc2 := 47) b_143_46_1 rfl rfl ?_
          refine ov_getf (v := ov_r 4) d_143_47 fl_OF_28 (zb_0 I) (zs_0 I) (congrArg ov_r (rg_0_2 I)) ?_
          refine ov_getf (v := ov_l (h 4 3)) d_143_50 fl_OF_192 (zb_4 I) (zs_4 I) rfl ?_
          refine ov_blk (ls2 := [(0, ov_r 0), (1, ov_i x), (2, ov_i y), (3, ov_i s), (4, ov_i at_), (5, ov_i v3)]) (st2 := [ov_i 0, ov_i 3, ov_l (h 4 3), ov_r 58, ov_r 36]) (pc2 := 55) b_143_53_2 rfl rfl ?_
          refine ov_cV (as := [ov_r 58, ov_l (h 4 3), ov_i 3, ov_i 0]) (st := []) (d2 := d - 1) d_143_55 lk_OF_218 rfl (Nat.le_of_ble_eq_true rfl) (c := 2) (zb_36 I) (zs_36 I) ⟨by decide, rfl⟩ (by omega) (c_Goers_ask_36_58 (d - 1) (by omega) U I (h 4 3) 3 0 (by omega) (by omega) (by omega) (by omega)) ?_
          rintro _ z15 h16 ⟨rfl, I17, f14⟩
          show ov_R u d ov_m143 58 [(0, ov_r 0), (1, ov_i x), (2, ov_i y), (3, ov_i s), (4, ov_i at_), (5, ov_i v3)] [] z15 h16 (P_OF_choice_0 F z h x y s at_)
          have f18 : (h16 36 8) = 58 ∧ (h16 36 7) = 1 ∧ (h16 1 1) = (h 1 1) ∧ (h16 90 2) = (h 90 2) ∧ (h16 0 10) = (h 0 10) ∧ (h16 0 11) = (h 0 11) ∧ (h16 0 12) = (h 0 12) ∧ (h16 0 13) = (h 0 13) ∧ (h16 3 1) = (h 3 1) ∧ (h16 46 3) = (h 46 3) ∧ (h16 46 4) = (h 46 4) ∧ (h16 49 4) = (h 49 4) ∧ (h16 49 5) = (h 49 5) ∧ (h16 64 0) = (h 64 0) ∧ (h16 76 0) = (h 76 0) := f14
          clear f14
          have e19 : h16 0 10 = 58 := by omega
          have e20 : h16 36 8 = 58 := by omega
          refine ov_blk (ls2 := [(0, ov_r 0), (1, ov_i x), (2, ov_i y), (3, ov_i s), (4, ov_i at_), (5, ov_i v3), (6, ov_i s)]) (st2 := [ov_r 0]) (pc2 := 62) b_143_58_3 rfl rfl ?_
          refine ov_getf (v := ov_r 36) d_143_62 fl_OF_50 (zb_0 I17) (zs_0 I17) (congrArg ov_r (rg_0_6 I17)) ?_
          refine ov_blk (ls2 := [(0, ov_r 0), (1, ov_i x), (2, ov_i y), (3, ov_i s), (4, ov_i at_), (5, ov_i v3), (6, ov_i s)]) (st2 := [ov_i v3, ov_r 36]) (pc2 := 67) b_143_65_1 rfl rfl ?_
          refine ov_cV (as := [ov_i v3]) (st := []) (d2 := d - 1) d_143_67 lk_OF_228 rfl (Nat.le_of_ble_eq_true rfl) (c := 2) (zb_36 I17) (zs_36 I17) ⟨by decide, rfl⟩ (by omega) (c_Goers_hides_36_k36_8_58 (d - 1) (by omega) U I17 v3 e20 (by omega) (by omega)) ?_
          rintro _ _ _ ⟨v22, rfl, rfl, rfl, f21⟩
          show ov_R u d ov_m143 70 [(0, ov_r 0), (1, ov_i x), (2, ov_i y), (3, ov_i s), (4, ov_i at_), (5, ov_i v3), (6, ov_i s)] [ov_i v22] z15 h16 (P_OF_choice_0 F z h x y s at_)
          have f23 : (v22 = 0 ∨ v22 = 1) := f21
          clear f21
          refine ov_ifeq (tgt := 99) d_143_70 (by decide) (by omega) (fun c24 => ?_) (fun c24 => ?_)
          · skip
            refine ov_blk (ls2 := [(0, ov_r 0), (1, ov_i x), (2, ov_i y), (3, ov_i s), (4, ov_i at_), (5, ov_i v3), (6, ov_i s)]) (st2 := [ov_r 0]) (pc2 := 100) b_143_99_1 rfl rfl ?_
            refine ov_getf (v := ov_r 36) d_143_100 fl_OF_50 (zb_0 I17) (zs_0 I17) (congrArg ov_r (rg_0_6 I17)) ?_
            refine ov_blk (ls2 := [(0, ov_r 0), (1, ov_i x), (2, ov_i y), (3, ov_i s), (4, ov_i at_), (5, ov_i v3), (6, ov_i s)]) (st2 := [ov_i s, ov_i s, ov_i v3, ov_r 36]) (pc2 := 108) b_143_103_3 rfl rfl ?_
            refine ov_cV (as := [ov_i v3, ov_i s, ov_i s]) (st := []) (d2 := d - 1) d_143_108 lk_OF_231 rfl (Nat.le_of_ble_eq_true rfl) (c := 2) (zb_36 I17) (zs_36 I17) ⟨by decide, rfl⟩ (by omega) (c_Goers_wayOf_36_k36_8_58_all (Int.toNat (53 - (v3))) (d - 1) (by omega) U I17 (ov_kws hw (by decide +kernel)) v3 s s e20 (by omega) (by omega) (by omega) (by omega) (by omega)) ?_
            rintro _ z27 h28 ⟨v26, rfl, I29, f25⟩
            show ov_R u d ov_m143 111 [(0, ov_r 0), (1, ov_i x), (2, ov_i y), (3, ov_i s), (4, ov_i at_), (5, ov_i v3), (6, ov_i s)] [ov_i v26] z27 h28 (P_OF_choice_0 F z h x y s at_)
            have f30 : (v26 = -1 ∨ (v26 = 0 ∧ v3 ≤ 52) ∨ (v26 = 1 ∧ v3 ≤ 47)) ∧ (h28 36 7) = (h16 36 7) ∧ (h28 1 1) = (h16 1 1) ∧ (h28 90 2) = (h16 90 2) ∧ (h28 0 10) = (h16 0 10) ∧ (h28 0 11) = (h16 0 11) ∧ (h28 0 12) = (h16 0 12) ∧ (h28 0 13) = (h16 0 13) ∧ (h28 3 1) = (h16 3 1) ∧ (h28 36 8) = (h16 36 8) ∧ (h28 46 3) = (h16 46 3) ∧ (h28 46 4) = (h16 46 4) ∧ (h28 49 4) = (h16 49 4) ∧ (h28 49 5) = (h16 49 5) ∧ (h28 64 0) = (h16 64 0) ∧ (h28 76 0) = (h16 76 0) := f25
            clear f25
            have e31 : h28 0 10 = 58 := by omega
            have e32 : h28 36 8 = 58 := by omega
            exact ov_reti (st := []) d_143_111 rfl ⟨_, rfl, I29, (by show ((h28 36 7) = 1 → (h28 36 8) = (h28 0 10)) ∧ (h28 1 1) = (h 1 1) ∧ (h28 90 2) = (h 90 2) ∧ (h28 0 10) = (h 0 10) ∧ (h28 0 11) = (h 0 11) ∧ (h28 0 12) = (h 0 12) ∧ (h28 0 13) = (h 0 13) ∧ (h28 3 1) = (h 3 1) ∧ (h28 46 3) = (h 46 3) ∧ (h28 46 4) = (h 46 4) ∧ (h28 49 4) = (h 49 4) ∧ (h28 49 5) = (h 49 5) ∧ (h28 64 0) = (h 64 0) ∧ (h28 76 0) = (h 76 0); omega)⟩
          · skip
            refine ov_blk (ls2 := [(0, ov_r 0), (1, ov_i x), (2, ov_i y), (3, ov_i s), (4, ov_i at_), (5, ov_i v3), (6, ov_i s)]) (st2 := [ov_i at_]) (pc2 := 75) b_143_73_1 rfl rfl ?_
            refine ov_iflt (tgt := 93) d_143_75 (by decide) (by omega) (fun c33 => ?_) (fun c33 => ?_)
            · skip
              refine ov_blk (ls2 := [(0, ov_r 0), (1, ov_i x), (2, ov_i y), (3, ov_i s), (4, ov_i at_), (5, ov_i v3), (6, ov_i s)]) (st2 := [ov_i (-1)]) (pc2 := 94) b_143_93_1 rfl rfl ?_
              exact ov_reti (st := []) d_143_94 rfl ⟨_, rfl, I17, (by show ((h16 36 7) = 1 → (h16 36 8) = (h16 0 10)) ∧ (h16 1 1) = (h 1 1) ∧ (h16 90 2) = (h 90 2) ∧ (h16 0 10) = (h 0 10) ∧ (h16 0 11) = (h 0 11) ∧ (h16 0 12) = (h 0 12) ∧ (h16 0 13) = (h 0 13) ∧ (h16 3 1) = (h 3 1) ∧ (h16 46 3) = (h 46 3) ∧ (h16 46 4) = (h 46 4) ∧ (h16 49 4) = (h 49 4) ∧ (h16 49 5) = (h 49 5) ∧ (h16 64 0) = (h 64 0) ∧ (h16 76 0) = (h 76 0); omega)⟩
            · skip
              refine ov_blk (ls2 := [(0, ov_r 0), (1, ov_i x), (2, ov_i y), (3, ov_i s), (4, ov_i at_), (5, ov_i v3), (6, ov_i s)]) (st2 := [ov_r 0, ov_i at_]) (pc2 := 81) b_143_78_2 rfl rfl ?_
              refine ov_getf (v := ov_r 58) d_143_81 fl_OF_78 (zb_0 I17) (zs_0 I17) (congrArg ov_r e19) ?_
              refine ov_getf (v := ov_r 60) d_143_84 fl_OF_142 (zb_58 I17) (zs_58 I17) (congrArg ov_r (rg_58_3 I17)) ?_
              refine ov_blk (ls2 := [(0, ov_r 0), (1, ov_i x), (2, ov_i y), (3, ov_i s), (4, ov_i at_), (5, ov_i v3), (6, ov_i s)]) (st2 := [ov_i v3, ov_r 60, ov_i at_]) (pc2 := 89) b_143_87_1 rfl rfl ?_
              refine ov_iald d_143_89 (zb_60 I17) (zs_60 I17) (by omega) ?_
              have g34 := ra_60 I17 v3
              refine ov_iclt (tgt := 95) d_143_90 (by decide) (by omega) (by omega) (fun c35 => ?_) (fun c35 => ?_)
              · skip
                refine ov_blk (ls2 := [(0, ov_r 0), (1, ov_i x), (2, ov_i y), (3, ov_i s), (4, ov_i at_), (5, ov_i v3), (6, ov_i at_)]) (st2 := [ov_r 0]) (pc2 := 100) b_143_95_3 rfl rfl ?_
                refine ov_getf (v := ov_r 36) d_143_100 fl_OF_50 (zb_0 I17) (zs_0 I17) (congrArg ov_r (rg_0_6 I17)) ?_
                refine ov_blk (ls2 := [(0, ov_r 0), (1, ov_i x), (2, ov_i y), (3, ov_i s), (4, ov_i at_), (5, ov_i v3), (6, ov_i at_)]) (st2 := [ov_i at_, ov_i s, ov_i v3, ov_r 36]) (pc2 := 108) b_143_103_3 rfl rfl ?_
                refine ov_cV (as := [ov_i v3, ov_i s, ov_i at_]) (st := []) (d2 := d - 1) d_143_108 lk_OF_231 rfl (Nat.le_of_ble_eq_true rfl) (c := 2) (zb_36 I17) (zs_36 I17) ⟨by decide, rfl⟩ (by omega) (c_Goers_wayOf_36_k36_8_58_all (Int.toNat (53 - (v3))) (d - 1) (by omega) U I17 (ov_kws hw (by decide +kernel)) v3 s at_ e20 (by omega) (by omega) (by omega) (by omega) (by omega)) ?_
                rintro _ z38 h39 ⟨v37, rfl, I40, f36⟩
                show ov_R u d ov_m143 111 [(0, ov_r 0), (1, ov_i x), (2, ov_i y), (3, ov_i s), (4, ov_i at_), (5, ov_i v3), (6, ov_i at_)] [ov_i v37] z38 h39 (P_OF_choice_0 F z h x y s at_)
                have f41 : (v37 = -1 ∨ (v37 = 0 ∧ v3 ≤ 52) ∨ (v37 = 1 ∧ v3 ≤ 47)) ∧ (h39 36 7) = (h16 36 7) ∧ (h39 1 1) = (h16 1 1) ∧ (h39 90 2) = (h16 90 2) ∧ (h39 0 10) = (h16 0 10) ∧ (h39 0 11) = (h16 0 11) ∧ (h39 0 12) = (h16 0 12) ∧ (h39 0 13) = (h16 0 13) ∧ (h39 3 1) = (h16 3 1) ∧ (h39 36 8) = (h16 36 8) ∧ (h39 46 3) = (h16 46 3) ∧ (h39 46 4) = (h16 46 4) ∧ (h39 49 4) = (h16 49 4) ∧ (h39 49 5) = (h16 49 5) ∧ (h39 64 0) = (h16 64 0) ∧ (h39 76 0) = (h16 76 0) := f36
                clear f36
                have e42 : h39 0 10 = 58 := by omega
                have e43 : h39 36 8 = 58 := by omega
                exact ov_reti (st := []) d_143_111 rfl ⟨_, rfl, I40, (by show ((h39 36 7) = 1 → (h39 36 8) = (h39 0 10)) ∧ (h39 1 1) = (h 1 1) ∧ (h39 90 2) = (h 90 2) ∧ (h39 0 10) = (h 0 10) ∧ (h39 0 11) = (h 0 11) ∧ (h39 0 12) = (h 0 12) ∧ (h39 0 13) = (h 0 13) ∧ (h39 3 1) = (h 3 1) ∧ (h39 46 3) = (h 46 3) ∧ (h39 46 4) = (h 46 4) ∧ (h39 49 4) = (h 49 4) ∧ (h39 49 5) = (h 49 5) ∧ (h39 64 0) = (h 64 0) ∧ (h39 76 0) = (h 76 0); omega)⟩
              · skip
                refine ov_blk (ls2 := [(0, ov_r 0), (1, ov_i x), (2, ov_i y), (3, ov_i s), (4, ov_i at_), (5, ov_i v3), (6, ov_i s)]) (st2 := [ov_i (-1)]) (pc2 := 94) b_143_93_1 rfl rfl ?_
                exact ov_reti (st := []) d_143_94 rfl ⟨_, rfl, I17, (by show ((h16 36 7) = 1 → (h16 36 8) = (h16 0 10)) ∧ (h16 1 1) = (h 1 1) ∧ (h16 90 2) = (h 90 2) ∧ (h16 0 10) = (h 0 10) ∧ (h16 0 11) = (h 0 11) ∧ (h16 0 12) = (h 0 12) ∧ (h16 0 13) = (h 0 13) ∧ (h16 3 1) = (h 3 1) ∧ (h16 46 3) = (h 46 3) ∧ (h16 46 4) = (h 46 4) ∧ (h16 49 4) = (h 49 4) ∧ (h16 49 5) = (h 49 5) ∧ (h16 64 0) = (h 64 0) ∧ (h16 76 0) = (h 76 0); omega)⟩
        · skip
          refine ov_blk (ls2 := [(0, ov_r 0), (1, ov_i x), (2, ov_i y), (3, ov_i s), (4, ov_i at_), (5, ov_i v3)]) (st2 := [ov_i (-1)]) (pc2 := 37) b_143_36_1 rfl rfl ?_
          exact ov_reti (st := []) d_143_37 rfl ⟨_, rfl, I, (by show ((h 36 7) = 1 → (h 36 8) = (h 0 10)) ∧ (h 1 1) = (h 1 1) ∧ (h 90 2) = (h 90 2) ∧ (h 0 10) = (h 0 10) ∧ (h 0 11) = (h 0 11) ∧ (h 0 12) = (h 0 12) ∧ (h 0 13) = (h 0 13) ∧ (h 3 1) = (h 3 1) ∧ (h 46 3) = (h 46 3) ∧ (h 46 4) = (h 46 4) ∧ (h 49 4) = (h 49 4) ∧ (h 49 5) = (h 49 5) ∧ (h 64 0) = (h 64 0) ∧ (h 76 0) = (h 76 0); omega)⟩
  · skip
    refine ov_getf (v := ov_r 70) d_143_1 fl_OF_78 (zb_0 I) (zs_0 I) (congrArg ov_r e1) ?_
    refine ov_blk (ls2 := [(0, ov_r 0), (1, ov_i x), (2, ov_i y), (3, ov_i s), (4, ov_i at_)]) (st2 := [ov_i y, ov_i x, ov_r 70]) (pc2 := 6) b_143_4_2 rfl rfl ?_
    refine ov_cV (as := [ov_i x, ov_i y]) (st := []) (d2 := d - 1) d_143_6 lk_OF_131 rfl (Nat.le_of_ble_eq_true rfl) (c := 9) (zb_70 I) (zs_70 I) ⟨by decide, rfl⟩ (by omega) (c_Town_corner_70 (d - 1) (by omega) U I x y (by omega) (by omega)) ?_
    rintro _ _ _ ⟨v45, rfl, rfl, rfl, f44⟩
    show ov_R u d ov_m143 9 [(0, ov_r 0), (1, ov_i x), (2, ov_i y), (3, ov_i s), (4, ov_i at_)] [ov_i v45] z h (P_OF_choice_0 F z h x y s at_)
    have f46 : v45 = -1 ∨ (0 ≤ x ∧ x < (h 70 0) ∧ 0 ≤ y ∧ y < (h 70 1) ∧ v45 = y * 6 + x ∧ (h 70 0) ≤ 6 ∧ (h 70 1) ≤ 9) := f44
    clear f44
    refine ov_blk (ls2 := [(0, ov_r 0), (1, ov_i x), (2, ov_i y), (3, ov_i s), (4, ov_i at_), (5, ov_i v45)]) (st2 := [ov_i (-1), ov_i v45]) (pc2 := 14) b_143_9_3 rfl rfl ?_
    refine ov_iceq (tgt := 36) d_143_14 (by decide) (by omega) (by omega) (fun c47 => ?_) (fun c47 => ?_)
    · skip
      refine ov_blk (ls2 := [(0, ov_r 0), (1, ov_i x), (2, ov_i y), (3, ov_i s), (4, ov_i at_), (5, ov_i v45)]) (st2 := [ov_i (-1)]) (pc2 := 37) b_143_36_1 rfl rfl ?_
      exact ov_reti (st := []) d_143_37 rfl ⟨_, rfl, I, (by show ((h 36 7) = 1 → (h 36 8) = (h 0 10)) ∧ (h 1 1) = (h 1 1) ∧ (h 90 2) = (h 90 2) ∧ (h 0 10) = (h 0 10) ∧ (h 0 11) = (h 0 11) ∧ (h 0 12) = (h 0 12) ∧ (h 0 13) = (h 0 13) ∧ (h 3 1) = (h 3 1) ∧ (h 46 3) = (h 46 3) ∧ (h 46 4) = (h 46 4) ∧ (h 49 4) = (h 49 4) ∧ (h 49 5) = (h 49 5) ∧ (h 64 0) = (h 64 0) ∧ (h 76 0) = (h 76 0); omega)⟩
    · skip
      refine ov_blk (ls2 := [(0, ov_r 0), (1, ov_i x), (2, ov_i y), (3, ov_i s), (4, ov_i at_), (5, ov_i v45)]) (st2 := [ov_r 0, ov_i v45]) (pc2 := 20) b_143_17_2 rfl rfl ?_
      refine ov_getf (v := ov_r 70) d_143_20 fl_OF_78 (zb_0 I) (zs_0 I) (congrArg ov_r e1) ?_
      refine ov_cV (as := []) (st := [ov_i v45]) (d2 := d - 1) d_143_23 lk_OF_225 rfl (Nat.le_of_ble_eq_true rfl) (c := 9) (zb_70 I) (zs_70 I) ⟨by decide, rfl⟩ (by omega) (c_Town_home_70 (d - 1) (by omega) U I (by omega)) ?_
      rintro _ _ _ ⟨v49, rfl, rfl, rfl, f48⟩
      show ov_R u d ov_m143 26 [(0, ov_r 0), (1, ov_i x), (2, ov_i y), (3, ov_i s), (4, ov_i at_), (5, ov_i v45)] [ov_i v49, ov_i v45] z h (P_OF_choice_0 F z h x y s at_)
      have f50 : v49 = ((h 70 1) - 1) * 6 + (h 70 0) - 1 ∧ 0 ≤ v49 ∧ v49 ≤ 53 := f48
      clear f48
      refine ov_iceq (tgt := 36) d_143_26 (by decide) (by omega) (by omega) (fun c51 => ?_) (fun c51 => ?_)
      · skip
        refine ov_blk (ls2 := [(0, ov_r 0), (1, ov_i x), (2, ov_i y), (3, ov_i s), (4, ov_i at_), (5, ov_i v45)]) (st2 := [ov_i (-1)]) (pc2 := 37) b_143_36_1 rfl rfl ?_
        exact ov_reti (st := []) d_143_37 rfl ⟨_, rfl, I, (by show ((h 36 7) = 1 → (h 36 8) = (h 0 10)) ∧ (h 1 1) = (h 1 1) ∧ (h 90 2) = (h 90 2) ∧ (h 0 10) = (h 0 10) ∧ (h 0 11) = (h 0 11) ∧ (h 0 12) = (h 0 12) ∧ (h 0 13) = (h 0 13) ∧ (h 3 1) = (h 3 1) ∧ (h 46 3) = (h 46 3) ∧ (h 46 4) = (h 46 4) ∧ (h 49 4) = (h 49 4) ∧ (h 49 5) = (h 49 5) ∧ (h 64 0) = (h 64 0) ∧ (h 76 0) = (h 76 0); omega)⟩
      · skip
        refine ov_blk (ls2 := [(0, ov_r 0), (1, ov_i x), (2, ov_i y), (3, ov_i s), (4, ov_i at_), (5, ov_i v45)]) (st2 := [ov_i s]) (pc2 := 30) b_143_29_1 rfl rfl ?_
        refine ov_cS (as := [ov_i s]) (st := []) (d2 := d - 1) d_143_30 lk_OF_155 rfl (Nat.le_of_ble_eq_true rfl) (by omega) (c_OF_isSecond (d - 1) (by omega) U I s (by omega)) ?_
        rintro _ _ _ ⟨v53, rfl, rfl, rfl, f52⟩
        show ov_R u d ov_m143 33 [(0, ov_r 0), (1, ov_i x), (2, ov_i y), (3, ov_i s), (4, ov_i at_), (5, ov_i v45)] [ov_i v53] z h (P_OF_choice_0 F z h x y s at_)
        have f54 : (v53 = 0 ∨ v53 = 1) ∧ (v53 = 1 → 0 ≤ s ∧ s ≤ 1000000) := f52
        clear f52
        refine ov_ifne (tgt := 38) d_143_33 (by decide) (by omega) (fun c55 => ?_) (fun c55 => ?_)
        · skip
          refine ov_blk (ls2 := [(0, ov_r 0), (1, ov_i x), (2, ov_i y), (3, ov_i s), (4, ov_i at_), (5, ov_i v45)]) (st2 := [ov_r 0]) (pc2 := 39) b_143_38_1 rfl rfl ?_
          refine ov_getf (v := ov_r 36) d_143_39 fl_OF_50 (zb_0 I) (zs_0 I) (congrArg ov_r (rg_0_6 I)) ?_
          refine ov_blk (ls2 := [(0, ov_r 0), (1, ov_i x), (2, ov_i y), (3, ov_i s), (4, ov_i at_), (5, ov_i v45)]) (st2 := [ov_r 0, ov_r 36]) (pc2 := 43) b_143_42_1 rfl rfl ?_
          refine ov_getf (v := ov_r 70) d_143_43 fl_OF_78 (zb_0 I) (zs_0 I) (congrArg ov_r e1) ?_
          refine ov_blk (ls2 := [(0, ov_r 0), (1, ov_i x), (2, ov_i y), (3, ov_i s), (4, ov_i at_), (5, ov_i v45)]) (st2 := [ov_r 0, ov_r 70, ov_r 36]) (pc2 := 47) b_143_46_1 rfl rfl ?_
          refine ov_getf (v := ov_r 4) d_143_47 fl_OF_28 (zb_0 I) (zs_0 I) (congrArg ov_r (rg_0_2 I)) ?_
          refine ov_getf (v := ov_l (h 4 3)) d_143_50 fl_OF_192 (zb_4 I) (zs_4 I) rfl ?_
          refine ov_blk (ls2 := [(0, ov_r 0), (1, ov_i x), (2, ov_i y), (3, ov_i s), (4, ov_i at_), (5, ov_i v45)]) (st2 := [ov_i 0, ov_i 3, ov_l (h 4 3), ov_r 70, ov_r 36]) (pc2 := 55) b_143_53_2 rfl rfl ?_
          refine ov_cV (as := [ov_r 70, ov_l (h 4 3), ov_i 3, ov_i 0]) (st := []) (d2 := d - 1) d_143_55 lk_OF_218 rfl (Nat.le_of_ble_eq_true rfl) (c := 2) (zb_36 I) (zs_36 I) ⟨by decide, rfl⟩ (by omega) (c_Goers_ask_36_70 (d - 1) (by omega) U I (h 4 3) 3 0 (by omega) (by omega) (by omega) (by omega)) ?_
          rintro _ z57 h58 ⟨rfl, I59, f56⟩
          show ov_R u d ov_m143 58 [(0, ov_r 0), (1, ov_i x), (2, ov_i y), (3, ov_i s), (4, ov_i at_), (5, ov_i v45)] [] z57 h58 (P_OF_choice_0 F z h x y s at_)
          have f60 : (h58 36 8) = 70 ∧ (h58 36 7) = 1 ∧ (h58 1 1) = (h 1 1) ∧ (h58 90 2) = (h 90 2) ∧ (h58 0 10) = (h 0 10) ∧ (h58 0 11) = (h 0 11) ∧ (h58 0 12) = (h 0 12) ∧ (h58 0 13) = (h 0 13) ∧ (h58 3 1) = (h 3 1) ∧ (h58 46 3) = (h 46 3) ∧ (h58 46 4) = (h 46 4) ∧ (h58 49 4) = (h 49 4) ∧ (h58 49 5) = (h 49 5) ∧ (h58 64 0) = (h 64 0) ∧ (h58 76 0) = (h 76 0) := f56
          clear f56
          have e61 : h58 0 10 = 70 := by omega
          have e62 : h58 36 8 = 70 := by omega
          refine ov_blk (ls2 := [(0, ov_r 0), (1, ov_i x), (2, ov_i y), (3, ov_i s), (4, ov_i at_), (5, ov_i v45), (6, ov_i s)]) (st2 := [ov_r 0]) (pc2 := 62) b_143_58_3 rfl rfl ?_
          refine ov_getf (v := ov_r 36) d_143_62 fl_OF_50 (zb_0 I59) (zs_0 I59) (congrArg ov_r (rg_0_6 I59)) ?_
          refine ov_blk (ls2 := [(0, ov_r 0), (1, ov_i x), (2, ov_i y), (3, ov_i s), (4, ov_i at_), (5, ov_i v45), (6, ov_i s)]) (st2 := [ov_i v45, ov_r 36]) (pc2 := 67) b_143_65_1 rfl rfl ?_
          refine ov_cV (as := [ov_i v45]) (st := []) (d2 := d - 1) d_143_67 lk_OF_228 rfl (Nat.le_of_ble_eq_true rfl) (c := 2) (zb_36 I59) (zs_36 I59) ⟨by decide, rfl⟩ (by omega) (c_Goers_hides_36_k36_8_70 (d - 1) (by omega) U I59 v45 e62 (by omega) (by omega)) ?_
          rintro _ _ _ ⟨v64, rfl, rfl, rfl, f63⟩
          show ov_R u d ov_m143 70 [(0, ov_r 0), (1, ov_i x), (2, ov_i y), (3, ov_i s), (4, ov_i at_), (5, ov_i v45), (6, ov_i s)] [ov_i v64] z57 h58 (P_OF_choice_0 F z h x y s at_)
          have f65 : (v64 = 0 ∨ v64 = 1) := f63
          clear f63
          refine ov_ifeq (tgt := 99) d_143_70 (by decide) (by omega) (fun c66 => ?_) (fun c66 => ?_)
          · skip
            refine ov_blk (ls2 := [(0, ov_r 0), (1, ov_i x), (2, ov_i y), (3, ov_i s), (4, ov_i at_), (5, ov_i v45), (6, ov_i s)]) (st2 := [ov_r 0]) (pc2 := 100) b_143_99_1 rfl rfl ?_
            refine ov_getf (v := ov_r 36) d_143_100 fl_OF_50 (zb_0 I59) (zs_0 I59) (congrArg ov_r (rg_0_6 I59)) ?_
            refine ov_blk (ls2 := [(0, ov_r 0), (1, ov_i x), (2, ov_i y), (3, ov_i s), (4, ov_i at_), (5, ov_i v45), (6, ov_i s)]) (st2 := [ov_i s, ov_i s, ov_i v45, ov_r 36]) (pc2 := 108) b_143_103_3 rfl rfl ?_
            refine ov_cV (as := [ov_i v45, ov_i s, ov_i s]) (st := []) (d2 := d - 1) d_143_108 lk_OF_231 rfl (Nat.le_of_ble_eq_true rfl) (c := 2) (zb_36 I59) (zs_36 I59) ⟨by decide, rfl⟩ (by omega) (c_Goers_wayOf_36_k36_8_70_all (Int.toNat (53 - (v45))) (d - 1) (by omega) U I59 (ov_kws hw (by decide +kernel)) v45 s s e62 (by omega) (by omega) (by omega) (by omega) (by omega)) ?_
            rintro _ z69 h70 ⟨v68, rfl, I71, f67⟩
            show ov_R u d ov_m143 111 [(0, ov_r 0), (1, ov_i x), (2, ov_i y), (3, ov_i s), (4, ov_i at_), (5, ov_i v45), (6, ov_i s)] [ov_i v68] z69 h70 (P_OF_choice_0 F z h x y s at_)
            have f72 : (v68 = -1 ∨ (v68 = 0 ∧ v45 ≤ 52) ∨ (v68 = 1 ∧ v45 ≤ 47)) ∧ (h70 36 7) = (h58 36 7) ∧ (h70 1 1) = (h58 1 1) ∧ (h70 90 2) = (h58 90 2) ∧ (h70 0 10) = (h58 0 10) ∧ (h70 0 11) = (h58 0 11) ∧ (h70 0 12) = (h58 0 12) ∧ (h70 0 13) = (h58 0 13) ∧ (h70 3 1) = (h58 3 1) ∧ (h70 36 8) = (h58 36 8) ∧ (h70 46 3) = (h58 46 3) ∧ (h70 46 4) = (h58 46 4) ∧ (h70 49 4) = (h58 49 4) ∧ (h70 49 5) = (h58 49 5) ∧ (h70 64 0) = (h58 64 0) ∧ (h70 76 0) = (h58 76 0) := f67
            clear f67
            have e73 : h70 0 10 = 70 := by omega
            have e74 : h70 36 8 = 70 := by omega
            exact ov_reti (st := []) d_143_111 rfl ⟨_, rfl, I71, (by show ((h70 36 7) = 1 → (h70 36 8) = (h70 0 10)) ∧ (h70 1 1) = (h 1 1) ∧ (h70 90 2) = (h 90 2) ∧ (h70 0 10) = (h 0 10) ∧ (h70 0 11) = (h 0 11) ∧ (h70 0 12) = (h 0 12) ∧ (h70 0 13) = (h 0 13) ∧ (h70 3 1) = (h 3 1) ∧ (h70 46 3) = (h 46 3) ∧ (h70 46 4) = (h 46 4) ∧ (h70 49 4) = (h 49 4) ∧ (h70 49 5) = (h 49 5) ∧ (h70 64 0) = (h 64 0) ∧ (h70 76 0) = (h 76 0); omega)⟩
          · skip
            refine ov_blk (ls2 := [(0, ov_r 0), (1, ov_i x), (2, ov_i y), (3, ov_i s), (4, ov_i at_), (5, ov_i v45), (6, ov_i s)]) (st2 := [ov_i at_]) (pc2 := 75) b_143_73_1 rfl rfl ?_
            refine ov_iflt (tgt := 93) d_143_75 (by decide) (by omega) (fun c75 => ?_) (fun c75 => ?_)
            · skip
              refine ov_blk (ls2 := [(0, ov_r 0), (1, ov_i x), (2, ov_i y), (3, ov_i s), (4, ov_i at_), (5, ov_i v45), (6, ov_i s)]) (st2 := [ov_i (-1)]) (pc2 := 94) b_143_93_1 rfl rfl ?_
              exact ov_reti (st := []) d_143_94 rfl ⟨_, rfl, I59, (by show ((h58 36 7) = 1 → (h58 36 8) = (h58 0 10)) ∧ (h58 1 1) = (h 1 1) ∧ (h58 90 2) = (h 90 2) ∧ (h58 0 10) = (h 0 10) ∧ (h58 0 11) = (h 0 11) ∧ (h58 0 12) = (h 0 12) ∧ (h58 0 13) = (h 0 13) ∧ (h58 3 1) = (h 3 1) ∧ (h58 46 3) = (h 46 3) ∧ (h58 46 4) = (h 46 4) ∧ (h58 49 4) = (h 49 4) ∧ (h58 49 5) = (h 49 5) ∧ (h58 64 0) = (h 64 0) ∧ (h58 76 0) = (h 76 0); omega)⟩
            · skip
              refine ov_blk (ls2 := [(0, ov_r 0), (1, ov_i x), (2, ov_i y), (3, ov_i s), (4, ov_i at_), (5, ov_i v45), (6, ov_i s)]) (st2 := [ov_r 0, ov_i at_]) (pc2 := 81) b_143_78_2 rfl rfl ?_
              refine ov_getf (v := ov_r 70) d_143_81 fl_OF_78 (zb_0 I59) (zs_0 I59) (congrArg ov_r e61) ?_
              refine ov_getf (v := ov_r 72) d_143_84 fl_OF_142 (zb_70 I59) (zs_70 I59) (congrArg ov_r (rg_70_3 I59)) ?_
              refine ov_blk (ls2 := [(0, ov_r 0), (1, ov_i x), (2, ov_i y), (3, ov_i s), (4, ov_i at_), (5, ov_i v45), (6, ov_i s)]) (st2 := [ov_i v45, ov_r 72, ov_i at_]) (pc2 := 89) b_143_87_1 rfl rfl ?_
              refine ov_iald d_143_89 (zb_72 I59) (zs_72 I59) (by omega) ?_
              have g76 := ra_72 I59 v45
              refine ov_iclt (tgt := 95) d_143_90 (by decide) (by omega) (by omega) (fun c77 => ?_) (fun c77 => ?_)
              · skip
                refine ov_blk (ls2 := [(0, ov_r 0), (1, ov_i x), (2, ov_i y), (3, ov_i s), (4, ov_i at_), (5, ov_i v45), (6, ov_i at_)]) (st2 := [ov_r 0]) (pc2 := 100) b_143_95_3 rfl rfl ?_
                refine ov_getf (v := ov_r 36) d_143_100 fl_OF_50 (zb_0 I59) (zs_0 I59) (congrArg ov_r (rg_0_6 I59)) ?_
                refine ov_blk (ls2 := [(0, ov_r 0), (1, ov_i x), (2, ov_i y), (3, ov_i s), (4, ov_i at_), (5, ov_i v45), (6, ov_i at_)]) (st2 := [ov_i at_, ov_i s, ov_i v45, ov_r 36]) (pc2 := 108) b_143_103_3 rfl rfl ?_
                refine ov_cV (as := [ov_i v45, ov_i s, ov_i at_]) (st := []) (d2 := d - 1) d_143_108 lk_OF_231 rfl (Nat.le_of_ble_eq_true rfl) (c := 2) (zb_36 I59) (zs_36 I59) ⟨by decide, rfl⟩ (by omega) (c_Goers_wayOf_36_k36_8_70_all (Int.toNat (53 - (v45))) (d - 1) (by omega) U I59 (ov_kws hw (by decide +kernel)) v45 s at_ e62 (by omega) (by omega) (by omega) (by omega) (by omega)) ?_
                rintro _ z80 h81 ⟨v79, rfl, I82, f78⟩
                show ov_R u d ov_m143 111 [(0, ov_r 0), (1, ov_i x), (2, ov_i y), (3, ov_i s), (4, ov_i at_), (5, ov_i v45), (6, ov_i at_)] [ov_i v79] z80 h81 (P_OF_choice_0 F z h x y s at_)
                have f83 : (v79 = -1 ∨ (v79 = 0 ∧ v45 ≤ 52) ∨ (v79 = 1 ∧ v45 ≤ 47)) ∧ (h81 36 7) = (h58 36 7) ∧ (h81 1 1) = (h58 1 1) ∧ (h81 90 2) = (h58 90 2) ∧ (h81 0 10) = (h58 0 10) ∧ (h81 0 11) = (h58 0 11) ∧ (h81 0 12) = (h58 0 12) ∧ (h81 0 13) = (h58 0 13) ∧ (h81 3 1) = (h58 3 1) ∧ (h81 36 8) = (h58 36 8) ∧ (h81 46 3) = (h58 46 3) ∧ (h81 46 4) = (h58 46 4) ∧ (h81 49 4) = (h58 49 4) ∧ (h81 49 5) = (h58 49 5) ∧ (h81 64 0) = (h58 64 0) ∧ (h81 76 0) = (h58 76 0) := f78
                clear f78
                have e84 : h81 0 10 = 70 := by omega
                have e85 : h81 36 8 = 70 := by omega
                exact ov_reti (st := []) d_143_111 rfl ⟨_, rfl, I82, (by show ((h81 36 7) = 1 → (h81 36 8) = (h81 0 10)) ∧ (h81 1 1) = (h 1 1) ∧ (h81 90 2) = (h 90 2) ∧ (h81 0 10) = (h 0 10) ∧ (h81 0 11) = (h 0 11) ∧ (h81 0 12) = (h 0 12) ∧ (h81 0 13) = (h 0 13) ∧ (h81 3 1) = (h 3 1) ∧ (h81 46 3) = (h 46 3) ∧ (h81 46 4) = (h 46 4) ∧ (h81 49 4) = (h 49 4) ∧ (h81 49 5) = (h 49 5) ∧ (h81 64 0) = (h 64 0) ∧ (h81 76 0) = (h 76 0); omega)⟩
              · skip
                refine ov_blk (ls2 := [(0, ov_r 0), (1, ov_i x), (2, ov_i y), (3, ov_i s), (4, ov_i at_), (5, ov_i v45), (6, ov_i s)]) (st2 := [ov_i (-1)]) (pc2 := 94) b_143_93_1 rfl rfl ?_
                exact ov_reti (st := []) d_143_94 rfl ⟨_, rfl, I59, (by show ((h58 36 7) = 1 → (h58 36 8) = (h58 0 10)) ∧ (h58 1 1) = (h 1 1) ∧ (h58 90 2) = (h 90 2) ∧ (h58 0 10) = (h 0 10) ∧ (h58 0 11) = (h 0 11) ∧ (h58 0 12) = (h 0 12) ∧ (h58 0 13) = (h 0 13) ∧ (h58 3 1) = (h 3 1) ∧ (h58 46 3) = (h 46 3) ∧ (h58 46 4) = (h 46 4) ∧ (h58 49 4) = (h 49 4) ∧ (h58 49 5) = (h 49 5) ∧ (h58 64 0) = (h 64 0) ∧ (h58 76 0) = (h 76 0); omega)⟩
        · skip
          refine ov_blk (ls2 := [(0, ov_r 0), (1, ov_i x), (2, ov_i y), (3, ov_i s), (4, ov_i at_), (5, ov_i v45)]) (st2 := [ov_i (-1)]) (pc2 := 37) b_143_36_1 rfl rfl ?_
          exact ov_reti (st := []) d_143_37 rfl ⟨_, rfl, I, (by show ((h 36 7) = 1 → (h 36 8) = (h 0 10)) ∧ (h 1 1) = (h 1 1) ∧ (h 90 2) = (h 90 2) ∧ (h 0 10) = (h 0 10) ∧ (h 0 11) = (h 0 11) ∧ (h 0 12) = (h 0 12) ∧ (h 0 13) = (h 0 13) ∧ (h 3 1) = (h 3 1) ∧ (h 46 3) = (h 46 3) ∧ (h 46 4) = (h 46 4) ∧ (h 49 4) = (h 49 4) ∧ (h 49 5) = (h 49 5) ∧ (h 64 0) = (h 64 0) ∧ (h 76 0) = (h 76 0); omega)⟩
abbrev P_OF_gap_0 (F : ov_H) (z : ov_Z) (h : ov_H) (x : Int) (y : Int) (s : Int) : Option ov_V → ov_Z → ov_H → Prop := fun r0 z' h' => ∃ r : Int, r0 = some (ov_i r) ∧ ov_I F z' h' ∧ (((h' 36 7) = 1 → (h' 36 8) = (h' 0 10)) ∧ (h' 1 1) = (h 1 1) ∧ (h' 90 2) = (h 90 2) ∧ (h' 0 10) = (h 0 10) ∧ (h' 0 11) = (h 0 11) ∧ (h' 0 12) = (h 0 12) ∧ (h' 0 13) = (h 0 13) ∧ (h' 3 1) = (h 3 1) ∧ (h' 46 3) = (h 46 3) ∧ (h' 46 4) = (h 46 4) ∧ (h' 49 4) = (h 49 4) ∧ (h' 49 5) = (h 49 5) ∧ (h' 64 0) = (h 64 0) ∧ (h' 76 0) = (h 76 0))
set_option maxHeartbeats 4000000 in
theorem c_OF_gap_0 {u : ov_U} {F : ov_H} {z : ov_Z} {h : ov_H} (d : Nat) (hd : 302 ≤ d) (U : ov_cap u) (I : ov_I F z h) (hw : ov_kw 2418441935039617055064064 F) (x : Int) (y : Int) (s : Int) (g_x : ov_g x) (g_y : ov_g y) (g_s : ov_g s) (p0 : h 36 7 = 1 → h 36 8 = h 0 10) (p1 : (h 0 10 = 58 ∧ F (-5) 58 = 1 ∨ h 0 10 = 70 ∧ F (-5) 70 = 1)) : ov_T u d ov_m145 [ov_r 0, ov_i x, ov_i y, ov_i s] z h (P_OF_gap_0 F z h x y s) := by
  refine ov_en rfl (Nat.le_of_ble_eq_true rfl) ?_
  show ov_R u d ov_m145 0 [(0, ov_r 0), (1, ov_i x), (2, ov_i y), (3, ov_i s)] [] z h (P_OF_gap_0 F z h x y s)
  refine ov_blk (ls2 := [(0, ov_r 0), (1, ov_i x), (2, ov_i y), (3, ov_i s)]) (st2 := [ov_i s, ov_i y, ov_i x, ov_i 2, ov_r 0]) (pc2 := 5) b_145_0_5 rfl rfl ?_
  refine ov_cV (as := [ov_i 2, ov_i x, ov_i y, ov_i s]) (st := []) (d2 := d - 1) d_145_5 lk_OF_234 rfl (Nat.le_of_ble_eq_true rfl) (c := 0) (zb_0 I) (zs_0 I) ⟨by decide, rfl⟩ (by omega) (c_OF_mean_0 (d - 1) (by omega) U I (ov_kws hw (by decide +kernel)) 2 x y s (by omega) (by omega) (by omega) (by omega) (by omega) (by omega)) ?_
  rintro _ z3 h4 ⟨v2, rfl, I5, f1⟩
  show ov_R u d ov_m145 8 [(0, ov_r 0), (1, ov_i x), (2, ov_i y), (3, ov_i s)] [ov_i v2] z3 h4 (P_OF_gap_0 F z h x y s)
  have f6 : -2147483648 ≤ v2 ∧ v2 ≤ 2147483647 ∧ ((h4 36 7) = 1 → (h4 36 8) = (h4 0 10)) ∧ (h4 1 1) = (h 1 1) ∧ (h4 90 2) = (h 90 2) ∧ (h4 0 10) = (h 0 10) ∧ (h4 0 11) = (h 0 11) ∧ (h4 0 12) = (h 0 12) ∧ (h4 0 13) = (h 0 13) ∧ (h4 3 1) = (h 3 1) ∧ (h4 46 3) = (h 46 3) ∧ (h4 46 4) = (h 46 4) ∧ (h4 49 4) = (h 49 4) ∧ (h4 49 5) = (h 49 5) ∧ (h4 64 0) = (h 64 0) ∧ (h4 76 0) = (h 76 0) := f1
  clear f1
  refine ov_blk (ls2 := [(0, ov_r 0), (1, ov_i x), (2, ov_i y), (3, ov_i s), (4, ov_i v2)]) (st2 := [ov_i s, ov_i y, ov_i x, ov_i 3, ov_r 0]) (pc2 := 15) b_145_8_6 rfl rfl ?_
  refine ov_cV (as := [ov_i 3, ov_i x, ov_i y, ov_i s]) (st := []) (d2 := d - 1) d_145_15 lk_OF_234 rfl (Nat.le_of_ble_eq_true rfl) (c := 0) (zb_0 I5) (zs_0 I5) ⟨by decide, rfl⟩ (by omega) (c_OF_mean_0 (d - 1) (by omega) U I5 (ov_kws hw (by decide +kernel)) 3 x y s (by omega) (by omega) (by omega) (by omega) (by omega) (by omega)) ?_
  rintro _ z9 h10 ⟨v8, rfl, I11, f7⟩
  show ov_R u d ov_m145 18 [(0, ov_r 0), (1, ov_i x), (2, ov_i y), (3, ov_i s), (4, ov_i v2)] [ov_i v8] z9 h10 (P_OF_gap_0 F z h x y s)
  have f12 : -2147483648 ≤ v8 ∧ v8 ≤ 2147483647 ∧ ((h10 36 7) = 1 → (h10 36 8) = (h10 0 10)) ∧ (h10 1 1) = (h4 1 1) ∧ (h10 90 2) = (h4 90 2) ∧ (h10 0 10) = (h4 0 10) ∧ (h10 0 11) = (h4 0 11) ∧ (h10 0 12) = (h4 0 12) ∧ (h10 0 13) = (h4 0 13) ∧ (h10 3 1) = (h4 3 1) ∧ (h10 46 3) = (h4 46 3) ∧ (h10 46 4) = (h4 46 4) ∧ (h10 49 4) = (h4 49 4) ∧ (h10 49 5) = (h4 49 5) ∧ (h10 64 0) = (h4 64 0) ∧ (h10 76 0) = (h4 76 0) := f7
  clear f7
  refine ov_blk (ls2 := [(0, ov_r 0), (1, ov_i x), (2, ov_i y), (3, ov_i s), (4, ov_i v2), (5, ov_i v8)]) (st2 := [ov_i (-1), ov_i v2]) (pc2 := 23) b_145_18_3 rfl rfl ?_
  refine ov_iceq (tgt := 32) d_145_23 (by decide) (by omega) (by omega) (fun c13 => ?_) (fun c13 => ?_)
  · skip
    refine ov_blk (ls2 := [(0, ov_r 0), (1, ov_i x), (2, ov_i y), (3, ov_i s), (4, ov_i v2), (5, ov_i v8)]) (st2 := [ov_i (-1)]) (pc2 := 33) b_145_32_1 rfl rfl ?_
    refine ov_goto (tgt := 41) d_145_33 (by decide) ?_
    exact ov_reti (st := []) d_145_41 rfl ⟨_, rfl, I11, (by show ((h10 36 7) = 1 → (h10 36 8) = (h10 0 10)) ∧ (h10 1 1) = (h 1 1) ∧ (h10 90 2) = (h 90 2) ∧ (h10 0 10) = (h 0 10) ∧ (h10 0 11) = (h 0 11) ∧ (h10 0 12) = (h 0 12) ∧ (h10 0 13) = (h 0 13) ∧ (h10 3 1) = (h 3 1) ∧ (h10 46 3) = (h 46 3) ∧ (h10 46 4) = (h 46 4) ∧ (h10 49 4) = (h 49 4) ∧ (h10 49 5) = (h 49 5) ∧ (h10 64 0) = (h 64 0) ∧ (h10 76 0) = (h 76 0); omega)⟩
  · skip
    refine ov_blk (ls2 := [(0, ov_r 0), (1, ov_i x), (2, ov_i y), (3, ov_i s), (4, ov_i v2), (5, ov_i v8)]) (st2 := [ov_i (-1), ov_i v8]) (pc2 := 29) b_145_26_2 rfl rfl ?_
    refine ov_icne (tgt := 36) d_145_29 (by decide) (by omega) (by omega) (fun c14 => ?_) (fun c14 => ?_)
    · skip
      refine ov_blk (ls2 := [(0, ov_r 0), (1, ov_i x), (2, ov_i y), (3, ov_i s), (4, ov_i v2), (5, ov_i v8)]) (st2 := [ov_i (v2 - v8)]) (pc2 := 41) b_145_36_3 rfl rfl ?_
      refine ov_havw (fun w15 gw15 qw15 => ?_)
      exact ov_reti (st := []) d_145_41 rfl ⟨_, rfl, I11, (by show ((h10 36 7) = 1 → (h10 36 8) = (h10 0 10)) ∧ (h10 1 1) = (h 1 1) ∧ (h10 90 2) = (h 90 2) ∧ (h10 0 10) = (h 0 10) ∧ (h10 0 11) = (h 0 11) ∧ (h10 0 12) = (h 0 12) ∧ (h10 0 13) = (h 0 13) ∧ (h10 3 1) = (h 3 1) ∧ (h10 46 3) = (h 46 3) ∧ (h10 46 4) = (h 46 4) ∧ (h10 49 4) = (h 49 4) ∧ (h10 49 5) = (h 49 5) ∧ (h10 64 0) = (h 64 0) ∧ (h10 76 0) = (h 76 0); omega)⟩
    · skip
      refine ov_blk (ls2 := [(0, ov_r 0), (1, ov_i x), (2, ov_i y), (3, ov_i s), (4, ov_i v2), (5, ov_i v8)]) (st2 := [ov_i (-1)]) (pc2 := 33) b_145_32_1 rfl rfl ?_
      refine ov_goto (tgt := 41) d_145_33 (by decide) ?_
      exact ov_reti (st := []) d_145_41 rfl ⟨_, rfl, I11, (by show ((h10 36 7) = 1 → (h10 36 8) = (h10 0 10)) ∧ (h10 1 1) = (h 1 1) ∧ (h10 90 2) = (h 90 2) ∧ (h10 0 10) = (h 0 10) ∧ (h10 0 11) = (h 0 11) ∧ (h10 0 12) = (h 0 12) ∧ (h10 0 13) = (h 0 13) ∧ (h10 3 1) = (h 3 1) ∧ (h10 46 3) = (h 46 3) ∧ (h10 46 4) = (h 46 4) ∧ (h10 49 4) = (h 49 4) ∧ (h10 49 5) = (h 49 5) ∧ (h10 64 0) = (h 64 0) ∧ (h10 76 0) = (h 76 0); omega)⟩
abbrev P_OF_watch_0 (F : ov_H) (z : ov_Z) (h : ov_H) (x : Int) (y : Int) (s : Int) : Option ov_V → ov_Z → ov_H → Prop := fun r0 z' h' => ∃ r : Int, r0 = some (ov_i r) ∧ ov_I F z' h' ∧ (((h' 36 7) = 1 → (h' 36 8) = (h' 0 10)) ∧ (h' 1 1) = (h 1 1) ∧ (h' 90 2) = (h 90 2) ∧ (h' 0 10) = (h 0 10) ∧ (h' 0 11) = (h 0 11) ∧ (h' 0 12) = (h 0 12) ∧ (h' 0 13) = (h 0 13) ∧ (h' 3 1) = (h 3 1) ∧ (h' 46 3) = (h 46 3) ∧ (h' 46 4) = (h 46 4) ∧ (h' 49 4) = (h 49 4) ∧ (h' 49 5) = (h 49 5) ∧ (h' 64 0) = (h 64 0) ∧ (h' 76 0) = (h 76 0))
set_option maxHeartbeats 4000000 in
theorem c_OF_watch_0 {u : ov_U} {F : ov_H} {z : ov_Z} {h : ov_H} (d : Nat) (hd : 302 ≤ d) (U : ov_cap u) (I : ov_I F z h) (hw : ov_kw 2418441935039617055064064 F) (x : Int) (y : Int) (s : Int) (g_x : ov_g x) (g_y : ov_g y) (g_s : ov_g s) (p0 : h 36 7 = 1 → h 36 8 = h 0 10) (p1 : (h 0 10 = 58 ∧ F (-5) 58 = 1 ∨ h 0 10 = 70 ∧ F (-5) 70 = 1)) : ov_T u d ov_m146 [ov_r 0, ov_i x, ov_i y, ov_i s] z h (P_OF_watch_0 F z h x y s) := by
  refine ov_en rfl (Nat.le_of_ble_eq_true rfl) ?_
  show ov_R u d ov_m146 0 [(0, ov_r 0), (1, ov_i x), (2, ov_i y), (3, ov_i s)] [] z h (P_OF_watch_0 F z h x y s)
  refine ov_blk (ls2 := [(0, ov_r 0), (1, ov_i x), (2, ov_i y), (3, ov_i s)]) (st2 := [ov_r 0]) (pc2 := 1) b_146_0_1 rfl rfl ?_
  rcases rg_0_10 I with e1 | e1
  · skip
    refine ov_getf (v := ov_r 58) d_146_1 fl_OF_78 (zb_0 I) (zs_0 I) (congrArg ov_r e1) ?_
    refine ov_blk (ls2 := [(0, ov_r 0), (1, ov_i x), (2, ov_i y), (3, ov_i s)]) (st2 := [ov_i y, ov_i x, ov_r 58]) (pc2 := 6) b_146_4_2 rfl rfl ?_
    refine ov_cV (as := [ov_i x, ov_i y]) (st := []) (d2 := d - 1) d_146_6 lk_OF_131 rfl (Nat.le_of_ble_eq_true rfl) (c := 9) (zb_58 I) (zs_58 I) ⟨by decide, rfl⟩ (by omega) (c_Town_corner_58 (d - 1) (by omega) U I x y (by omega) (by omega)) ?_
    rintro _ _ _ ⟨v3, rfl, rfl, rfl, f2⟩
    show ov_R u d ov_m146 9 [(0, ov_r 0), (1, ov_i x), (2, ov_i y), (3, ov_i s)] [ov_i v3] z h (P_OF_watch_0 F z h x y s)
    have f4 : v3 = -1 ∨ (0 ≤ x ∧ x < (h 58 0) ∧ 0 ≤ y ∧ y < (h 58 1) ∧ v3 = y * 6 + x ∧ (h 58 0) ≤ 6 ∧ (h 58 1) ≤ 9) := f2
    clear f2
    refine ov_blk (ls2 := [(0, ov_r 0), (1, ov_i x), (2, ov_i y), (3, ov_i s), (4, ov_i v3)]) (st2 := [ov_i (-1), ov_i v3]) (pc2 := 14) b_146_9_3 rfl rfl ?_
    refine ov_iceq (tgt := 41) d_146_14 (by decide) (by omega) (by omega) (fun c5 => ?_) (fun c5 => ?_)
    · skip
      refine ov_blk (ls2 := [(0, ov_r 0), (1, ov_i x), (2, ov_i y), (3, ov_i s), (4, ov_i v3)]) (st2 := [ov_i (-1)]) (pc2 := 42) b_146_41_1 rfl rfl ?_
      exact ov_reti (st := []) d_146_42 rfl ⟨_, rfl, I, (by show ((h 36 7) = 1 → (h 36 8) = (h 0 10)) ∧ (h 1 1) = (h 1 1) ∧ (h 90 2) = (h 90 2) ∧ (h 0 10) = (h 0 10) ∧ (h 0 11) = (h 0 11) ∧ (h 0 12) = (h 0 12) ∧ (h 0 13) = (h 0 13) ∧ (h 3 1) = (h 3 1) ∧ (h 46 3) = (h 46 3) ∧ (h 46 4) = (h 46 4) ∧ (h 49 4) = (h 49 4) ∧ (h 49 5) = (h 49 5) ∧ (h 64 0) = (h 64 0) ∧ (h 76 0) = (h 76 0); omega)⟩
    · skip
      refine ov_blk (ls2 := [(0, ov_r 0), (1, ov_i x), (2, ov_i y), (3, ov_i s), (4, ov_i v3)]) (st2 := [ov_i 0, ov_i s, ov_i 0, ov_i 3, ov_r 0]) (pc2 := 22) b_146_17_5 rfl rfl ?_
      refine ov_cV (as := [ov_i 3, ov_i 0, ov_i s, ov_i 0]) (st := []) (d2 := d - 1) d_146_22 lk_OF_211 rfl (Nat.le_of_ble_eq_true rfl) (c := 0) (zb_0 I) (zs_0 I) ⟨by decide, rfl⟩ (by omega) (c_OF_reckoned_0 (d - 1) (by omega) U I (ov_kws hw (by decide +kernel)) 3 0 s 0 (by omega) (by omega) (by omega) (by omega) (by omega) (by omega) (by omega)) ?_
      rintro _ z8 h9 ⟨v7, rfl, I10, f6⟩
      show ov_R u d ov_m146 25 [(0, ov_r 0), (1, ov_i x), (2, ov_i y), (3, ov_i s), (4, ov_i v3)] [ov_i v7] z8 h9 (P_OF_watch_0 F z h x y s)
      have f11 : -2147483648 ≤ v7 ∧ v7 ≤ 2147483647 ∧ ((h9 36 7) = 1 → (h9 36 8) = (h9 0 10)) ∧ (¬ v7 = -1 → (h9 36 8) = (h9 0 10)) ∧ (h9 1 1) = (h 1 1) ∧ (h9 90 2) = (h 90 2) ∧ (h9 0 10) = (h 0 10) ∧ (h9 0 11) = (h 0 11) ∧ (h9 0 12) = (h 0 12) ∧ (h9 0 13) = (h 0 13) ∧ (h9 3 1) = (h 3 1) ∧ (h9 46 3) = (h 46 3) ∧ (h9 46 4) = (h 46 4) ∧ (h9 49 4) = (h 49 4) ∧ (h9 49 5) = (h 49 5) ∧ (h9 64 0) = (h 64 0) ∧ (h9 76 0) = (h 76 0) := f6
      clear f6
      have e12 : h9 0 10 = 58 := by omega
      refine ov_blk (ls2 := [(0, ov_r 0), (1, ov_i x), (2, ov_i y), (3, ov_i s), (4, ov_i v3)]) (st2 := [ov_i (-1), ov_i v7]) (pc2 := 26) b_146_25_1 rfl rfl ?_
      refine ov_iceq (tgt := 41) d_146_26 (by decide) (by omega) (by omega) (fun c13 => ?_) (fun c13 => ?_)
      · skip
        refine ov_blk (ls2 := [(0, ov_r 0), (1, ov_i x), (2, ov_i y), (3, ov_i s), (4, ov_i v3)]) (st2 := [ov_i (-1)]) (pc2 := 42) b_146_41_1 rfl rfl ?_
        exact ov_reti (st := []) d_146_42 rfl ⟨_, rfl, I10, (by show ((h9 36 7) = 1 → (h9 36 8) = (h9 0 10)) ∧ (h9 1 1) = (h 1 1) ∧ (h9 90 2) = (h 90 2) ∧ (h9 0 10) = (h 0 10) ∧ (h9 0 11) = (h 0 11) ∧ (h9 0 12) = (h 0 12) ∧ (h9 0 13) = (h 0 13) ∧ (h9 3 1) = (h 3 1) ∧ (h9 46 3) = (h 46 3) ∧ (h9 46 4) = (h 46 4) ∧ (h9 49 4) = (h 49 4) ∧ (h9 49 5) = (h 49 5) ∧ (h9 64 0) = (h 64 0) ∧ (h9 76 0) = (h 76 0); omega)⟩
      · skip
        refine ov_blk (ls2 := [(0, ov_r 0), (1, ov_i x), (2, ov_i y), (3, ov_i s), (4, ov_i v3)]) (st2 := [ov_r 0]) (pc2 := 30) b_146_29_1 rfl rfl ?_
        refine ov_getf (v := ov_r 36) d_146_30 fl_OF_50 (zb_0 I10) (zs_0 I10) (congrArg ov_r (rg_0_6 I10)) ?_
        refine ov_blk (ls2 := [(0, ov_r 0), (1, ov_i x), (2, ov_i y), (3, ov_i s), (4, ov_i v3)]) (st2 := [ov_i v3, ov_r 36]) (pc2 := 35) b_146_33_1 rfl rfl ?_
        rcases rg_36_8 I10 with e14 | e14 | e14
        · omega
        · skip
          refine ov_cV (as := [ov_i v3]) (st := []) (d2 := d - 1) d_146_35 lk_OF_228 rfl (Nat.le_of_ble_eq_true rfl) (c := 2) (zb_36 I10) (zs_36 I10) ⟨by decide, rfl⟩ (by omega) (c_Goers_hides_36_k36_8_58 (d - 1) (by omega) U I10 v3 e14 (by omega) (by omega)) ?_
          rintro _ _ _ ⟨v16, rfl, rfl, rfl, f15⟩
          show ov_R u d ov_m146 38 [(0, ov_r 0), (1, ov_i x), (2, ov_i y), (3, ov_i s), (4, ov_i v3)] [ov_i v16] z8 h9 (P_OF_watch_0 F z h x y s)
          have f17 : (v16 = 0 ∨ v16 = 1) := f15
          clear f15
          refine ov_ifne (tgt := 43) d_146_38 (by decide) (by omega) (fun c18 => ?_) (fun c18 => ?_)
          · skip
            refine ov_blk (ls2 := [(0, ov_r 0), (1, ov_i x), (2, ov_i y), (3, ov_i s), (4, ov_i v3)]) (st2 := [ov_r 0]) (pc2 := 44) b_146_43_1 rfl rfl ?_
            refine ov_getf (v := ov_r 36) d_146_44 fl_OF_50 (zb_0 I10) (zs_0 I10) (congrArg ov_r (rg_0_6 I10)) ?_
            refine ov_blk (ls2 := [(0, ov_r 0), (1, ov_i x), (2, ov_i y), (3, ov_i s), (4, ov_i v3)]) (st2 := [ov_i s, ov_i v3, ov_r 36]) (pc2 := 50) b_146_47_2 rfl rfl ?_
            refine ov_cV (as := [ov_i v3, ov_i s]) (st := []) (d2 := d - 1) d_146_50 lk_OF_238 rfl (Nat.le_of_ble_eq_true rfl) (c := 2) (zb_36 I10) (zs_36 I10) ⟨by decide, rfl⟩ (by omega) (c_Goers_worthOfWatching_36_k36_8_58 (d - 1) (by omega) U I10 (ov_kws hw (by decide +kernel)) v3 s e14 (by omega) (by omega) (by omega) (by omega)) ?_
            rintro _ z21 h22 ⟨v20, rfl, I23, f19⟩
            show ov_R u d ov_m146 53 [(0, ov_r 0), (1, ov_i x), (2, ov_i y), (3, ov_i s), (4, ov_i v3)] [ov_i v20] z21 h22 (P_OF_watch_0 F z h x y s)
            have f24 : -2147483648 ≤ v20 ∧ v20 ≤ 2147483647 ∧ (h22 36 7) = (h9 36 7) ∧ (h22 1 1) = (h9 1 1) ∧ (h22 90 2) = (h9 90 2) ∧ (h22 0 10) = (h9 0 10) ∧ (h22 0 11) = (h9 0 11) ∧ (h22 0 12) = (h9 0 12) ∧ (h22 0 13) = (h9 0 13) ∧ (h22 3 1) = (h9 3 1) ∧ (h22 36 8) = (h9 36 8) ∧ (h22 46 3) = (h9 46 3) ∧ (h22 46 4) = (h9 46 4) ∧ (h22 49 4) = (h9 49 4) ∧ (h22 49 5) = (h9 49 5) ∧ (h22 64 0) = (h9 64 0) ∧ (h22 76 0) = (h9 76 0) := f19
            clear f19
            have e25 : h22 0 10 = 58 := by omega
            have e26 : h22 36 8 = 58 := by omega
            exact ov_reti (st := []) d_146_53 rfl ⟨_, rfl, I23, (by show ((h22 36 7) = 1 → (h22 36 8) = (h22 0 10)) ∧ (h22 1 1) = (h 1 1) ∧ (h22 90 2) = (h 90 2) ∧ (h22 0 10) = (h 0 10) ∧ (h22 0 11) = (h 0 11) ∧ (h22 0 12) = (h 0 12) ∧ (h22 0 13) = (h 0 13) ∧ (h22 3 1) = (h 3 1) ∧ (h22 46 3) = (h 46 3) ∧ (h22 46 4) = (h 46 4) ∧ (h22 49 4) = (h 49 4) ∧ (h22 49 5) = (h 49 5) ∧ (h22 64 0) = (h 64 0) ∧ (h22 76 0) = (h 76 0); omega)⟩
          · skip
            refine ov_blk (ls2 := [(0, ov_r 0), (1, ov_i x), (2, ov_i y), (3, ov_i s), (4, ov_i v3)]) (st2 := [ov_i (-1)]) (pc2 := 42) b_146_41_1 rfl rfl ?_
            exact ov_reti (st := []) d_146_42 rfl ⟨_, rfl, I10, (by show ((h9 36 7) = 1 → (h9 36 8) = (h9 0 10)) ∧ (h9 1 1) = (h 1 1) ∧ (h9 90 2) = (h 90 2) ∧ (h9 0 10) = (h 0 10) ∧ (h9 0 11) = (h 0 11) ∧ (h9 0 12) = (h 0 12) ∧ (h9 0 13) = (h 0 13) ∧ (h9 3 1) = (h 3 1) ∧ (h9 46 3) = (h 46 3) ∧ (h9 46 4) = (h 46 4) ∧ (h9 49 4) = (h 49 4) ∧ (h9 49 5) = (h 49 5) ∧ (h9 64 0) = (h 64 0) ∧ (h9 76 0) = (h 76 0); omega)⟩
        · skip
          refine ov_cV (as := [ov_i v3]) (st := []) (d2 := d - 1) d_146_35 lk_OF_228 rfl (Nat.le_of_ble_eq_true rfl) (c := 2) (zb_36 I10) (zs_36 I10) ⟨by decide, rfl⟩ (by omega) (c_Goers_hides_36_k36_8_70 (d - 1) (by omega) U I10 v3 e14 (by omega) (by omega)) ?_
          rintro _ _ _ ⟨v28, rfl, rfl, rfl, f27⟩
          show ov_R u d ov_m146 38 [(0, ov_r 0), (1, ov_i x), (2, ov_i y), (3, ov_i s), (4, ov_i v3)] [ov_i v28] z8 h9 (P_OF_watch_0 F z h x y s)
          have f29 : (v28 = 0 ∨ v28 = 1) := f27
          clear f27
          refine ov_ifne (tgt := 43) d_146_38 (by decide) (by omega) (fun c30 => ?_) (fun c30 => ?_)
          · skip
            refine ov_blk (ls2 := [(0, ov_r 0), (1, ov_i x), (2, ov_i y), (3, ov_i s), (4, ov_i v3)]) (st2 := [ov_r 0]) (pc2 := 44) b_146_43_1 rfl rfl ?_
            refine ov_getf (v := ov_r 36) d_146_44 fl_OF_50 (zb_0 I10) (zs_0 I10) (congrArg ov_r (rg_0_6 I10)) ?_
            refine ov_blk (ls2 := [(0, ov_r 0), (1, ov_i x), (2, ov_i y), (3, ov_i s), (4, ov_i v3)]) (st2 := [ov_i s, ov_i v3, ov_r 36]) (pc2 := 50) b_146_47_2 rfl rfl ?_
            refine ov_cV (as := [ov_i v3, ov_i s]) (st := []) (d2 := d - 1) d_146_50 lk_OF_238 rfl (Nat.le_of_ble_eq_true rfl) (c := 2) (zb_36 I10) (zs_36 I10) ⟨by decide, rfl⟩ (by omega) (c_Goers_worthOfWatching_36_k36_8_70 (d - 1) (by omega) U I10 (ov_kws hw (by decide +kernel)) v3 s e14 (by omega) (by omega) (by omega) (by omega)) ?_
            rintro _ z33 h34 ⟨v32, rfl, I35, f31⟩
            show ov_R u d ov_m146 53 [(0, ov_r 0), (1, ov_i x), (2, ov_i y), (3, ov_i s), (4, ov_i v3)] [ov_i v32] z33 h34 (P_OF_watch_0 F z h x y s)
            have f36 : -2147483648 ≤ v32 ∧ v32 ≤ 2147483647 ∧ (h34 36 7) = (h9 36 7) ∧ (h34 1 1) = (h9 1 1) ∧ (h34 90 2) = (h9 90 2) ∧ (h34 0 10) = (h9 0 10) ∧ (h34 0 11) = (h9 0 11) ∧ (h34 0 12) = (h9 0 12) ∧ (h34 0 13) = (h9 0 13) ∧ (h34 3 1) = (h9 3 1) ∧ (h34 36 8) = (h9 36 8) ∧ (h34 46 3) = (h9 46 3) ∧ (h34 46 4) = (h9 46 4) ∧ (h34 49 4) = (h9 49 4) ∧ (h34 49 5) = (h9 49 5) ∧ (h34 64 0) = (h9 64 0) ∧ (h34 76 0) = (h9 76 0) := f31
            clear f31
            have e37 : h34 0 10 = 58 := by omega
            have e38 : h34 36 8 = 70 := by omega
            exact ov_reti (st := []) d_146_53 rfl ⟨_, rfl, I35, (by show ((h34 36 7) = 1 → (h34 36 8) = (h34 0 10)) ∧ (h34 1 1) = (h 1 1) ∧ (h34 90 2) = (h 90 2) ∧ (h34 0 10) = (h 0 10) ∧ (h34 0 11) = (h 0 11) ∧ (h34 0 12) = (h 0 12) ∧ (h34 0 13) = (h 0 13) ∧ (h34 3 1) = (h 3 1) ∧ (h34 46 3) = (h 46 3) ∧ (h34 46 4) = (h 46 4) ∧ (h34 49 4) = (h 49 4) ∧ (h34 49 5) = (h 49 5) ∧ (h34 64 0) = (h 64 0) ∧ (h34 76 0) = (h 76 0); omega)⟩
          · skip
            refine ov_blk (ls2 := [(0, ov_r 0), (1, ov_i x), (2, ov_i y), (3, ov_i s), (4, ov_i v3)]) (st2 := [ov_i (-1)]) (pc2 := 42) b_146_41_1 rfl rfl ?_
            exact ov_reti (st := []) d_146_42 rfl ⟨_, rfl, I10, (by show ((h9 36 7) = 1 → (h9 36 8) = (h9 0 10)) ∧ (h9 1 1) = (h 1 1) ∧ (h9 90 2) = (h 90 2) ∧ (h9 0 10) = (h 0 10) ∧ (h9 0 11) = (h 0 11) ∧ (h9 0 12) = (h 0 12) ∧ (h9 0 13) = (h 0 13) ∧ (h9 3 1) = (h 3 1) ∧ (h9 46 3) = (h 46 3) ∧ (h9 46 4) = (h 46 4) ∧ (h9 49 4) = (h 49 4) ∧ (h9 49 5) = (h 49 5) ∧ (h9 64 0) = (h 64 0) ∧ (h9 76 0) = (h 76 0); omega)⟩
  · skip
    refine ov_getf (v := ov_r 70) d_146_1 fl_OF_78 (zb_0 I) (zs_0 I) (congrArg ov_r e1) ?_
    refine ov_blk (ls2 := [(0, ov_r 0), (1, ov_i x), (2, ov_i y), (3, ov_i s)]) (st2 := [ov_i y, ov_i x, ov_r 70]) (pc2 := 6) b_146_4_2 rfl rfl ?_
    refine ov_cV (as := [ov_i x, ov_i y]) (st := []) (d2 := d - 1) d_146_6 lk_OF_131 rfl (Nat.le_of_ble_eq_true rfl) (c := 9) (zb_70 I) (zs_70 I) ⟨by decide, rfl⟩ (by omega) (c_Town_corner_70 (d - 1) (by omega) U I x y (by omega) (by omega)) ?_
    rintro _ _ _ ⟨v40, rfl, rfl, rfl, f39⟩
    show ov_R u d ov_m146 9 [(0, ov_r 0), (1, ov_i x), (2, ov_i y), (3, ov_i s)] [ov_i v40] z h (P_OF_watch_0 F z h x y s)
    have f41 : v40 = -1 ∨ (0 ≤ x ∧ x < (h 70 0) ∧ 0 ≤ y ∧ y < (h 70 1) ∧ v40 = y * 6 + x ∧ (h 70 0) ≤ 6 ∧ (h 70 1) ≤ 9) := f39
    clear f39
    refine ov_blk (ls2 := [(0, ov_r 0), (1, ov_i x), (2, ov_i y), (3, ov_i s), (4, ov_i v40)]) (st2 := [ov_i (-1), ov_i v40]) (pc2 := 14) b_146_9_3 rfl rfl ?_
    refine ov_iceq (tgt := 41) d_146_14 (by decide) (by omega) (by omega) (fun c42 => ?_) (fun c42 => ?_)
    · skip
      refine ov_blk (ls2 := [(0, ov_r 0), (1, ov_i x), (2, ov_i y), (3, ov_i s), (4, ov_i v40)]) (st2 := [ov_i (-1)]) (pc2 := 42) b_146_41_1 rfl rfl ?_
      exact ov_reti (st := []) d_146_42 rfl ⟨_, rfl, I, (by show ((h 36 7) = 1 → (h 36 8) = (h 0 10)) ∧ (h 1 1) = (h 1 1) ∧ (h 90 2) = (h 90 2) ∧ (h 0 10) = (h 0 10) ∧ (h 0 11) = (h 0 11) ∧ (h 0 12) = (h 0 12) ∧ (h 0 13) = (h 0 13) ∧ (h 3 1) = (h 3 1) ∧ (h 46 3) = (h 46 3) ∧ (h 46 4) = (h 46 4) ∧ (h 49 4) = (h 49 4) ∧ (h 49 5) = (h 49 5) ∧ (h 64 0) = (h 64 0) ∧ (h 76 0) = (h 76 0); omega)⟩
    · skip
      refine ov_blk (ls2 := [(0, ov_r 0), (1, ov_i x), (2, ov_i y), (3, ov_i s), (4, ov_i v40)]) (st2 := [ov_i 0, ov_i s, ov_i 0, ov_i 3, ov_r 0]) (pc2 := 22) b_146_17_5 rfl rfl ?_
      refine ov_cV (as := [ov_i 3, ov_i 0, ov_i s, ov_i 0]) (st := []) (d2 := d - 1) d_146_22 lk_OF_211 rfl (Nat.le_of_ble_eq_true rfl) (c := 0) (zb_0 I) (zs_0 I) ⟨by decide, rfl⟩ (by omega) (c_OF_reckoned_0 (d - 1) (by omega) U I (ov_kws hw (by decide +kernel)) 3 0 s 0 (by omega) (by omega) (by omega) (by omega) (by omega) (by omega) (by omega)) ?_
      rintro _ z45 h46 ⟨v44, rfl, I47, f43⟩
      show ov_R u d ov_m146 25 [(0, ov_r 0), (1, ov_i x), (2, ov_i y), (3, ov_i s), (4, ov_i v40)] [ov_i v44] z45 h46 (P_OF_watch_0 F z h x y s)
      have f48 : -2147483648 ≤ v44 ∧ v44 ≤ 2147483647 ∧ ((h46 36 7) = 1 → (h46 36 8) = (h46 0 10)) ∧ (¬ v44 = -1 → (h46 36 8) = (h46 0 10)) ∧ (h46 1 1) = (h 1 1) ∧ (h46 90 2) = (h 90 2) ∧ (h46 0 10) = (h 0 10) ∧ (h46 0 11) = (h 0 11) ∧ (h46 0 12) = (h 0 12) ∧ (h46 0 13) = (h 0 13) ∧ (h46 3 1) = (h 3 1) ∧ (h46 46 3) = (h 46 3) ∧ (h46 46 4) = (h 46 4) ∧ (h46 49 4) = (h 49 4) ∧ (h46 49 5) = (h 49 5) ∧ (h46 64 0) = (h 64 0) ∧ (h46 76 0) = (h 76 0) := f43
      clear f43
      have e49 : h46 0 10 = 70 := by omega
      refine ov_blk (ls2 := [(0, ov_r 0), (1, ov_i x), (2, ov_i y), (3, ov_i s), (4, ov_i v40)]) (st2 := [ov_i (-1), ov_i v44]) (pc2 := 26) b_146_25_1 rfl rfl ?_
      refine ov_iceq (tgt := 41) d_146_26 (by decide) (by omega) (by omega) (fun c50 => ?_) (fun c50 => ?_)
      · skip
        refine ov_blk (ls2 := [(0, ov_r 0), (1, ov_i x), (2, ov_i y), (3, ov_i s), (4, ov_i v40)]) (st2 := [ov_i (-1)]) (pc2 := 42) b_146_41_1 rfl rfl ?_
        exact ov_reti (st := []) d_146_42 rfl ⟨_, rfl, I47, (by show ((h46 36 7) = 1 → (h46 36 8) = (h46 0 10)) ∧ (h46 1 1) = (h 1 1) ∧ (h46 90 2) = (h 90 2) ∧ (h46 0 10) = (h 0 10) ∧ (h46 0 11) = (h 0 11) ∧ (h46 0 12) = (h 0 12) ∧ (h46 0 13) = (h 0 13) ∧ (h46 3 1) = (h 3 1) ∧ (h46 46 3) = (h 46 3) ∧ (h46 46 4) = (h 46 4) ∧ (h46 49 4) = (h 49 4) ∧ (h46 49 5) = (h 49 5) ∧ (h46 64 0) = (h 64 0) ∧ (h46 76 0) = (h 76 0); omega)⟩
      · skip
        refine ov_blk (ls2 := [(0, ov_r 0), (1, ov_i x), (2, ov_i y), (3, ov_i s), (4, ov_i v40)]) (st2 := [ov_r 0]) (pc2 := 30) b_146_29_1 rfl rfl ?_
        refine ov_getf (v := ov_r 36) d_146_30 fl_OF_50 (zb_0 I47) (zs_0 I47) (congrArg ov_r (rg_0_6 I47)) ?_
        refine ov_blk (ls2 := [(0, ov_r 0), (1, ov_i x), (2, ov_i y), (3, ov_i s), (4, ov_i v40)]) (st2 := [ov_i v40, ov_r 36]) (pc2 := 35) b_146_33_1 rfl rfl ?_
        rcases rg_36_8 I47 with e51 | e51 | e51
        · omega
        · skip
          refine ov_cV (as := [ov_i v40]) (st := []) (d2 := d - 1) d_146_35 lk_OF_228 rfl (Nat.le_of_ble_eq_true rfl) (c := 2) (zb_36 I47) (zs_36 I47) ⟨by decide, rfl⟩ (by omega) (c_Goers_hides_36_k36_8_58 (d - 1) (by omega) U I47 v40 e51 (by omega) (by omega)) ?_
          rintro _ _ _ ⟨v53, rfl, rfl, rfl, f52⟩
          show ov_R u d ov_m146 38 [(0, ov_r 0), (1, ov_i x), (2, ov_i y), (3, ov_i s), (4, ov_i v40)] [ov_i v53] z45 h46 (P_OF_watch_0 F z h x y s)
          have f54 : (v53 = 0 ∨ v53 = 1) := f52
          clear f52
          refine ov_ifne (tgt := 43) d_146_38 (by decide) (by omega) (fun c55 => ?_) (fun c55 => ?_)
          · skip
            refine ov_blk (ls2 := [(0, ov_r 0), (1, ov_i x), (2, ov_i y), (3, ov_i s), (4, ov_i v40)]) (st2 := [ov_r 0]) (pc2 := 44) b_146_43_1 rfl rfl ?_
            refine ov_getf (v := ov_r 36) d_146_44 fl_OF_50 (zb_0 I47) (zs_0 I47) (congrArg ov_r (rg_0_6 I47)) ?_
            refine ov_blk (ls2 := [(0, ov_r 0), (1, ov_i x), (2, ov_i y), (3, ov_i s), (4, ov_i v40)]) (st2 := [ov_i s, ov_i v40, ov_r 36]) (pc2 := 50) b_146_47_2 rfl rfl ?_
            refine ov_cV (as := [ov_i v40, ov_i s]) (st := []) (d2 := d - 1) d_146_50 lk_OF_238 rfl (Nat.le_of_ble_eq_true rfl) (c := 2) (zb_36 I47) (zs_36 I47) ⟨by decide, rfl⟩ (by omega) (c_Goers_worthOfWatching_36_k36_8_58 (d - 1) (by omega) U I47 (ov_kws hw (by decide +kernel)) v40 s e51 (by omega) (by omega) (by omega) (by omega)) ?_
            rintro _ z58 h59 ⟨v57, rfl, I60, f56⟩
            show ov_R u d ov_m146 53 [(0, ov_r 0), (1, ov_i x), (2, ov_i y), (3, ov_i s), (4, ov_i v40)] [ov_i v57] z58 h59 (P_OF_watch_0 F z h x y s)
            have f61 : -2147483648 ≤ v57 ∧ v57 ≤ 2147483647 ∧ (h59 36 7) = (h46 36 7) ∧ (h59 1 1) = (h46 1 1) ∧ (h59 90 2) = (h46 90 2) ∧ (h59 0 10) = (h46 0 10) ∧ (h59 0 11) = (h46 0 11) ∧ (h59 0 12) = (h46 0 12) ∧ (h59 0 13) = (h46 0 13) ∧ (h59 3 1) = (h46 3 1) ∧ (h59 36 8) = (h46 36 8) ∧ (h59 46 3) = (h46 46 3) ∧ (h59 46 4) = (h46 46 4) ∧ (h59 49 4) = (h46 49 4) ∧ (h59 49 5) = (h46 49 5) ∧ (h59 64 0) = (h46 64 0) ∧ (h59 76 0) = (h46 76 0) := f56
            clear f56
            have e62 : h59 0 10 = 70 := by omega
            have e63 : h59 36 8 = 58 := by omega
            exact ov_reti (st := []) d_146_53 rfl ⟨_, rfl, I60, (by show ((h59 36 7) = 1 → (h59 36 8) = (h59 0 10)) ∧ (h59 1 1) = (h 1 1) ∧ (h59 90 2) = (h 90 2) ∧ (h59 0 10) = (h 0 10) ∧ (h59 0 11) = (h 0 11) ∧ (h59 0 12) = (h 0 12) ∧ (h59 0 13) = (h 0 13) ∧ (h59 3 1) = (h 3 1) ∧ (h59 46 3) = (h 46 3) ∧ (h59 46 4) = (h 46 4) ∧ (h59 49 4) = (h 49 4) ∧ (h59 49 5) = (h 49 5) ∧ (h59 64 0) = (h 64 0) ∧ (h59 76 0) = (h 76 0); omega)⟩
          · skip
            refine ov_blk (ls2 := [(0, ov_r 0), (1, ov_i x), (2, ov_i y), (3, ov_i s), (4, ov_i v40)]) (st2 := [ov_i (-1)]) (pc2 := 42) b_146_41_1 rfl rfl ?_
            exact ov_reti (st := []) d_146_42 rfl ⟨_, rfl, I47, (by show ((h46 36 7) = 1 → (h46 36 8) = (h46 0 10)) ∧ (h46 1 1) = (h 1 1) ∧ (h46 90 2) = (h 90 2) ∧ (h46 0 10) = (h 0 10) ∧ (h46 0 11) = (h 0 11) ∧ (h46 0 12) = (h 0 12) ∧ (h46 0 13) = (h 0 13) ∧ (h46 3 1) = (h 3 1) ∧ (h46 46 3) = (h 46 3) ∧ (h46 46 4) = (h 46 4) ∧ (h46 49 4) = (h 49 4) ∧ (h46 49 5) = (h 49 5) ∧ (h46 64 0) = (h 64 0) ∧ (h46 76 0) = (h 76 0); omega)⟩
        · skip
          refine ov_cV (as := [ov_i v40]) (st := []) (d2 := d - 1) d_146_35 lk_OF_228 rfl (Nat.le_of_ble_eq_true rfl) (c := 2) (zb_36 I47) (zs_36 I47) ⟨by decide, rfl⟩ (by omega) (c_Goers_hides_36_k36_8_70 (d - 1) (by omega) U I47 v40 e51 (by omega) (by omega)) ?_
          rintro _ _ _ ⟨v65, rfl, rfl, rfl, f64⟩
          show ov_R u d ov_m146 38 [(0, ov_r 0), (1, ov_i x), (2, ov_i y), (3, ov_i s), (4, ov_i v40)] [ov_i v65] z45 h46 (P_OF_watch_0 F z h x y s)
          have f66 : (v65 = 0 ∨ v65 = 1) := f64
          clear f64
          refine ov_ifne (tgt := 43) d_146_38 (by decide) (by omega) (fun c67 => ?_) (fun c67 => ?_)
          · skip
            refine ov_blk (ls2 := [(0, ov_r 0), (1, ov_i x), (2, ov_i y), (3, ov_i s), (4, ov_i v40)]) (st2 := [ov_r 0]) (pc2 := 44) b_146_43_1 rfl rfl ?_
            refine ov_getf (v := ov_r 36) d_146_44 fl_OF_50 (zb_0 I47) (zs_0 I47) (congrArg ov_r (rg_0_6 I47)) ?_
            refine ov_blk (ls2 := [(0, ov_r 0), (1, ov_i x), (2, ov_i y), (3, ov_i s), (4, ov_i v40)]) (st2 := [ov_i s, ov_i v40, ov_r 36]) (pc2 := 50) b_146_47_2 rfl rfl ?_
            refine ov_cV (as := [ov_i v40, ov_i s]) (st := []) (d2 := d - 1) d_146_50 lk_OF_238 rfl (Nat.le_of_ble_eq_true rfl) (c := 2) (zb_36 I47) (zs_36 I47) ⟨by decide, rfl⟩ (by omega) (c_Goers_worthOfWatching_36_k36_8_70 (d - 1) (by omega) U I47 (ov_kws hw (by decide +kernel)) v40 s e51 (by omega) (by omega) (by omega) (by omega)) ?_
            rintro _ z70 h71 ⟨v69, rfl, I72, f68⟩
            show ov_R u d ov_m146 53 [(0, ov_r 0), (1, ov_i x), (2, ov_i y), (3, ov_i s), (4, ov_i v40)] [ov_i v69] z70 h71 (P_OF_watch_0 F z h x y s)
            have f73 : -2147483648 ≤ v69 ∧ v69 ≤ 2147483647 ∧ (h71 36 7) = (h46 36 7) ∧ (h71 1 1) = (h46 1 1) ∧ (h71 90 2) = (h46 90 2) ∧ (h71 0 10) = (h46 0 10) ∧ (h71 0 11) = (h46 0 11) ∧ (h71 0 12) = (h46 0 12) ∧ (h71 0 13) = (h46 0 13) ∧ (h71 3 1) = (h46 3 1) ∧ (h71 36 8) = (h46 36 8) ∧ (h71 46 3) = (h46 46 3) ∧ (h71 46 4) = (h46 46 4) ∧ (h71 49 4) = (h46 49 4) ∧ (h71 49 5) = (h46 49 5) ∧ (h71 64 0) = (h46 64 0) ∧ (h71 76 0) = (h46 76 0) := f68
            clear f68
            have e74 : h71 0 10 = 70 := by omega
            have e75 : h71 36 8 = 70 := by omega
            exact ov_reti (st := []) d_146_53 rfl ⟨_, rfl, I72, (by show ((h71 36 7) = 1 → (h71 36 8) = (h71 0 10)) ∧ (h71 1 1) = (h 1 1) ∧ (h71 90 2) = (h 90 2) ∧ (h71 0 10) = (h 0 10) ∧ (h71 0 11) = (h 0 11) ∧ (h71 0 12) = (h 0 12) ∧ (h71 0 13) = (h 0 13) ∧ (h71 3 1) = (h 3 1) ∧ (h71 46 3) = (h 46 3) ∧ (h71 46 4) = (h 46 4) ∧ (h71 49 4) = (h 49 4) ∧ (h71 49 5) = (h 49 5) ∧ (h71 64 0) = (h 64 0) ∧ (h71 76 0) = (h 76 0); omega)⟩
          · skip
            refine ov_blk (ls2 := [(0, ov_r 0), (1, ov_i x), (2, ov_i y), (3, ov_i s), (4, ov_i v40)]) (st2 := [ov_i (-1)]) (pc2 := 42) b_146_41_1 rfl rfl ?_
            exact ov_reti (st := []) d_146_42 rfl ⟨_, rfl, I47, (by show ((h46 36 7) = 1 → (h46 36 8) = (h46 0 10)) ∧ (h46 1 1) = (h 1 1) ∧ (h46 90 2) = (h 90 2) ∧ (h46 0 10) = (h 0 10) ∧ (h46 0 11) = (h 0 11) ∧ (h46 0 12) = (h 0 12) ∧ (h46 0 13) = (h 0 13) ∧ (h46 3 1) = (h 3 1) ∧ (h46 46 3) = (h 46 3) ∧ (h46 46 4) = (h 46 4) ∧ (h46 49 4) = (h 49 4) ∧ (h46 49 5) = (h 49 5) ∧ (h46 64 0) = (h 64 0) ∧ (h46 76 0) = (h 76 0); omega)⟩
abbrev P_OF_latest_0 (F : ov_H) (z : ov_Z) (h : ov_H) (x : Int) (y : Int) (s : Int) : Option ov_V → ov_Z → ov_H → Prop := fun r0 z' h' => ∃ r : Int, r0 = some (ov_i r) ∧ ov_I F z' h' ∧ ((h' 36 7) = (h 36 7) ∧ (h' 1 1) = (h 1 1) ∧ (h' 90 2) = (h 90 2) ∧ (h' 0 10) = (h 0 10) ∧ (h' 0 11) = (h 0 11) ∧ (h' 0 12) = (h 0 12) ∧ (h' 0 13) = (h 0 13) ∧ (h' 3 1) = (h 3 1) ∧ (h' 36 8) = (h 36 8) ∧ (h' 46 4) = (h 46 4) ∧ (h' 49 4) = (h 49 4) ∧ (h' 49 5) = (h 49 5) ∧ (h' 64 0) = (h 64 0) ∧ (h' 76 0) = (h 76 0))
set_option maxHeartbeats 4000000 in
theorem c_OF_latest_0 {u : ov_U} {F : ov_H} {z : ov_Z} {h : ov_H} (d : Nat) (hd : 6 ≤ d) (U : ov_cap u) (I : ov_I F z h) (x : Int) (y : Int) (s : Int) (g_x : ov_g x) (g_y : ov_g y) (g_s : ov_g s) (p0 : (h 0 10 = 58 ∧ F (-5) 58 = 1 ∨ h 0 10 = 70 ∧ F (-5) 70 = 1)) : ov_T u d ov_m149 [ov_r 0, ov_i x, ov_i y, ov_i s] z h (P_OF_latest_0 F z h x y s) := by
  refine ov_en rfl (Nat.le_of_ble_eq_true rfl) ?_
  show ov_R u d ov_m149 0 [(0, ov_r 0), (1, ov_i x), (2, ov_i y), (3, ov_i s)] [] z h (P_OF_latest_0 F z h x y s)
  refine ov_blk (ls2 := [(0, ov_r 0), (1, ov_i x), (2, ov_i y), (3, ov_i s)]) (st2 := [ov_r 0]) (pc2 := 1) b_149_0_1 rfl rfl ?_
  rcases rg_0_10 I with e1 | e1
  · skip
    refine ov_getf (v := ov_r 58) d_149_1 fl_OF_78 (zb_0 I) (zs_0 I) (congrArg ov_r e1) ?_
    refine ov_blk (ls2 := [(0, ov_r 0), (1, ov_i x), (2, ov_i y), (3, ov_i s)]) (st2 := [ov_i y, ov_i x, ov_r 58]) (pc2 := 6) b_149_4_2 rfl rfl ?_
    refine ov_cV (as := [ov_i x, ov_i y]) (st := []) (d2 := d - 1) d_149_6 lk_OF_131 rfl (Nat.le_of_ble_eq_true rfl) (c := 9) (zb_58 I) (zs_58 I) ⟨by decide, rfl⟩ (by omega) (c_Town_corner_58 (d - 1) (by omega) U I x y (by omega) (by omega)) ?_
    rintro _ _ _ ⟨v3, rfl, rfl, rfl, f2⟩
    show ov_R u d ov_m149 9 [(0, ov_r 0), (1, ov_i x), (2, ov_i y), (3, ov_i s)] [ov_i v3] z h (P_OF_latest_0 F z h x y s)
    have f4 : v3 = -1 ∨ (0 ≤ x ∧ x < (h 58 0) ∧ 0 ≤ y ∧ y < (h 58 1) ∧ v3 = y * 6 + x ∧ (h 58 0) ≤ 6 ∧ (h 58 1) ≤ 9) := f2
    clear f2
    refine ov_blk (ls2 := [(0, ov_r 0), (1, ov_i x), (2, ov_i y), (3, ov_i s), (4, ov_i v3)]) (st2 := [ov_i (-1), ov_i v3]) (pc2 := 14) b_149_9_3 rfl rfl ?_
    refine ov_iceq (tgt := 24) d_149_14 (by decide) (by omega) (by omega) (fun c5 => ?_) (fun c5 => ?_)
    · skip
      refine ov_blk (ls2 := [(0, ov_r 0), (1, ov_i x), (2, ov_i y), (3, ov_i s), (4, ov_i v3)]) (st2 := [ov_i (-1)]) (pc2 := 25) b_149_24_1 rfl rfl ?_
      exact ov_reti (st := []) d_149_25 rfl ⟨_, rfl, I, (by show (h 36 7) = (h 36 7) ∧ (h 1 1) = (h 1 1) ∧ (h 90 2) = (h 90 2) ∧ (h 0 10) = (h 0 10) ∧ (h 0 11) = (h 0 11) ∧ (h 0 12) = (h 0 12) ∧ (h 0 13) = (h 0 13) ∧ (h 3 1) = (h 3 1) ∧ (h 36 8) = (h 36 8) ∧ (h 46 4) = (h 46 4) ∧ (h 49 4) = (h 49 4) ∧ (h 49 5) = (h 49 5) ∧ (h 64 0) = (h 64 0) ∧ (h 76 0) = (h 76 0); omega)⟩
    · skip
      refine ov_blk (ls2 := [(0, ov_r 0), (1, ov_i x), (2, ov_i y), (3, ov_i s), (4, ov_i v3)]) (st2 := [ov_i s]) (pc2 := 18) b_149_17_1 rfl rfl ?_
      refine ov_cS (as := [ov_i s]) (st := []) (d2 := d - 1) d_149_18 lk_OF_155 rfl (Nat.le_of_ble_eq_true rfl) (by omega) (c_OF_isSecond (d - 1) (by omega) U I s (by omega)) ?_
      rintro _ _ _ ⟨v7, rfl, rfl, rfl, f6⟩
      show ov_R u d ov_m149 21 [(0, ov_r 0), (1, ov_i x), (2, ov_i y), (3, ov_i s), (4, ov_i v3)] [ov_i v7] z h (P_OF_latest_0 F z h x y s)
      have f8 : (v7 = 0 ∨ v7 = 1) ∧ (v7 = 1 → 0 ≤ s ∧ s ≤ 1000000) := f6
      clear f6
      refine ov_ifne (tgt := 26) d_149_21 (by decide) (by omega) (fun c9 => ?_) (fun c9 => ?_)
      · skip
        refine ov_blk (ls2 := [(0, ov_r 0), (1, ov_i x), (2, ov_i y), (3, ov_i s), (4, ov_i v3)]) (st2 := [ov_r 0]) (pc2 := 27) b_149_26_1 rfl rfl ?_
        refine ov_getf (v := ov_r 46) d_149_27 fl_OF_57 (zb_0 I) (zs_0 I) (congrArg ov_r (rg_0_7 I)) ?_
        refine ov_blk (ls2 := [(0, ov_r 0), (1, ov_i x), (2, ov_i y), (3, ov_i s), (4, ov_i v3)]) (st2 := [ov_r 0, ov_r 46]) (pc2 := 31) b_149_30_1 rfl rfl ?_
        refine ov_getf (v := ov_r 58) d_149_31 fl_OF_78 (zb_0 I) (zs_0 I) (congrArg ov_r e1) ?_
        refine ov_blk (ls2 := [(0, ov_r 0), (1, ov_i x), (2, ov_i y), (3, ov_i s), (4, ov_i v3)]) (st2 := [ov_i s, ov_i v3, ov_r 58, ov_r 46]) (pc2 := 37) b_149_34_2 rfl rfl ?_
        refine ov_cV (as := [ov_r 58, ov_i v3, ov_i s]) (st := []) (d2 := d - 1) d_149_37 lk_OF_241 rfl (Nat.le_of_ble_eq_true rfl) (c := 12) (zb_46 I) (zs_46 I) ⟨by decide, rfl⟩ (by omega) (c_Ways_lastAsSoon_46_58 (d - 1) (by omega) U I v3 s (by omega) (by omega) (by omega) (by omega)) ?_
        rintro _ z12 h13 ⟨v11, rfl, I14, f10⟩
        show ov_R u d ov_m149 40 [(0, ov_r 0), (1, ov_i x), (2, ov_i y), (3, ov_i s), (4, ov_i v3)] [ov_i v11] z12 h13 (P_OF_latest_0 F z h x y s)
        have f15 : -2147483648 ≤ v11 ∧ v11 ≤ 2147483647 ∧ (h13 36 7) = (h 36 7) ∧ (h13 1 1) = (h 1 1) ∧ (h13 90 2) = (h 90 2) ∧ (h13 0 10) = (h 0 10) ∧ (h13 0 11) = (h 0 11) ∧ (h13 0 12) = (h 0 12) ∧ (h13 0 13) = (h 0 13) ∧ (h13 3 1) = (h 3 1) ∧ (h13 36 8) = (h 36 8) ∧ (h13 46 4) = (h 46 4) ∧ (h13 49 4) = (h 49 4) ∧ (h13 49 5) = (h 49 5) ∧ (h13 64 0) = (h 64 0) ∧ (h13 76 0) = (h 76 0) := f10
        clear f10
        have e16 : h13 0 10 = 58 := by omega
        exact ov_reti (st := []) d_149_40 rfl ⟨_, rfl, I14, (by show (h13 36 7) = (h 36 7) ∧ (h13 1 1) = (h 1 1) ∧ (h13 90 2) = (h 90 2) ∧ (h13 0 10) = (h 0 10) ∧ (h13 0 11) = (h 0 11) ∧ (h13 0 12) = (h 0 12) ∧ (h13 0 13) = (h 0 13) ∧ (h13 3 1) = (h 3 1) ∧ (h13 36 8) = (h 36 8) ∧ (h13 46 4) = (h 46 4) ∧ (h13 49 4) = (h 49 4) ∧ (h13 49 5) = (h 49 5) ∧ (h13 64 0) = (h 64 0) ∧ (h13 76 0) = (h 76 0); omega)⟩
      · skip
        refine ov_blk (ls2 := [(0, ov_r 0), (1, ov_i x), (2, ov_i y), (3, ov_i s), (4, ov_i v3)]) (st2 := [ov_i (-1)]) (pc2 := 25) b_149_24_1 rfl rfl ?_
        exact ov_reti (st := []) d_149_25 rfl ⟨_, rfl, I, (by show (h 36 7) = (h 36 7) ∧ (h 1 1) = (h 1 1) ∧ (h 90 2) = (h 90 2) ∧ (h 0 10) = (h 0 10) ∧ (h 0 11) = (h 0 11) ∧ (h 0 12) = (h 0 12) ∧ (h 0 13) = (h 0 13) ∧ (h 3 1) = (h 3 1) ∧ (h 36 8) = (h 36 8) ∧ (h 46 4) = (h 46 4) ∧ (h 49 4) = (h 49 4) ∧ (h 49 5) = (h 49 5) ∧ (h 64 0) = (h 64 0) ∧ (h 76 0) = (h 76 0); omega)⟩
  · skip
    refine ov_getf (v := ov_r 70) d_149_1 fl_OF_78 (zb_0 I) (zs_0 I) (congrArg ov_r e1) ?_
    refine ov_blk (ls2 := [(0, ov_r 0), (1, ov_i x), (2, ov_i y), (3, ov_i s)]) (st2 := [ov_i y, ov_i x, ov_r 70]) (pc2 := 6) b_149_4_2 rfl rfl ?_
    refine ov_cV (as := [ov_i x, ov_i y]) (st := []) (d2 := d - 1) d_149_6 lk_OF_131 rfl (Nat.le_of_ble_eq_true rfl) (c := 9) (zb_70 I) (zs_70 I) ⟨by decide, rfl⟩ (by omega) (c_Town_corner_70 (d - 1) (by omega) U I x y (by omega) (by omega)) ?_
    rintro _ _ _ ⟨v18, rfl, rfl, rfl, f17⟩
    show ov_R u d ov_m149 9 [(0, ov_r 0), (1, ov_i x), (2, ov_i y), (3, ov_i s)] [ov_i v18] z h (P_OF_latest_0 F z h x y s)
    have f19 : v18 = -1 ∨ (0 ≤ x ∧ x < (h 70 0) ∧ 0 ≤ y ∧ y < (h 70 1) ∧ v18 = y * 6 + x ∧ (h 70 0) ≤ 6 ∧ (h 70 1) ≤ 9) := f17
    clear f17
    refine ov_blk (ls2 := [(0, ov_r 0), (1, ov_i x), (2, ov_i y), (3, ov_i s), (4, ov_i v18)]) (st2 := [ov_i (-1), ov_i v18]) (pc2 := 14) b_149_9_3 rfl rfl ?_
    refine ov_iceq (tgt := 24) d_149_14 (by decide) (by omega) (by omega) (fun c20 => ?_) (fun c20 => ?_)
    · skip
      refine ov_blk (ls2 := [(0, ov_r 0), (1, ov_i x), (2, ov_i y), (3, ov_i s), (4, ov_i v18)]) (st2 := [ov_i (-1)]) (pc2 := 25) b_149_24_1 rfl rfl ?_
      exact ov_reti (st := []) d_149_25 rfl ⟨_, rfl, I, (by show (h 36 7) = (h 36 7) ∧ (h 1 1) = (h 1 1) ∧ (h 90 2) = (h 90 2) ∧ (h 0 10) = (h 0 10) ∧ (h 0 11) = (h 0 11) ∧ (h 0 12) = (h 0 12) ∧ (h 0 13) = (h 0 13) ∧ (h 3 1) = (h 3 1) ∧ (h 36 8) = (h 36 8) ∧ (h 46 4) = (h 46 4) ∧ (h 49 4) = (h 49 4) ∧ (h 49 5) = (h 49 5) ∧ (h 64 0) = (h 64 0) ∧ (h 76 0) = (h 76 0); omega)⟩
    · skip
      refine ov_blk (ls2 := [(0, ov_r 0), (1, ov_i x), (2, ov_i y), (3, ov_i s), (4, ov_i v18)]) (st2 := [ov_i s]) (pc2 := 18) b_149_17_1 rfl rfl ?_
      refine ov_cS (as := [ov_i s]) (st := []) (d2 := d - 1) d_149_18 lk_OF_155 rfl (Nat.le_of_ble_eq_true rfl) (by omega) (c_OF_isSecond (d - 1) (by omega) U I s (by omega)) ?_
      rintro _ _ _ ⟨v22, rfl, rfl, rfl, f21⟩
      show ov_R u d ov_m149 21 [(0, ov_r 0), (1, ov_i x), (2, ov_i y), (3, ov_i s), (4, ov_i v18)] [ov_i v22] z h (P_OF_latest_0 F z h x y s)
      have f23 : (v22 = 0 ∨ v22 = 1) ∧ (v22 = 1 → 0 ≤ s ∧ s ≤ 1000000) := f21
      clear f21
      refine ov_ifne (tgt := 26) d_149_21 (by decide) (by omega) (fun c24 => ?_) (fun c24 => ?_)
      · skip
        refine ov_blk (ls2 := [(0, ov_r 0), (1, ov_i x), (2, ov_i y), (3, ov_i s), (4, ov_i v18)]) (st2 := [ov_r 0]) (pc2 := 27) b_149_26_1 rfl rfl ?_
        refine ov_getf (v := ov_r 46) d_149_27 fl_OF_57 (zb_0 I) (zs_0 I) (congrArg ov_r (rg_0_7 I)) ?_
        refine ov_blk (ls2 := [(0, ov_r 0), (1, ov_i x), (2, ov_i y), (3, ov_i s), (4, ov_i v18)]) (st2 := [ov_r 0, ov_r 46]) (pc2 := 31) b_149_30_1 rfl rfl ?_
        refine ov_getf (v := ov_r 70) d_149_31 fl_OF_78 (zb_0 I) (zs_0 I) (congrArg ov_r e1) ?_
        refine ov_blk (ls2 := [(0, ov_r 0), (1, ov_i x), (2, ov_i y), (3, ov_i s), (4, ov_i v18)]) (st2 := [ov_i s, ov_i v18, ov_r 70, ov_r 46]) (pc2 := 37) b_149_34_2 rfl rfl ?_
        refine ov_cV (as := [ov_r 70, ov_i v18, ov_i s]) (st := []) (d2 := d - 1) d_149_37 lk_OF_241 rfl (Nat.le_of_ble_eq_true rfl) (c := 12) (zb_46 I) (zs_46 I) ⟨by decide, rfl⟩ (by omega) (c_Ways_lastAsSoon_46_70 (d - 1) (by omega) U I v18 s (by omega) (by omega) (by omega) (by omega)) ?_
        rintro _ z27 h28 ⟨v26, rfl, I29, f25⟩
        show ov_R u d ov_m149 40 [(0, ov_r 0), (1, ov_i x), (2, ov_i y), (3, ov_i s), (4, ov_i v18)] [ov_i v26] z27 h28 (P_OF_latest_0 F z h x y s)
        have f30 : -2147483648 ≤ v26 ∧ v26 ≤ 2147483647 ∧ (h28 36 7) = (h 36 7) ∧ (h28 1 1) = (h 1 1) ∧ (h28 90 2) = (h 90 2) ∧ (h28 0 10) = (h 0 10) ∧ (h28 0 11) = (h 0 11) ∧ (h28 0 12) = (h 0 12) ∧ (h28 0 13) = (h 0 13) ∧ (h28 3 1) = (h 3 1) ∧ (h28 36 8) = (h 36 8) ∧ (h28 46 4) = (h 46 4) ∧ (h28 49 4) = (h 49 4) ∧ (h28 49 5) = (h 49 5) ∧ (h28 64 0) = (h 64 0) ∧ (h28 76 0) = (h 76 0) := f25
        clear f25
        have e31 : h28 0 10 = 70 := by omega
        exact ov_reti (st := []) d_149_40 rfl ⟨_, rfl, I29, (by show (h28 36 7) = (h 36 7) ∧ (h28 1 1) = (h 1 1) ∧ (h28 90 2) = (h 90 2) ∧ (h28 0 10) = (h 0 10) ∧ (h28 0 11) = (h 0 11) ∧ (h28 0 12) = (h 0 12) ∧ (h28 0 13) = (h 0 13) ∧ (h28 3 1) = (h 3 1) ∧ (h28 36 8) = (h 36 8) ∧ (h28 46 4) = (h 46 4) ∧ (h28 49 4) = (h 49 4) ∧ (h28 49 5) = (h 49 5) ∧ (h28 64 0) = (h 64 0) ∧ (h28 76 0) = (h 76 0); omega)⟩
      · skip
        refine ov_blk (ls2 := [(0, ov_r 0), (1, ov_i x), (2, ov_i y), (3, ov_i s), (4, ov_i v18)]) (st2 := [ov_i (-1)]) (pc2 := 25) b_149_24_1 rfl rfl ?_
        exact ov_reti (st := []) d_149_25 rfl ⟨_, rfl, I, (by show (h 36 7) = (h 36 7) ∧ (h 1 1) = (h 1 1) ∧ (h 90 2) = (h 90 2) ∧ (h 0 10) = (h 0 10) ∧ (h 0 11) = (h 0 11) ∧ (h 0 12) = (h 0 12) ∧ (h 0 13) = (h 0 13) ∧ (h 3 1) = (h 3 1) ∧ (h 36 8) = (h 36 8) ∧ (h 46 4) = (h 46 4) ∧ (h 49 4) = (h 49 4) ∧ (h 49 5) = (h 49 5) ∧ (h 64 0) = (h 64 0) ∧ (h 76 0) = (h 76 0); omega)⟩
abbrev P_OF_turning_0 (F : ov_H) (z : ov_Z) (h : ov_H) (s : Int) (o : Int) : Option ov_V → ov_Z → ov_H → Prop := fun r0 z' h' => ∃ r : Int, r0 = some (ov_i r) ∧ ov_I F z' h' ∧ ((h' 36 7) = (h 36 7) ∧ (h' 1 1) = (h 1 1) ∧ (h' 90 2) = (h 90 2) ∧ (h' 0 10) = (h 0 10) ∧ (h' 0 11) = (h 0 11) ∧ (h' 0 12) = (h 0 12) ∧ (h' 0 13) = (h 0 13) ∧ (h' 3 1) = (h 3 1) ∧ (h' 36 8) = (h 36 8) ∧ (h' 46 4) = (h 46 4) ∧ (h' 49 4) = (h 49 4) ∧ (h' 49 5) = (h 49 5) ∧ (h' 64 0) = (h 64 0) ∧ (h' 76 0) = (h 76 0))
set_option maxHeartbeats 4000000 in
theorem c_OF_turning_0 {u : ov_U} {F : ov_H} {z : ov_Z} {h : ov_H} (d : Nat) (hd : 6 ≤ d) (U : ov_cap u) (I : ov_I F z h) (s : Int) (o : Int) (g_s : ov_g s) (g_o : ov_g o) (p0 : (h 0 10 = 58 ∧ F (-5) 58 = 1 ∨ h 0 10 = 70 ∧ F (-5) 70 = 1)) : ov_T u d ov_m151 [ov_r 0, ov_i s, ov_i o] z h (P_OF_turning_0 F z h s o) := by
  refine ov_en rfl (Nat.le_of_ble_eq_true rfl) ?_
  show ov_R u d ov_m151 0 [(0, ov_r 0), (1, ov_i s), (2, ov_i o)] [] z h (P_OF_turning_0 F z h s o)
  refine ov_blk (ls2 := [(0, ov_r 0), (1, ov_i s), (2, ov_i o)]) (st2 := [ov_i s]) (pc2 := 1) b_151_0_1 rfl rfl ?_
  refine ov_cS (as := [ov_i s]) (st := []) (d2 := d - 1) d_151_1 lk_OF_155 rfl (Nat.le_of_ble_eq_true rfl) (by omega) (c_OF_isSecond (d - 1) (by omega) U I s (by omega)) ?_
  rintro _ _ _ ⟨v2, rfl, rfl, rfl, f1⟩
  show ov_R u d ov_m151 4 [(0, ov_r 0), (1, ov_i s), (2, ov_i o)] [ov_i v2] z h (P_OF_turning_0 F z h s o)
  have f3 : (v2 = 0 ∨ v2 = 1) ∧ (v2 = 1 → 0 ≤ s ∧ s ≤ 1000000) := f1
  clear f1
  refine ov_ifeq (tgt := 17) d_151_4 (by decide) (by omega) (fun c4 => ?_) (fun c4 => ?_)
  · skip
    refine ov_blk (ls2 := [(0, ov_r 0), (1, ov_i s), (2, ov_i o)]) (st2 := [ov_i (-1)]) (pc2 := 18) b_151_17_1 rfl rfl ?_
    exact ov_reti (st := []) d_151_18 rfl ⟨_, rfl, I, (by show (h 36 7) = (h 36 7) ∧ (h 1 1) = (h 1 1) ∧ (h 90 2) = (h 90 2) ∧ (h 0 10) = (h 0 10) ∧ (h 0 11) = (h 0 11) ∧ (h 0 12) = (h 0 12) ∧ (h 0 13) = (h 0 13) ∧ (h 3 1) = (h 3 1) ∧ (h 36 8) = (h 36 8) ∧ (h 46 4) = (h 46 4) ∧ (h 49 4) = (h 49 4) ∧ (h 49 5) = (h 49 5) ∧ (h 64 0) = (h 64 0) ∧ (h 76 0) = (h 76 0); omega)⟩
  · skip
    refine ov_blk (ls2 := [(0, ov_r 0), (1, ov_i s), (2, ov_i o)]) (st2 := [ov_i o]) (pc2 := 8) b_151_7_1 rfl rfl ?_
    refine ov_iflt (tgt := 17) d_151_8 (by decide) (by omega) (fun c5 => ?_) (fun c5 => ?_)
    · skip
      refine ov_blk (ls2 := [(0, ov_r 0), (1, ov_i s), (2, ov_i o)]) (st2 := [ov_i (-1)]) (pc2 := 18) b_151_17_1 rfl rfl ?_
      exact ov_reti (st := []) d_151_18 rfl ⟨_, rfl, I, (by show (h 36 7) = (h 36 7) ∧ (h 1 1) = (h 1 1) ∧ (h 90 2) = (h 90 2) ∧ (h 0 10) = (h 0 10) ∧ (h 0 11) = (h 0 11) ∧ (h 0 12) = (h 0 12) ∧ (h 0 13) = (h 0 13) ∧ (h 3 1) = (h 3 1) ∧ (h 36 8) = (h 36 8) ∧ (h 46 4) = (h 46 4) ∧ (h 49 4) = (h 49 4) ∧ (h 49 5) = (h 49 5) ∧ (h 64 0) = (h 64 0) ∧ (h 76 0) = (h 76 0); omega)⟩
    · skip
      refine ov_blk (ls2 := [(0, ov_r 0), (1, ov_i s), (2, ov_i o)]) (st2 := [ov_i 12, ov_i o]) (pc2 := 14) b_151_11_2 rfl rfl ?_
      refine ov_icle (tgt := 19) d_151_14 (by decide) (by omega) (by omega) (fun c6 => ?_) (fun c6 => ?_)
      · skip
        refine ov_blk (ls2 := [(0, ov_r 0), (1, ov_i s), (2, ov_i o)]) (st2 := [ov_r 0]) (pc2 := 20) b_151_19_1 rfl rfl ?_
        refine ov_getf (v := ov_r 46) d_151_20 fl_OF_57 (zb_0 I) (zs_0 I) (congrArg ov_r (rg_0_7 I)) ?_
        refine ov_blk (ls2 := [(0, ov_r 0), (1, ov_i s), (2, ov_i o)]) (st2 := [ov_r 0, ov_r 46]) (pc2 := 24) b_151_23_1 rfl rfl ?_
        rcases rg_0_10 I with e7 | e7
        · skip
          refine ov_getf (v := ov_r 58) d_151_24 fl_OF_78 (zb_0 I) (zs_0 I) (congrArg ov_r e7) ?_
          refine ov_blk (ls2 := [(0, ov_r 0), (1, ov_i s), (2, ov_i o)]) (st2 := [ov_i o, ov_i s, ov_r 58, ov_r 46]) (pc2 := 29) b_151_27_2 rfl rfl ?_
          refine ov_cV (as := [ov_r 58, ov_i s, ov_i o]) (st := []) (d2 := d - 1) d_151_29 lk_OF_244 rfl (Nat.le_of_ble_eq_true rfl) (c := 12) (zb_46 I) (zs_46 I) ⟨by decide, rfl⟩ (by omega) (c_Ways_arrivalTurning_46_58 (d - 1) (by omega) U I s o (by omega) (by omega) (by omega) (by omega)) ?_
          rintro _ z10 h11 ⟨v9, rfl, I12, f8⟩
          show ov_R u d ov_m151 32 [(0, ov_r 0), (1, ov_i s), (2, ov_i o)] [ov_i v9] z10 h11 (P_OF_turning_0 F z h s o)
          have f13 : -2147483648 ≤ v9 ∧ v9 ≤ 2147483647 ∧ (h11 36 7) = (h 36 7) ∧ (h11 1 1) = (h 1 1) ∧ (h11 90 2) = (h 90 2) ∧ (h11 0 10) = (h 0 10) ∧ (h11 0 11) = (h 0 11) ∧ (h11 0 12) = (h 0 12) ∧ (h11 0 13) = (h 0 13) ∧ (h11 3 1) = (h 3 1) ∧ (h11 36 8) = (h 36 8) ∧ (h11 46 4) = (h 46 4) ∧ (h11 49 4) = (h 49 4) ∧ (h11 49 5) = (h 49 5) ∧ (h11 64 0) = (h 64 0) ∧ (h11 76 0) = (h 76 0) := f8
          clear f8
          have e14 : h11 0 10 = 58 := by omega
          exact ov_reti (st := []) d_151_32 rfl ⟨_, rfl, I12, (by show (h11 36 7) = (h 36 7) ∧ (h11 1 1) = (h 1 1) ∧ (h11 90 2) = (h 90 2) ∧ (h11 0 10) = (h 0 10) ∧ (h11 0 11) = (h 0 11) ∧ (h11 0 12) = (h 0 12) ∧ (h11 0 13) = (h 0 13) ∧ (h11 3 1) = (h 3 1) ∧ (h11 36 8) = (h 36 8) ∧ (h11 46 4) = (h 46 4) ∧ (h11 49 4) = (h 49 4) ∧ (h11 49 5) = (h 49 5) ∧ (h11 64 0) = (h 64 0) ∧ (h11 76 0) = (h 76 0); omega)⟩
        · skip
          refine ov_getf (v := ov_r 70) d_151_24 fl_OF_78 (zb_0 I) (zs_0 I) (congrArg ov_r e7) ?_
          refine ov_blk (ls2 := [(0, ov_r 0), (1, ov_i s), (2, ov_i o)]) (st2 := [ov_i o, ov_i s, ov_r 70, ov_r 46]) (pc2 := 29) b_151_27_2 rfl rfl ?_
          refine ov_cV (as := [ov_r 70, ov_i s, ov_i o]) (st := []) (d2 := d - 1) d_151_29 lk_OF_244 rfl (Nat.le_of_ble_eq_true rfl) (c := 12) (zb_46 I) (zs_46 I) ⟨by decide, rfl⟩ (by omega) (c_Ways_arrivalTurning_46_70 (d - 1) (by omega) U I s o (by omega) (by omega) (by omega) (by omega)) ?_
          rintro _ z17 h18 ⟨v16, rfl, I19, f15⟩
          show ov_R u d ov_m151 32 [(0, ov_r 0), (1, ov_i s), (2, ov_i o)] [ov_i v16] z17 h18 (P_OF_turning_0 F z h s o)
          have f20 : -2147483648 ≤ v16 ∧ v16 ≤ 2147483647 ∧ (h18 36 7) = (h 36 7) ∧ (h18 1 1) = (h 1 1) ∧ (h18 90 2) = (h 90 2) ∧ (h18 0 10) = (h 0 10) ∧ (h18 0 11) = (h 0 11) ∧ (h18 0 12) = (h 0 12) ∧ (h18 0 13) = (h 0 13) ∧ (h18 3 1) = (h 3 1) ∧ (h18 36 8) = (h 36 8) ∧ (h18 46 4) = (h 46 4) ∧ (h18 49 4) = (h 49 4) ∧ (h18 49 5) = (h 49 5) ∧ (h18 64 0) = (h 64 0) ∧ (h18 76 0) = (h 76 0) := f15
          clear f15
          have e21 : h18 0 10 = 70 := by omega
          exact ov_reti (st := []) d_151_32 rfl ⟨_, rfl, I19, (by show (h18 36 7) = (h 36 7) ∧ (h18 1 1) = (h 1 1) ∧ (h18 90 2) = (h 90 2) ∧ (h18 0 10) = (h 0 10) ∧ (h18 0 11) = (h 0 11) ∧ (h18 0 12) = (h 0 12) ∧ (h18 0 13) = (h 0 13) ∧ (h18 3 1) = (h 3 1) ∧ (h18 36 8) = (h 36 8) ∧ (h18 46 4) = (h 46 4) ∧ (h18 49 4) = (h 49 4) ∧ (h18 49 5) = (h 49 5) ∧ (h18 64 0) = (h 64 0) ∧ (h18 76 0) = (h 76 0); omega)⟩
      · skip
        refine ov_blk (ls2 := [(0, ov_r 0), (1, ov_i s), (2, ov_i o)]) (st2 := [ov_i (-1)]) (pc2 := 18) b_151_17_1 rfl rfl ?_
        exact ov_reti (st := []) d_151_18 rfl ⟨_, rfl, I, (by show (h 36 7) = (h 36 7) ∧ (h 1 1) = (h 1 1) ∧ (h 90 2) = (h 90 2) ∧ (h 0 10) = (h 0 10) ∧ (h 0 11) = (h 0 11) ∧ (h 0 12) = (h 0 12) ∧ (h 0 13) = (h 0 13) ∧ (h 3 1) = (h 3 1) ∧ (h 36 8) = (h 36 8) ∧ (h 46 4) = (h 46 4) ∧ (h 49 4) = (h 49 4) ∧ (h 49 5) = (h 49 5) ∧ (h 64 0) = (h 64 0) ∧ (h 76 0) = (h 76 0); omega)⟩
abbrev P_OF_worthiest_0 (F : ov_H) (z : ov_Z) (h : ov_H) (s : Int) : Option ov_V → ov_Z → ov_H → Prop := fun r0 z' h' => ∃ r : Int, r0 = some (ov_i r) ∧ ov_I F z' h' ∧ (((h' 36 7) = 1 → (h' 36 8) = (h' 0 10)) ∧ (h' 1 1) = (h 1 1) ∧ (h' 90 2) = (h 90 2) ∧ (h' 0 10) = (h 0 10) ∧ (h' 0 11) = (h 0 11) ∧ (h' 0 12) = (h 0 12) ∧ (h' 0 13) = (h 0 13) ∧ (h' 3 1) = (h 3 1) ∧ (h' 46 3) = (h 46 3) ∧ (h' 46 4) = (h 46 4) ∧ (h' 49 4) = (h 49 4) ∧ (h' 49 5) = (h 49 5) ∧ (h' 64 0) = (h 64 0) ∧ (h' 76 0) = (h 76 0))
set_option maxHeartbeats 4000000 in
theorem c_OF_worthiest_0 {u : ov_U} {F : ov_H} {z : ov_Z} {h : ov_H} (d : Nat) (hd : 310 ≤ d) (U : ov_cap u) (I : ov_I F z h) (hw : ov_kw 2418441935039617055064064 F) (s : Int) (g_s : ov_g s) (p0 : h 36 7 = 1 → h 36 8 = h 0 10) (p1 : (h 0 10 = 58 ∧ F (-5) 58 = 1 ∨ h 0 10 = 70 ∧ F (-5) 70 = 1)) : ov_T u d ov_m156 [ov_r 0, ov_i s] z h (P_OF_worthiest_0 F z h s) := by
  refine ov_en rfl (Nat.le_of_ble_eq_true rfl) ?_
  show ov_R u d ov_m156 0 [(0, ov_r 0), (1, ov_i s)] [] z h (P_OF_worthiest_0 F z h s)
  refine ov_blk (ls2 := [(0, ov_r 0), (1, ov_i s)]) (st2 := [ov_i 0, ov_i s, ov_i 0, ov_i 3, ov_r 0]) (pc2 := 5) b_156_0_5 rfl rfl ?_
  refine ov_cV (as := [ov_i 3, ov_i 0, ov_i s, ov_i 0]) (st := []) (d2 := d - 1) d_156_5 lk_OF_211 rfl (Nat.le_of_ble_eq_true rfl) (c := 0) (zb_0 I) (zs_0 I) ⟨by decide, rfl⟩ (by omega) (c_OF_reckoned_0 (d - 1) (by omega) U I (ov_kws hw (by decide +kernel)) 3 0 s 0 (by omega) (by omega) (by omega) (by omega) (by omega) (by omega) (by omega)) ?_
  rintro _ z3 h4 ⟨v2, rfl, I5, f1⟩
  show ov_R u d ov_m156 8 [(0, ov_r 0), (1, ov_i s)] [ov_i v2] z3 h4 (P_OF_worthiest_0 F z h s)
  have f6 : -2147483648 ≤ v2 ∧ v2 ≤ 2147483647 ∧ ((h4 36 7) = 1 → (h4 36 8) = (h4 0 10)) ∧ (¬ v2 = -1 → (h4 36 8) = (h4 0 10)) ∧ (h4 1 1) = (h 1 1) ∧ (h4 90 2) = (h 90 2) ∧ (h4 0 10) = (h 0 10) ∧ (h4 0 11) = (h 0 11) ∧ (h4 0 12) = (h 0 12) ∧ (h4 0 13) = (h 0 13) ∧ (h4 3 1) = (h 3 1) ∧ (h4 46 3) = (h 46 3) ∧ (h4 46 4) = (h 46 4) ∧ (h4 49 4) = (h 49 4) ∧ (h4 49 5) = (h 49 5) ∧ (h4 64 0) = (h 64 0) ∧ (h4 76 0) = (h 76 0) := f1
  clear f1
  refine ov_blk (ls2 := [(0, ov_r 0), (1, ov_i s)]) (st2 := [ov_i (-1), ov_i v2]) (pc2 := 9) b_156_8_1 rfl rfl ?_
  refine ov_icne (tgt := 14) d_156_9 (by decide) (by omega) (by omega) (fun c7 => ?_) (fun c7 => ?_)
  · skip
    refine ov_blk (ls2 := [(0, ov_r 0), (1, ov_i s)]) (st2 := [ov_r 0]) (pc2 := 15) b_156_14_1 rfl rfl ?_
    refine ov_getf (v := ov_r 36) d_156_15 fl_OF_50 (zb_0 I5) (zs_0 I5) (congrArg ov_r (rg_0_6 I5)) ?_
    refine ov_blk (ls2 := [(0, ov_r 0), (1, ov_i s)]) (st2 := [ov_i s, ov_r 36]) (pc2 := 19) b_156_18_1 rfl rfl ?_
    rcases rg_36_8 I5 with e8 | e8 | e8
    · omega
    · skip
      refine ov_cV (as := [ov_i s]) (st := []) (d2 := d - 1) d_156_19 lk_OF_247 rfl (Nat.le_of_ble_eq_true rfl) (c := 2) (zb_36 I5) (zs_36 I5) ⟨by decide, rfl⟩ (by omega) (c_Goers_mostWorthWatching_36_k36_8_58 (d - 1) (by omega) U I5 (ov_kws hw (by decide +kernel)) s e8 (by omega) (by omega)) ?_
      rintro _ z11 h12 ⟨v10, rfl, I13, f9⟩
      show ov_R u d ov_m156 22 [(0, ov_r 0), (1, ov_i s)] [ov_i v10] z11 h12 (P_OF_worthiest_0 F z h s)
      have f14 : -1 ≤ v10 ∧ v10 ≤ 53 ∧ (h12 36 7) = (h4 36 7) ∧ (h12 1 1) = (h4 1 1) ∧ (h12 90 2) = (h4 90 2) ∧ (h12 0 10) = (h4 0 10) ∧ (h12 0 11) = (h4 0 11) ∧ (h12 0 12) = (h4 0 12) ∧ (h12 0 13) = (h4 0 13) ∧ (h12 3 1) = (h4 3 1) ∧ (h12 36 8) = (h4 36 8) ∧ (h12 46 3) = (h4 46 3) ∧ (h12 46 4) = (h4 46 4) ∧ (h12 49 4) = (h4 49 4) ∧ (h12 49 5) = (h4 49 5) ∧ (h12 64 0) = (h4 64 0) ∧ (h12 76 0) = (h4 76 0) := f9
      clear f9
      have e15 : h12 36 8 = 58 := by omega
      refine ov_blk (ls2 := [(0, ov_r 0), (1, ov_i s), (2, ov_i v10)]) (st2 := [ov_i (-1), ov_i v10]) (pc2 := 25) b_156_22_3 rfl rfl ?_
      refine ov_icne (tgt := 32) d_156_25 (by decide) (by omega) (by omega) (fun c16 => ?_) (fun c16 => ?_)
      · skip
        refine ov_blk (ls2 := [(0, ov_r 0), (1, ov_i s), (2, ov_i v10)]) (st2 := [ov_i 6, ov_i v10, ov_i 8]) (pc2 := 37) b_156_32_3 rfl rfl ?_
        refine ov_idiv d_156_37 (by omega) (by omega) (by omega) ?_
        have g17 := ov_td (a := v10) (b := 6) (by omega)
        refine ov_blk (ls2 := [(0, ov_r 0), (1, ov_i s), (2, ov_i v10)]) (st2 := [ov_i 6, ov_i v10, ov_i (8 * (Int.tdiv v10 6))]) (pc2 := 42) b_156_38_3 rfl rfl ?_
        refine ov_irem d_156_42 (by omega) (by omega) (by omega) ?_
        have g18 := ov_tm (a := v10) (b := 6) (by omega)
        have g19 := ov_tmg (a := v10) (b := 6) (by omega) (by omega)
        refine ov_blk (ls2 := [(0, ov_r 0), (1, ov_i s), (2, ov_i v10)]) (st2 := [ov_i ((8 * (Int.tdiv v10 6)) + (Int.tmod v10 6))]) (pc2 := 44) b_156_43_1 rfl rfl ?_
        exact ov_reti (st := []) d_156_44 rfl ⟨_, rfl, I13, (by show ((h12 36 7) = 1 → (h12 36 8) = (h12 0 10)) ∧ (h12 1 1) = (h 1 1) ∧ (h12 90 2) = (h 90 2) ∧ (h12 0 10) = (h 0 10) ∧ (h12 0 11) = (h 0 11) ∧ (h12 0 12) = (h 0 12) ∧ (h12 0 13) = (h 0 13) ∧ (h12 3 1) = (h 3 1) ∧ (h12 46 3) = (h 46 3) ∧ (h12 46 4) = (h 46 4) ∧ (h12 49 4) = (h 49 4) ∧ (h12 49 5) = (h 49 5) ∧ (h12 64 0) = (h 64 0) ∧ (h12 76 0) = (h 76 0); omega)⟩
      · skip
        refine ov_blk (ls2 := [(0, ov_r 0), (1, ov_i s), (2, ov_i v10)]) (st2 := [ov_i (-1)]) (pc2 := 29) b_156_28_1 rfl rfl ?_
        refine ov_goto (tgt := 44) d_156_29 (by decide) ?_
        exact ov_reti (st := []) d_156_44 rfl ⟨_, rfl, I13, (by show ((h12 36 7) = 1 → (h12 36 8) = (h12 0 10)) ∧ (h12 1 1) = (h 1 1) ∧ (h12 90 2) = (h 90 2) ∧ (h12 0 10) = (h 0 10) ∧ (h12 0 11) = (h 0 11) ∧ (h12 0 12) = (h 0 12) ∧ (h12 0 13) = (h 0 13) ∧ (h12 3 1) = (h 3 1) ∧ (h12 46 3) = (h 46 3) ∧ (h12 46 4) = (h 46 4) ∧ (h12 49 4) = (h 49 4) ∧ (h12 49 5) = (h 49 5) ∧ (h12 64 0) = (h 64 0) ∧ (h12 76 0) = (h 76 0); omega)⟩
    · skip
      refine ov_cV (as := [ov_i s]) (st := []) (d2 := d - 1) d_156_19 lk_OF_247 rfl (Nat.le_of_ble_eq_true rfl) (c := 2) (zb_36 I5) (zs_36 I5) ⟨by decide, rfl⟩ (by omega) (c_Goers_mostWorthWatching_36_k36_8_70 (d - 1) (by omega) U I5 (ov_kws hw (by decide +kernel)) s e8 (by omega) (by omega)) ?_
      rintro _ z22 h23 ⟨v21, rfl, I24, f20⟩
      show ov_R u d ov_m156 22 [(0, ov_r 0), (1, ov_i s)] [ov_i v21] z22 h23 (P_OF_worthiest_0 F z h s)
      have f25 : -1 ≤ v21 ∧ v21 ≤ 53 ∧ (h23 36 7) = (h4 36 7) ∧ (h23 1 1) = (h4 1 1) ∧ (h23 90 2) = (h4 90 2) ∧ (h23 0 10) = (h4 0 10) ∧ (h23 0 11) = (h4 0 11) ∧ (h23 0 12) = (h4 0 12) ∧ (h23 0 13) = (h4 0 13) ∧ (h23 3 1) = (h4 3 1) ∧ (h23 36 8) = (h4 36 8) ∧ (h23 46 3) = (h4 46 3) ∧ (h23 46 4) = (h4 46 4) ∧ (h23 49 4) = (h4 49 4) ∧ (h23 49 5) = (h4 49 5) ∧ (h23 64 0) = (h4 64 0) ∧ (h23 76 0) = (h4 76 0) := f20
      clear f20
      have e26 : h23 36 8 = 70 := by omega
      refine ov_blk (ls2 := [(0, ov_r 0), (1, ov_i s), (2, ov_i v21)]) (st2 := [ov_i (-1), ov_i v21]) (pc2 := 25) b_156_22_3 rfl rfl ?_
      refine ov_icne (tgt := 32) d_156_25 (by decide) (by omega) (by omega) (fun c27 => ?_) (fun c27 => ?_)
      · skip
        refine ov_blk (ls2 := [(0, ov_r 0), (1, ov_i s), (2, ov_i v21)]) (st2 := [ov_i 6, ov_i v21, ov_i 8]) (pc2 := 37) b_156_32_3 rfl rfl ?_
        refine ov_idiv d_156_37 (by omega) (by omega) (by omega) ?_
        have g28 := ov_td (a := v21) (b := 6) (by omega)
        refine ov_blk (ls2 := [(0, ov_r 0), (1, ov_i s), (2, ov_i v21)]) (st2 := [ov_i 6, ov_i v21, ov_i (8 * (Int.tdiv v21 6))]) (pc2 := 42) b_156_38_3 rfl rfl ?_
        refine ov_irem d_156_42 (by omega) (by omega) (by omega) ?_
        have g29 := ov_tm (a := v21) (b := 6) (by omega)
        have g30 := ov_tmg (a := v21) (b := 6) (by omega) (by omega)
        refine ov_blk (ls2 := [(0, ov_r 0), (1, ov_i s), (2, ov_i v21)]) (st2 := [ov_i ((8 * (Int.tdiv v21 6)) + (Int.tmod v21 6))]) (pc2 := 44) b_156_43_1 rfl rfl ?_
        exact ov_reti (st := []) d_156_44 rfl ⟨_, rfl, I24, (by show ((h23 36 7) = 1 → (h23 36 8) = (h23 0 10)) ∧ (h23 1 1) = (h 1 1) ∧ (h23 90 2) = (h 90 2) ∧ (h23 0 10) = (h 0 10) ∧ (h23 0 11) = (h 0 11) ∧ (h23 0 12) = (h 0 12) ∧ (h23 0 13) = (h 0 13) ∧ (h23 3 1) = (h 3 1) ∧ (h23 46 3) = (h 46 3) ∧ (h23 46 4) = (h 46 4) ∧ (h23 49 4) = (h 49 4) ∧ (h23 49 5) = (h 49 5) ∧ (h23 64 0) = (h 64 0) ∧ (h23 76 0) = (h 76 0); omega)⟩
      · skip
        refine ov_blk (ls2 := [(0, ov_r 0), (1, ov_i s), (2, ov_i v21)]) (st2 := [ov_i (-1)]) (pc2 := 29) b_156_28_1 rfl rfl ?_
        refine ov_goto (tgt := 44) d_156_29 (by decide) ?_
        exact ov_reti (st := []) d_156_44 rfl ⟨_, rfl, I24, (by show ((h23 36 7) = 1 → (h23 36 8) = (h23 0 10)) ∧ (h23 1 1) = (h 1 1) ∧ (h23 90 2) = (h 90 2) ∧ (h23 0 10) = (h 0 10) ∧ (h23 0 11) = (h 0 11) ∧ (h23 0 12) = (h 0 12) ∧ (h23 0 13) = (h 0 13) ∧ (h23 3 1) = (h 3 1) ∧ (h23 46 3) = (h 46 3) ∧ (h23 46 4) = (h 46 4) ∧ (h23 49 4) = (h 49 4) ∧ (h23 49 5) = (h 49 5) ∧ (h23 64 0) = (h 64 0) ∧ (h23 76 0) = (h 76 0); omega)⟩
  · skip
    refine ov_blk (ls2 := [(0, ov_r 0), (1, ov_i s)]) (st2 := [ov_i (-1)]) (pc2 := 13) b_156_12_1 rfl rfl ?_
    exact ov_reti (st := []) d_156_13 rfl ⟨_, rfl, I5, (by show ((h4 36 7) = 1 → (h4 36 8) = (h4 0 10)) ∧ (h4 1 1) = (h 1 1) ∧ (h4 90 2) = (h 90 2) ∧ (h4 0 10) = (h 0 10) ∧ (h4 0 11) = (h 0 11) ∧ (h4 0 12) = (h 0 12) ∧ (h4 0 13) = (h 0 13) ∧ (h4 3 1) = (h 3 1) ∧ (h4 46 3) = (h 46 3) ∧ (h4 46 4) = (h 46 4) ∧ (h4 49 4) = (h 49 4) ∧ (h4 49 5) = (h 49 5) ∧ (h4 64 0) = (h 64 0) ∧ (h4 76 0) = (h 76 0); omega)⟩
abbrev P_OF_odds_0 (F : ov_H) (z : ov_Z) (h : ov_H) (g : Int) (s : Int) (by_ : Int) : Option ov_V → ov_Z → ov_H → Prop := fun r0 z' h' => ∃ r : Int, r0 = some (ov_i r) ∧ ov_I F z' h' ∧ (((h' 36 7) = 1 → (h' 36 8) = (h' 0 10)) ∧ (h' 1 1) = (h 1 1) ∧ (h' 90 2) = (h 90 2) ∧ (h' 0 10) = (h 0 10) ∧ (h' 0 11) = (h 0 11) ∧ (h' 0 12) = (h 0 12) ∧ (h' 0 13) = (h 0 13) ∧ (h' 3 1) = (h 3 1) ∧ (h' 46 3) = (h 46 3) ∧ (h' 46 4) = (h 46 4) ∧ (h' 49 4) = (h 49 4) ∧ (h' 49 5) = (h 49 5) ∧ (h' 64 0) = (h 64 0) ∧ (h' 76 0) = (h 76 0))
set_option maxHeartbeats 4000000 in
theorem c_OF_odds_0 {u : ov_U} {F : ov_H} {z : ov_Z} {h : ov_H} (d : Nat) (hd : 510 ≤ d) (U : ov_cap u) (I : ov_I F z h) (hw : ov_kw 2418441935039617055064064 F) (g : Int) (s : Int) (by_ : Int) (g_g : ov_g g) (g_s : ov_g s) (g_by_ : ov_g by_) (p0 : h 36 7 = 1 → h 36 8 = h 0 10) (p1 : (h 0 10 = 58 ∧ F (-5) 58 = 1 ∨ h 0 10 = 70 ∧ F (-5) 70 = 1)) : ov_T u d ov_m158 [ov_r 0, ov_i g, ov_i s, ov_i by_] z h (P_OF_odds_0 F z h g s by_) := by
  refine ov_en rfl (Nat.le_of_ble_eq_true rfl) ?_
  show ov_R u d ov_m158 0 [(0, ov_r 0), (1, ov_i g), (2, ov_i s), (3, ov_i by_)] [] z h (P_OF_odds_0 F z h g s by_)
  refine ov_blk (ls2 := [(0, ov_r 0), (1, ov_i g), (2, ov_i s), (3, ov_i by_)]) (st2 := [ov_i by_]) (pc2 := 1) b_158_0_1 rfl rfl ?_
  refine ov_cS (as := [ov_i by_]) (st := []) (d2 := d - 1) d_158_1 lk_OF_155 rfl (Nat.le_of_ble_eq_true rfl) (by omega) (c_OF_isSecond (d - 1) (by omega) U I by_ (by omega)) ?_
  rintro _ _ _ ⟨v2, rfl, rfl, rfl, f1⟩
  show ov_R u d ov_m158 4 [(0, ov_r 0), (1, ov_i g), (2, ov_i s), (3, ov_i by_)] [ov_i v2] z h (P_OF_odds_0 F z h g s by_)
  have f3 : (v2 = 0 ∨ v2 = 1) ∧ (v2 = 1 → 0 ≤ by_ ∧ by_ ≤ 1000000) := f1
  clear f1
  refine ov_ifeq (tgt := 19) d_158_4 (by decide) (by omega) (fun c4 => ?_) (fun c4 => ?_)
  · skip
    refine ov_blk (ls2 := [(0, ov_r 0), (1, ov_i g), (2, ov_i s), (3, ov_i by_)]) (st2 := [ov_i (-1)]) (pc2 := 20) b_158_19_1 rfl rfl ?_
    exact ov_reti (st := []) d_158_20 rfl ⟨_, rfl, I, (by show ((h 36 7) = 1 → (h 36 8) = (h 0 10)) ∧ (h 1 1) = (h 1 1) ∧ (h 90 2) = (h 90 2) ∧ (h 0 10) = (h 0 10) ∧ (h 0 11) = (h 0 11) ∧ (h 0 12) = (h 0 12) ∧ (h 0 13) = (h 0 13) ∧ (h 3 1) = (h 3 1) ∧ (h 46 3) = (h 46 3) ∧ (h 46 4) = (h 46 4) ∧ (h 49 4) = (h 49 4) ∧ (h 49 5) = (h 49 5) ∧ (h 64 0) = (h 64 0) ∧ (h 76 0) = (h 76 0); omega)⟩
  · skip
    refine ov_blk (ls2 := [(0, ov_r 0), (1, ov_i g), (2, ov_i s), (3, ov_i by_)]) (st2 := [ov_i 0, ov_i s, ov_i 0, ov_i g, ov_r 0]) (pc2 := 12) b_158_7_5 rfl rfl ?_
    refine ov_cV (as := [ov_i g, ov_i 0, ov_i s, ov_i 0]) (st := []) (d2 := d - 1) d_158_12 lk_OF_211 rfl (Nat.le_of_ble_eq_true rfl) (c := 0) (zb_0 I) (zs_0 I) ⟨by decide, rfl⟩ (by omega) (c_OF_reckoned_0 (d - 1) (by omega) U I (ov_kws hw (by decide +kernel)) g 0 s 0 (by omega) (by omega) (by omega) (by omega) (by omega) (by omega) (by omega)) ?_
    rintro _ z7 h8 ⟨v6, rfl, I9, f5⟩
    show ov_R u d ov_m158 15 [(0, ov_r 0), (1, ov_i g), (2, ov_i s), (3, ov_i by_)] [ov_i v6] z7 h8 (P_OF_odds_0 F z h g s by_)
    have f10 : -2147483648 ≤ v6 ∧ v6 ≤ 2147483647 ∧ ((h8 36 7) = 1 → (h8 36 8) = (h8 0 10)) ∧ (¬ v6 = -1 → (h8 36 8) = (h8 0 10)) ∧ (h8 1 1) = (h 1 1) ∧ (h8 90 2) = (h 90 2) ∧ (h8 0 10) = (h 0 10) ∧ (h8 0 11) = (h 0 11) ∧ (h8 0 12) = (h 0 12) ∧ (h8 0 13) = (h 0 13) ∧ (h8 3 1) = (h 3 1) ∧ (h8 46 3) = (h 46 3) ∧ (h8 46 4) = (h 46 4) ∧ (h8 49 4) = (h 49 4) ∧ (h8 49 5) = (h 49 5) ∧ (h8 64 0) = (h 64 0) ∧ (h8 76 0) = (h 76 0) := f5
    clear f5
    refine ov_blk (ls2 := [(0, ov_r 0), (1, ov_i g), (2, ov_i s), (3, ov_i by_)]) (st2 := [ov_i (-1), ov_i v6]) (pc2 := 16) b_158_15_1 rfl rfl ?_
    refine ov_icne (tgt := 21) d_158_16 (by decide) (by omega) (by omega) (fun c11 => ?_) (fun c11 => ?_)
    · skip
      refine ov_blk (ls2 := [(0, ov_r 0), (1, ov_i g), (2, ov_i s), (3, ov_i by_)]) (st2 := [ov_r 0]) (pc2 := 22) b_158_21_1 rfl rfl ?_
      refine ov_getf (v := ov_r 36) d_158_22 fl_OF_50 (zb_0 I9) (zs_0 I9) (congrArg ov_r (rg_0_6 I9)) ?_
      refine ov_blk (ls2 := [(0, ov_r 0), (1, ov_i g), (2, ov_i s), (3, ov_i by_)]) (st2 := [ov_i by_, ov_i s, ov_r 36]) (pc2 := 27) b_158_25_2 rfl rfl ?_
      rcases rg_36_8 I9 with e12 | e12 | e12
      · omega
      · skip
        refine ov_cV (as := [ov_i s, ov_i by_]) (st := []) (d2 := d - 1) d_158_27 lk_OF_251 rfl (Nat.le_of_ble_eq_true rfl) (c := 2) (zb_36 I9) (zs_36 I9) ⟨by decide, rfl⟩ (by omega) (c_Goers_chanceOf_36_k36_8_58 (d - 1) (by omega) U I9 (ov_kws hw (by decide +kernel)) s by_ e12 (by omega) (by omega) (by omega)) ?_
        rintro _ z15 h16 ⟨v14, rfl, I17, f13⟩
        show ov_R u d ov_m158 30 [(0, ov_r 0), (1, ov_i g), (2, ov_i s), (3, ov_i by_)] [ov_i v14] z15 h16 (P_OF_odds_0 F z h g s by_)
        have f18 : -2147483648 ≤ v14 ∧ v14 ≤ 2147483647 ∧ (h16 36 7) = (h8 36 7) ∧ (h16 1 1) = (h8 1 1) ∧ (h16 90 2) = (h8 90 2) ∧ (h16 0 10) = (h8 0 10) ∧ (h16 0 11) = (h8 0 11) ∧ (h16 0 12) = (h8 0 12) ∧ (h16 0 13) = (h8 0 13) ∧ (h16 3 1) = (h8 3 1) ∧ (h16 36 8) = (h8 36 8) ∧ (h16 46 3) = (h8 46 3) ∧ (h16 46 4) = (h8 46 4) ∧ (h16 49 4) = (h8 49 4) ∧ (h16 49 5) = (h8 49 5) ∧ (h16 64 0) = (h8 64 0) ∧ (h16 76 0) = (h8 76 0) := f13
        clear f13
        have e19 : h16 36 8 = 58 := by omega
        exact ov_reti (st := []) d_158_30 rfl ⟨_, rfl, I17, (by show ((h16 36 7) = 1 → (h16 36 8) = (h16 0 10)) ∧ (h16 1 1) = (h 1 1) ∧ (h16 90 2) = (h 90 2) ∧ (h16 0 10) = (h 0 10) ∧ (h16 0 11) = (h 0 11) ∧ (h16 0 12) = (h 0 12) ∧ (h16 0 13) = (h 0 13) ∧ (h16 3 1) = (h 3 1) ∧ (h16 46 3) = (h 46 3) ∧ (h16 46 4) = (h 46 4) ∧ (h16 49 4) = (h 49 4) ∧ (h16 49 5) = (h 49 5) ∧ (h16 64 0) = (h 64 0) ∧ (h16 76 0) = (h 76 0); omega)⟩
      · skip
        refine ov_cV (as := [ov_i s, ov_i by_]) (st := []) (d2 := d - 1) d_158_27 lk_OF_251 rfl (Nat.le_of_ble_eq_true rfl) (c := 2) (zb_36 I9) (zs_36 I9) ⟨by decide, rfl⟩ (by omega) (c_Goers_chanceOf_36_k36_8_70 (d - 1) (by omega) U I9 (ov_kws hw (by decide +kernel)) s by_ e12 (by omega) (by omega) (by omega)) ?_
        rintro _ z22 h23 ⟨v21, rfl, I24, f20⟩
        show ov_R u d ov_m158 30 [(0, ov_r 0), (1, ov_i g), (2, ov_i s), (3, ov_i by_)] [ov_i v21] z22 h23 (P_OF_odds_0 F z h g s by_)
        have f25 : -2147483648 ≤ v21 ∧ v21 ≤ 2147483647 ∧ (h23 36 7) = (h8 36 7) ∧ (h23 1 1) = (h8 1 1) ∧ (h23 90 2) = (h8 90 2) ∧ (h23 0 10) = (h8 0 10) ∧ (h23 0 11) = (h8 0 11) ∧ (h23 0 12) = (h8 0 12) ∧ (h23 0 13) = (h8 0 13) ∧ (h23 3 1) = (h8 3 1) ∧ (h23 36 8) = (h8 36 8) ∧ (h23 46 3) = (h8 46 3) ∧ (h23 46 4) = (h8 46 4) ∧ (h23 49 4) = (h8 49 4) ∧ (h23 49 5) = (h8 49 5) ∧ (h23 64 0) = (h8 64 0) ∧ (h23 76 0) = (h8 76 0) := f20
        clear f20
        have e26 : h23 36 8 = 70 := by omega
        exact ov_reti (st := []) d_158_30 rfl ⟨_, rfl, I24, (by show ((h23 36 7) = 1 → (h23 36 8) = (h23 0 10)) ∧ (h23 1 1) = (h 1 1) ∧ (h23 90 2) = (h 90 2) ∧ (h23 0 10) = (h 0 10) ∧ (h23 0 11) = (h 0 11) ∧ (h23 0 12) = (h 0 12) ∧ (h23 0 13) = (h 0 13) ∧ (h23 3 1) = (h 3 1) ∧ (h23 46 3) = (h 46 3) ∧ (h23 46 4) = (h 46 4) ∧ (h23 49 4) = (h 49 4) ∧ (h23 49 5) = (h 49 5) ∧ (h23 64 0) = (h 64 0) ∧ (h23 76 0) = (h 76 0); omega)⟩
    · skip
      refine ov_blk (ls2 := [(0, ov_r 0), (1, ov_i g), (2, ov_i s), (3, ov_i by_)]) (st2 := [ov_i (-1)]) (pc2 := 20) b_158_19_1 rfl rfl ?_
      exact ov_reti (st := []) d_158_20 rfl ⟨_, rfl, I9, (by show ((h8 36 7) = 1 → (h8 36 8) = (h8 0 10)) ∧ (h8 1 1) = (h 1 1) ∧ (h8 90 2) = (h 90 2) ∧ (h8 0 10) = (h 0 10) ∧ (h8 0 11) = (h 0 11) ∧ (h8 0 12) = (h 0 12) ∧ (h8 0 13) = (h 0 13) ∧ (h8 3 1) = (h 3 1) ∧ (h8 46 3) = (h 46 3) ∧ (h8 46 4) = (h 46 4) ∧ (h8 49 4) = (h 49 4) ∧ (h8 49 5) = (h 49 5) ∧ (h8 64 0) = (h 64 0) ∧ (h8 76 0) = (h 76 0); omega)⟩
